/-! Functions of the methods, by wip/gen/lift.py. -/
def B111_0 : List zRow := [(0, .aload_n 0, 1, (0, 0, 0)), (1, .getfield 60, 3, (11, 7, 135)), (4, .aload_n 0, 1, (0, 0, 0)), (5, .getfield 56, 3, (11, 6, 7))]
theorem K111_0 : zRk 111 B111_0 = true := by decide +kernel
def B111_1 : List zRow := [(11, .aload_n 0, 1, (0, 0, 0)), (12, .getfield 60, 3, (11, 7, 135)), (15, .getfield 177, 3, (1, 3, 5242906)), (18, .iload_n 1, 1, (0, 0, 0)), (19, .iload_n 2, 1, (0, 0, 0)), (20, .iastore, 1, (0, 0, 0)), (21, .aload_n 0, 1, (0, 0, 0)), (22, .getfield 60, 3, (11, 7, 135)), (25, .aload_n 0, 1, (0, 0, 0)), (26, .getfield 19, 3, (11, 1, 39)), (29, .iload_n 1, 1, (0, 0, 0)), (30, .iconst 1, 1, (0, 0, 0)), (31, .iload_n 3, 1, (0, 0, 0))]
theorem K111_1 : zRk 111 B111_1 = true := by decide +kernel
def B111_2 : List zRow := [(35, .pop, 1, (0, 0, 0)), (36, .aload_n 0, 1, (0, 0, 0)), (37, .getfield 60, 3, (11, 7, 135)), (40, .aload_n 0, 1, (0, 0, 0)), (41, .getfield 19, 3, (11, 1, 39)), (44, .iload 4, 2, (0, 0, 0))]
theorem K111_2 : zRk 111 B111_2 = true := by decide +kernel
def B111_3 : List zRow := [(49, .pop, 1, (0, 0, 0))]
theorem K111_3 : zRk 111 B111_3 = true := by decide +kernel
/-- EchoVale.passOneSaying(IIII)V -/
def F111 (v1 : Int) (v2 : Int) (v3 : Int) (v4 : Int) (h : zHC) : Option zHC := (F72 1 0 h).bind fun r1 => zG (0 ≤ v1 ∧ v1 < 6) ((F76 1 0 v1 1 v3 (hset r1 67 1 v1 v2)).bind fun r2 => (F88 1 0 v4 r2.2).bind fun r3 => some r3.2)
set_option maxRecDepth 100000 in
theorem S111 {spec : zRn zH2} {hm : zHM} {o : Int → Int} {d : Nat} (hd : 7 ≤ d) (v1 : Int) (v2 : Int) (v3 : Int) (v4 : Int) (h : zHC) (v : zHC) (e : F111 v1 v2 v3 v4 h = some v) : zRu2 spec d 111 [(21, 0), (0, v1), (0, v2), (0, v3), (0, v4)] (h, hm, o) none (v, hm, o) := by
  refine zF_in (D := 6) (mx := 5) (L := [some (21, 0), some (0, v1), some (0, v2), some (0, v3), some (0, v4)]) (by decide +kernel) rfl rfl hd (fun d hd => ?_)
  unfold F111 at e
  obtain ⟨r1, q1, e⟩ := zB_s e
  refine zF_blk (m := []) (d := 0) (b := B111_0) (gs := []) (c' := (8, [some (21, 0), some (0, v1), some (0, v2), some (0, v3), some (0, v4)], [(11, 0), (11, 1)], (h, hm, o))) K111_0 rfl trivial ?_
  refine zF_call (k := 72) (cl := 1) (n := 2) (i := .invokevirtual 276) (args := [(11, 1), (11, 0)]) (rest := []) (g1 := (r1, hm, o)) (r1 := none) (by decide +kernel) rfl rfl rfl (st' := []) rfl (S72 (Nat.le_trans (by decide) hd) 1 0 h _ q1) ?_
  obtain ⟨q2, e⟩ := zG_s e
  obtain ⟨r2, q3, e⟩ := zB_s e
  refine zF_blk (m := []) (d := 0) (b := B111_1) (gs := [0 ≤ v1 ∧ v1 < 6]) (c' := (32, [some (21, 0), some (0, v1), some (0, v2), some (0, v3), some (0, v4)], [(0, v3), (0, 1), (0, v1), (19, 0), (11, 1)], ((hset r1 67 1 v1 v2), hm, o))) K111_1 rfl ⟨q2, trivial⟩ ?_
  refine zF_call (k := 76) (cl := 1) (n := 5) (i := .invokevirtual 227) (args := [(11, 1), (19, 0), (0, v1), (0, 1), (0, v3)]) (rest := []) (g1 := (r2.2, hm, o)) (r1 := some (0, r2.1)) (by decide +kernel) rfl rfl rfl (st' := [(0, r2.1)]) rfl (S76 (Nat.le_trans (by decide) hd) 1 0 v1 1 v3 (hset r1 67 1 v1 v2) _ q3) ?_
  obtain ⟨r3, q4, e⟩ := zB_s e
  refine zF_blk (m := []) (d := 0) (b := B111_2) (gs := []) (c' := (46, [some (21, 0), some (0, v1), some (0, v2), some (0, v3), some (0, v4)], [(0, v4), (19, 0), (11, 1)], (r2.2, hm, o))) K111_2 rfl trivial ?_
  refine zF_call (k := 88) (cl := 1) (n := 3) (i := .invokevirtual 231) (args := [(11, 1), (19, 0), (0, v4)]) (rest := []) (g1 := (r3.2, hm, o)) (r1 := some (0, r3.1)) (by decide +kernel) rfl rfl rfl (st' := [(0, r3.1)]) rfl (S88 (Nat.le_trans (by decide) hd) 1 0 v4 r2.2 _ q4) ?_
  refine zF_blk (m := []) (d := 0) (b := B111_3) (gs := []) (c' := (50, [some (21, 0), some (0, v1), some (0, v2), some (0, v3), some (0, v4)], [], (r3.2, hm, o))) K111_3 rfl trivial ?_
  obtain rfl := Option.some.inj e
  exact zF_rv (by decide +kernel)
def B110_0 : List zRow := [(0, .aload_n 0, 1, (0, 0, 0)), (1, .iload_n 1, 1, (0, 0, 0))]
theorem K110_0 : zRk 110 B110_0 = true := by decide +kernel
def B110_1 : List zRow := [(52, .iconst (-1), 1, (0, 0, 0))]
theorem K110_1 : zRk 110 B110_1 = true := by decide +kernel
def B110_2 : List zRow := [(8, .aload_n 0, 1, (0, 0, 0)), (9, .iload_n 2, 1, (0, 0, 0))]
theorem K110_2 : zRk 110 B110_2 = true := by decide +kernel
def B110_3 : List zRow := [(21, .iload_n 3, 1, (0, 0, 0))]
theorem K110_3 : zRk 110 B110_3 = true := by decide +kernel
def B110_4 : List zRow := [(28, .iload 4, 2, (0, 0, 0))]
theorem K110_4 : zRk 110 B110_4 = true := by decide +kernel
def B110_5 : List zRow := [(42, .aload_n 0, 1, (0, 0, 0)), (43, .getfield 56, 3, (11, 6, 7))]
theorem K110_5 : zRk 110 B110_5 = true := by decide +kernel
def B110_6 : List zRow := [(54, .iconst 0, 1, (0, 0, 0)), (55, .istore 6, 2, (0, 0, 0)), (57, .iconst 0, 1, (0, 0, 0)), (58, .istore 7, 2, (0, 0, 0))]
theorem K110_6 : zRk 110 B110_6 = true := by decide +kernel
def B110_7 : List zRow := [(49, .ifCond .eq 5, 3, (0, 0, 0))]
theorem K110_7 : zRk 110 B110_7 = true := by decide +kernel
def B110_8 : List zRow := [(36, .iload 5, 2, (0, 0, 0)), (38, .iconst (-1), 1, (0, 0, 0)), (39, .if_icmp .lt 13, 3, (0, 0, 0))]
theorem K110_8 : zRk 110 B110_8 = true := by decide +kernel
def B110_9 : List zRow := [(33, .ifCond .eq 19, 3, (0, 0, 0))]
theorem K110_9 : zRk 110 B110_9 = true := by decide +kernel
def B110_10 : List zRow := [(25, .ifCond .eq 27, 3, (0, 0, 0))]
theorem K110_10 : zRk 110 B110_10 = true := by decide +kernel
def B110_11 : List zRow := [(16, .iload_n 1, 1, (0, 0, 0)), (17, .iload_n 2, 1, (0, 0, 0)), (18, .if_icmp .eq 34, 3, (0, 0, 0))]
theorem K110_11 : zRk 110 B110_11 = true := by decide +kernel
def B110_12 : List zRow := [(13, .ifCond .eq 39, 3, (0, 0, 0))]
theorem K110_12 : zRk 110 B110_12 = true := by decide +kernel
def B110_13 : List zRow := [(5, .ifCond .eq 47, 3, (0, 0, 0))]
theorem K110_13 : zRk 110 B110_13 = true := by decide +kernel
def B110_14 : List zRow := [(134, .iconst (-1), 1, (0, 0, 0))]
theorem K110_14 : zRk 110 B110_14 = true := by decide +kernel
def B110_15 : List zRow := [(129, .iload 6, 2, (0, 0, 0)), (131, .goto 4, 3, (0, 0, 0))]
theorem K110_15 : zRk 110 B110_15 = true := by decide +kernel
def B110_16 : List zRow := [(123, .iload 5, 2, (0, 0, 0)), (125, .iconst (-1), 1, (0, 0, 0)), (126, .if_icmp .ne 8, 3, (0, 0, 0))]
theorem K110_16 : zRk 110 B110_16 = true := by decide +kernel
def B110_17 : List zRow := [(67, .aload_n 0, 1, (0, 0, 0)), (68, .getfield 19, 3, (11, 1, 39)), (71, .iload 7, 2, (0, 0, 0))]
theorem K110_17 : zRk 110 B110_17 = true := by decide +kernel
def B110_18 : List zRow := [(79, .aload_n 0, 1, (0, 0, 0)), (80, .iload_n 1, 1, (0, 0, 0)), (81, .iload 7, 2, (0, 0, 0)), (83, .iload_n 3, 1, (0, 0, 0)), (84, .iload 4, 2, (0, 0, 0))]
theorem K110_18 : zRk 110 B110_18 = true := by decide +kernel
def B110_19 : List zRow := [(89, .aload_n 0, 1, (0, 0, 0)), (90, .getfield 60, 3, (11, 7, 135)), (93, .iconst 0, 1, (0, 0, 0)), (94, .iconst 5, 1, (0, 0, 0))]
theorem K110_19 : zRk 110 B110_19 = true := by decide +kernel
def B110_20 : List zRow := [(114, .iinc 6 1, 3, (0, 0, 0))]
theorem K110_20 : zRk 110 B110_20 = true := by decide +kernel
def B110_21 : List zRow := [(111, .iload 7, 2, (0, 0, 0))]
theorem K110_21 : zRk 110 B110_21 = true := by decide +kernel
def B110_22 : List zRow := [(104, .iload 6, 2, (0, 0, 0)), (106, .iload 5, 2, (0, 0, 0)), (108, .if_icmp .ne 6, 3, (0, 0, 0))]
theorem K110_22 : zRk 110 B110_22 = true := by decide +kernel
def B110_23 : List zRow := [(98, .iconst 1, 1, (0, 0, 0)), (99, .iload_n 2, 1, (0, 0, 0)), (100, .ishl, 1, (0, 0, 0)), (101, .if_icmp .ne 16, 3, (0, 0, 0))]
theorem K110_23 : zRk 110 B110_23 = true := by decide +kernel
def B110_24 : List zRow := [(76, .ifCond .eq 41, 3, (0, 0, 0))]
theorem K110_24 : zRk 110 B110_24 = true := by decide +kernel
def B110_25 : List zRow := [(60, .iload 7, 2, (0, 0, 0)), (62, .bipush 100, 2, (0, 0, 0)), (64, .if_icmp .ge 59, 3, (0, 0, 0))]
theorem K110_25 : zRk 110 B110_25 = true := by decide +kernel
def B110_26 : List zRow := [(117, .iinc 7 1, 3, (0, 0, 0)), (120, .goto (-60), 3, (0, 0, 0))]
theorem K110_26 : zRk 110 B110_26 = true := by decide +kernel
def F110_1 (k0 : Int → Int → Int → Int → Int → Int → Int → zHC → Option (Int × zHC)) (v1 : Int) (v2 : Int) (v3 : Int) (v4 : Int) (v5 : Int) (v6 : Int) (v7 : Int) (h : zHC) : Option (Int × zHC) := k0 v1 v2 v3 v4 v5 v6 (wadd v7 1) h
set_option maxRecDepth 100000 in
theorem T110_1 {spec : zRn zH2} {hm : zHM} {o : Int → Int} {d : Nat} (hd : 7 ≤ d) (k0 : Int → Int → Int → Int → Int → Int → Int → zHC → Option (Int × zHC)) (hk0 : ∀ (v1 : Int) (v2 : Int) (v3 : Int) (v4 : Int) (v5 : Int) (v6 : Int) (v7 : Int) (h : zHC) (v : (Int × zHC)), k0 v1 v2 v3 v4 v5 v6 v7 h = some v → zFin 0 (fun _ => 0) (zRu2 spec d) 110 (some (0, v.1)) (v.2, hm, o) (60, [some (21, 0), some (0, v1), some (0, v2), some (0, v3), some (0, v4), some (0, v5), some (0, v6), some (0, v7)], [], (h, hm, o))) (v1 : Int) (v2 : Int) (v3 : Int) (v4 : Int) (v5 : Int) (v6 : Int) (v7 : Int) (h : zHC) (v : (Int × zHC)) (e : F110_1 k0 v1 v2 v3 v4 v5 v6 v7 h = some v) : zFin 0 (fun _ => 0) (zRu2 spec d) 110 (some (0, v.1)) (v.2, hm, o) (117, [some (21, 0), some (0, v1), some (0, v2), some (0, v3), some (0, v4), some (0, v5), some (0, v6), some (0, v7)], [], (h, hm, o)) := by
  unfold F110_1 at e
  refine zF_blk (m := []) (d := 0) (b := B110_26) (gs := []) (c' := (60, [some (21, 0), some (0, v1), some (0, v2), some (0, v3), some (0, v4), some (0, v5), some (0, v6), some (0, (wadd v7 1))], [], (h, hm, o))) K110_26 rfl trivial ?_
  exact hk0 v1 v2 v3 v4 v5 v6 (wadd v7 1) h _ e
def F110_0 : Nat → Int → Int → Int → Int → Int → Int → Int → zHC → Option (Int × zHC)
  | 0, _, _, _, _, _, _, _, _ => none
  | n + 1, v1, v2, v3, v4, v5, v6, v7, h => if 100 ≤ v7 then if ¬ v5 = (-1) then some ((-1), h) else some (v6, h) else (F69 0 v7 h).bind fun r1 => if r1 = 0 then F110_1 (F110_0 n) v1 v2 v3 v4 v5 v6 v7 h else (F111 v1 v7 v3 v4 h).bind fun r2 => (F63 1 0 5 r2).bind fun r3 => if ¬ r3 = (wshl 1 v2) then F110_1 (F110_0 n) v1 v2 v3 v4 v5 v6 v7 r2 else if ¬ v6 = v5 then F110_1 (F110_0 n) v1 v2 v3 v4 v5 (wadd v6 1) v7 r2 else some (v7, r2)
set_option maxRecDepth 100000 in
theorem T110_0 {spec : zRn zH2} {hm : zHM} {o : Int → Int} {d : Nat} (hd : 7 ≤ d) : ∀ (n : Nat) (v1 : Int) (v2 : Int) (v3 : Int) (v4 : Int) (v5 : Int) (v6 : Int) (v7 : Int) (h : zHC) (v : (Int × zHC)), F110_0 n v1 v2 v3 v4 v5 v6 v7 h = some v → zFin 0 (fun _ => 0) (zRu2 spec d) 110 (some (0, v.1)) (v.2, hm, o) (60, [some (21, 0), some (0, v1), some (0, v2), some (0, v3), some (0, v4), some (0, v5), some (0, v6), some (0, v7)], [], (h, hm, o)) := by
  intro n
  induction n with
  | zero => intro v1 v2 v3 v4 v5 v6 v7 h v e; unfold F110_0 at e; cases e
  | succ n hk0 =>
    intro v1 v2 v3 v4 v5 v6 v7 h v e
    unfold F110_0 at e
    rcases zI_s e with ⟨q1, e⟩ | ⟨q1, e⟩
    · refine zF_blk (m := []) (d := 1) (b := B110_25) (gs := [100 ≤ v7]) (c' := (123, [some (21, 0), some (0, v1), some (0, v2), some (0, v3), some (0, v4), some (0, v5), some (0, v6), some (0, v7)], [], (h, hm, o))) K110_25 rfl ⟨q1, trivial⟩ ?_
      rcases zI_s e with ⟨q2, e⟩ | ⟨q2, e⟩
      · refine zF_blk (m := []) (d := 1) (b := B110_16) (gs := [¬ v5 = (-1)]) (c' := (134, [some (21, 0), some (0, v1), some (0, v2), some (0, v3), some (0, v4), some (0, v5), some (0, v6), some (0, v7)], [], (h, hm, o))) K110_16 rfl ⟨q2, trivial⟩ ?_
        refine zF_blk (m := []) (d := 0) (b := B110_14) (gs := []) (c' := (135, [some (21, 0), some (0, v1), some (0, v2), some (0, v3), some (0, v4), some (0, v5), some (0, v6), some (0, v7)], [(0, (-1))], (h, hm, o))) K110_14 rfl trivial ?_
        exact zF_riC (by decide +kernel) e
      · refine zF_blk (m := []) (d := 0) (b := B110_16) (gs := [¬ (¬ v5 = (-1))]) (c' := (129, [some (21, 0), some (0, v1), some (0, v2), some (0, v3), some (0, v4), some (0, v5), some (0, v6), some (0, v7)], [], (h, hm, o))) K110_16 rfl ⟨q2, trivial⟩ ?_
        refine zF_blk (m := []) (d := 0) (b := B110_15) (gs := []) (c' := (135, [some (21, 0), some (0, v1), some (0, v2), some (0, v3), some (0, v4), some (0, v5), some (0, v6), some (0, v7)], [(0, v6)], (h, hm, o))) K110_15 rfl trivial ?_
        exact zF_riC (by decide +kernel) e
    · refine zF_blk (m := []) (d := 0) (b := B110_25) (gs := [¬ (100 ≤ v7)]) (c' := (67, [some (21, 0), some (0, v1), some (0, v2), some (0, v3), some (0, v4), some (0, v5), some (0, v6), some (0, v7)], [], (h, hm, o))) K110_25 rfl ⟨q1, trivial⟩ ?_
      obtain ⟨r1, q3, e⟩ := zB_s e
      refine zF_blk (m := []) (d := 0) (b := B110_17) (gs := []) (c' := (73, [some (21, 0), some (0, v1), some (0, v2), some (0, v3), some (0, v4), some (0, v5), some (0, v6), some (0, v7)], [(0, v7), (19, 0)], (h, hm, o))) K110_17 rfl trivial ?_
      refine zF_call (k := 69) (cl := 9) (n := 2) (i := .invokevirtual 214) (args := [(19, 0), (0, v7)]) (rest := []) (g1 := (h, hm, o)) (r1 := some (0, r1)) (by decide +kernel) rfl rfl rfl (st' := [(0, r1)]) rfl (S69 (Nat.le_trans (by decide) hd) 0 v7 h _ q3) ?_
      rcases zI_s e with ⟨q4, e⟩ | ⟨q4, e⟩
      · refine zF_blk (m := []) (d := 1) (b := B110_24) (gs := [r1 = 0]) (c' := (117, [some (21, 0), some (0, v1), some (0, v2), some (0, v3), some (0, v4), some (0, v5), some (0, v6), some (0, v7)], [], (h, hm, o))) K110_24 rfl ⟨q4, trivial⟩ ?_
        exact T110_1 hd (F110_0 n) hk0 v1 v2 v3 v4 v5 v6 v7 h _ e
      · refine zF_blk (m := []) (d := 0) (b := B110_24) (gs := [¬ (r1 = 0)]) (c' := (79, [some (21, 0), some (0, v1), some (0, v2), some (0, v3), some (0, v4), some (0, v5), some (0, v6), some (0, v7)], [], (h, hm, o))) K110_24 rfl ⟨q4, trivial⟩ ?_
        obtain ⟨r2, q5, e⟩ := zB_s e
        refine zF_blk (m := []) (d := 0) (b := B110_18) (gs := []) (c' := (86, [some (21, 0), some (0, v1), some (0, v2), some (0, v3), some (0, v4), some (0, v5), some (0, v6), some (0, v7)], [(0, v4), (0, v3), (0, v7), (0, v1), (21, 0)], (h, hm, o))) K110_18 rfl trivial ?_
        refine zF_call (k := 111) (cl := 11) (n := 5) (i := .invokevirtual 262) (args := [(21, 0), (0, v1), (0, v7), (0, v3), (0, v4)]) (rest := []) (g1 := (r2, hm, o)) (r1 := none) (by decide +kernel) rfl rfl rfl (st' := []) rfl (S111 (Nat.le_trans (by decide) hd) v1 v7 v3 v4 h _ q5) ?_
        obtain ⟨r3, q6, e⟩ := zB_s e
        refine zF_blk (m := []) (d := 0) (b := B110_19) (gs := []) (c' := (95, [some (21, 0), some (0, v1), some (0, v2), some (0, v3), some (0, v4), some (0, v5), some (0, v6), some (0, v7)], [(0, 5), (0, 0), (11, 1)], (r2, hm, o))) K110_19 rfl trivial ?_
        refine zF_call (k := 63) (cl := 1) (n := 3) (i := .invokevirtual 196) (args := [(11, 1), (0, 0), (0, 5)]) (rest := []) (g1 := (r2, hm, o)) (r1 := some (0, r3)) (by decide +kernel) rfl rfl rfl (st' := [(0, r3)]) rfl (S63 (Nat.le_trans (by decide) hd) 1 0 5 r2 _ q6) ?_
        rcases zI_s e with ⟨q7, e⟩ | ⟨q7, e⟩
        · refine zF_blk (m := []) (d := 1) (b := B110_23) (gs := [¬ r3 = (wshl 1 v2)]) (c' := (117, [some (21, 0), some (0, v1), some (0, v2), some (0, v3), some (0, v4), some (0, v5), some (0, v6), some (0, v7)], [], (r2, hm, o))) K110_23 rfl ⟨q7, trivial⟩ ?_
          exact T110_1 hd (F110_0 n) hk0 v1 v2 v3 v4 v5 v6 v7 r2 _ e
        · refine zF_blk (m := []) (d := 0) (b := B110_23) (gs := [¬ (¬ r3 = (wshl 1 v2))]) (c' := (104, [some (21, 0), some (0, v1), some (0, v2), some (0, v3), some (0, v4), some (0, v5), some (0, v6), some (0, v7)], [], (r2, hm, o))) K110_23 rfl ⟨q7, trivial⟩ ?_
          rcases zI_s e with ⟨q8, e⟩ | ⟨q8, e⟩
          · refine zF_blk (m := []) (d := 1) (b := B110_22) (gs := [¬ v6 = v5]) (c' := (114, [some (21, 0), some (0, v1), some (0, v2), some (0, v3), some (0, v4), some (0, v5), some (0, v6), some (0, v7)], [], (r2, hm, o))) K110_22 rfl ⟨q8, trivial⟩ ?_
            refine zF_blk (m := []) (d := 0) (b := B110_20) (gs := []) (c' := (117, [some (21, 0), some (0, v1), some (0, v2), some (0, v3), some (0, v4), some (0, v5), some (0, (wadd v6 1)), some (0, v7)], [], (r2, hm, o))) K110_20 rfl trivial ?_
            exact T110_1 hd (F110_0 n) hk0 v1 v2 v3 v4 v5 (wadd v6 1) v7 r2 _ e
          · refine zF_blk (m := []) (d := 0) (b := B110_22) (gs := [¬ (¬ v6 = v5)]) (c' := (111, [some (21, 0), some (0, v1), some (0, v2), some (0, v3), some (0, v4), some (0, v5), some (0, v6), some (0, v7)], [], (r2, hm, o))) K110_22 rfl ⟨q8, trivial⟩ ?_
            refine zF_blk (m := []) (d := 0) (b := B110_21) (gs := []) (c' := (113, [some (21, 0), some (0, v1), some (0, v2), some (0, v3), some (0, v4), some (0, v5), some (0, v6), some (0, v7)], [(0, v7)], (r2, hm, o))) K110_21 rfl trivial ?_
            exact zF_riC (by decide +kernel) e
/-- EchoVale.tells(IIIII)I -/
def F110 (v1 : Int) (v2 : Int) (v3 : Int) (v4 : Int) (v5 : Int) (h : zHC) : Option (Int × zHC) := (F61 v1 h).bind fun r1 => if r1 = 0 then some ((-1), h) else (F61 v2 h).bind fun r2 => if r2 = 0 then some ((-1), h) else if v1 = v2 then some ((-1), h) else (F74 v3).bind fun r3 => if r3 = 0 then some ((-1), h) else (F99 v4).bind fun r4 => if r4 = 0 then some ((-1), h) else if v5 < (-1) then some ((-1), h) else (F75 0 h).bind fun r5 => if r5 = 0 then F110_0 zFu v1 v2 v3 v4 v5 0 0 h else some ((-1), h)
set_option maxRecDepth 100000 in
theorem S110 {spec : zRn zH2} {hm : zHM} {o : Int → Int} {d : Nat} (hd : 8 ≤ d) (v1 : Int) (v2 : Int) (v3 : Int) (v4 : Int) (v5 : Int) (h : zHC) (v : (Int × zHC)) (e : F110 v1 v2 v3 v4 v5 h = some v) : zRu2 spec d 110 [(21, 0), (0, v1), (0, v2), (0, v3), (0, v4), (0, v5)] (h, hm, o) (some (0, v.1)) (v.2, hm, o) := by
  refine zF_in (D := 7) (mx := 8) (L := [some (21, 0), some (0, v1), some (0, v2), some (0, v3), some (0, v4), some (0, v5), none, none]) (by decide +kernel) rfl rfl hd (fun d hd => ?_)
  unfold F110 at e
  obtain ⟨r1, q1, e⟩ := zB_s e
  refine zF_blk (m := []) (d := 0) (b := B110_0) (gs := []) (c' := (2, [some (21, 0), some (0, v1), some (0, v2), some (0, v3), some (0, v4), some (0, v5), none, none], [(0, v1), (21, 0)], (h, hm, o))) K110_0 rfl trivial ?_
  refine zF_call (k := 61) (cl := 11) (n := 2) (i := .invokevirtual 172) (args := [(21, 0), (0, v1)]) (rest := []) (g1 := (h, hm, o)) (r1 := some (0, r1)) (by decide +kernel) rfl rfl rfl (st' := [(0, r1)]) rfl (S61 (Nat.le_trans (by decide) hd) v1 h _ q1) ?_
  rcases zI_s e with ⟨q2, e⟩ | ⟨q2, e⟩
  · refine zF_blk (m := []) (d := 1) (b := B110_13) (gs := [r1 = 0]) (c' := (52, [some (21, 0), some (0, v1), some (0, v2), some (0, v3), some (0, v4), some (0, v5), none, none], [], (h, hm, o))) K110_13 rfl ⟨q2, trivial⟩ ?_
    refine zF_blk (m := []) (d := 0) (b := B110_1) (gs := []) (c' := (53, [some (21, 0), some (0, v1), some (0, v2), some (0, v3), some (0, v4), some (0, v5), none, none], [(0, (-1))], (h, hm, o))) K110_1 rfl trivial ?_
    exact zF_riC (by decide +kernel) e
  · refine zF_blk (m := []) (d := 0) (b := B110_13) (gs := [¬ (r1 = 0)]) (c' := (8, [some (21, 0), some (0, v1), some (0, v2), some (0, v3), some (0, v4), some (0, v5), none, none], [], (h, hm, o))) K110_13 rfl ⟨q2, trivial⟩ ?_
    obtain ⟨r2, q3, e⟩ := zB_s e
    refine zF_blk (m := []) (d := 0) (b := B110_2) (gs := []) (c' := (10, [some (21, 0), some (0, v1), some (0, v2), some (0, v3), some (0, v4), some (0, v5), none, none], [(0, v2), (21, 0)], (h, hm, o))) K110_2 rfl trivial ?_
    refine zF_call (k := 61) (cl := 11) (n := 2) (i := .invokevirtual 172) (args := [(21, 0), (0, v2)]) (rest := []) (g1 := (h, hm, o)) (r1 := some (0, r2)) (by decide +kernel) rfl rfl rfl (st' := [(0, r2)]) rfl (S61 (Nat.le_trans (by decide) hd) v2 h _ q3) ?_
    rcases zI_s e with ⟨q4, e⟩ | ⟨q4, e⟩
    · refine zF_blk (m := []) (d := 1) (b := B110_12) (gs := [r2 = 0]) (c' := (52, [some (21, 0), some (0, v1), some (0, v2), some (0, v3), some (0, v4), some (0, v5), none, none], [], (h, hm, o))) K110_12 rfl ⟨q4, trivial⟩ ?_
      refine zF_blk (m := []) (d := 0) (b := B110_1) (gs := []) (c' := (53, [some (21, 0), some (0, v1), some (0, v2), some (0, v3), some (0, v4), some (0, v5), none, none], [(0, (-1))], (h, hm, o))) K110_1 rfl trivial ?_
      exact zF_riC (by decide +kernel) e
    · refine zF_blk (m := []) (d := 0) (b := B110_12) (gs := [¬ (r2 = 0)]) (c' := (16, [some (21, 0), some (0, v1), some (0, v2), some (0, v3), some (0, v4), some (0, v5), none, none], [], (h, hm, o))) K110_12 rfl ⟨q4, trivial⟩ ?_
      rcases zI_s e with ⟨q5, e⟩ | ⟨q5, e⟩
      · refine zF_blk (m := []) (d := 1) (b := B110_11) (gs := [v1 = v2]) (c' := (52, [some (21, 0), some (0, v1), some (0, v2), some (0, v3), some (0, v4), some (0, v5), none, none], [], (h, hm, o))) K110_11 rfl ⟨q5, trivial⟩ ?_
        refine zF_blk (m := []) (d := 0) (b := B110_1) (gs := []) (c' := (53, [some (21, 0), some (0, v1), some (0, v2), some (0, v3), some (0, v4), some (0, v5), none, none], [(0, (-1))], (h, hm, o))) K110_1 rfl trivial ?_
        exact zF_riC (by decide +kernel) e
      · refine zF_blk (m := []) (d := 0) (b := B110_11) (gs := [¬ (v1 = v2)]) (c' := (21, [some (21, 0), some (0, v1), some (0, v2), some (0, v3), some (0, v4), some (0, v5), none, none], [], (h, hm, o))) K110_11 rfl ⟨q5, trivial⟩ ?_
        obtain ⟨r3, q6, e⟩ := zB_s e
        refine zF_blk (m := []) (d := 0) (b := B110_3) (gs := []) (c' := (22, [some (21, 0), some (0, v1), some (0, v2), some (0, v3), some (0, v4), some (0, v5), none, none], [(0, v3)], (h, hm, o))) K110_3 rfl trivial ?_
        refine zF_call (k := 74) (cl := 11) (n := 1) (i := .invokestatic 221) (args := [(0, v3)]) (rest := []) (g1 := (h, hm, o)) (r1 := some (0, r3)) (by decide +kernel) rfl rfl rfl (st' := [(0, r3)]) rfl (S74 (Nat.le_trans (by decide) hd) v3 h _ q6) ?_
        rcases zI_s e with ⟨q7, e⟩ | ⟨q7, e⟩
        · refine zF_blk (m := []) (d := 1) (b := B110_10) (gs := [r3 = 0]) (c' := (52, [some (21, 0), some (0, v1), some (0, v2), some (0, v3), some (0, v4), some (0, v5), none, none], [], (h, hm, o))) K110_10 rfl ⟨q7, trivial⟩ ?_
          refine zF_blk (m := []) (d := 0) (b := B110_1) (gs := []) (c' := (53, [some (21, 0), some (0, v1), some (0, v2), some (0, v3), some (0, v4), some (0, v5), none, none], [(0, (-1))], (h, hm, o))) K110_1 rfl trivial ?_
          exact zF_riC (by decide +kernel) e
        · refine zF_blk (m := []) (d := 0) (b := B110_10) (gs := [¬ (r3 = 0)]) (c' := (28, [some (21, 0), some (0, v1), some (0, v2), some (0, v3), some (0, v4), some (0, v5), none, none], [], (h, hm, o))) K110_10 rfl ⟨q7, trivial⟩ ?_
          obtain ⟨r4, q8, e⟩ := zB_s e
          refine zF_blk (m := []) (d := 0) (b := B110_4) (gs := []) (c' := (30, [some (21, 0), some (0, v1), some (0, v2), some (0, v3), some (0, v4), some (0, v5), none, none], [(0, v4)], (h, hm, o))) K110_4 rfl trivial ?_
          refine zF_call (k := 99) (cl := 11) (n := 1) (i := .invokestatic 242) (args := [(0, v4)]) (rest := []) (g1 := (h, hm, o)) (r1 := some (0, r4)) (by decide +kernel) rfl rfl rfl (st' := [(0, r4)]) rfl (S99 (Nat.le_trans (by decide) hd) v4 h _ q8) ?_
          rcases zI_s e with ⟨q9, e⟩ | ⟨q9, e⟩
          · refine zF_blk (m := []) (d := 1) (b := B110_9) (gs := [r4 = 0]) (c' := (52, [some (21, 0), some (0, v1), some (0, v2), some (0, v3), some (0, v4), some (0, v5), none, none], [], (h, hm, o))) K110_9 rfl ⟨q9, trivial⟩ ?_
            refine zF_blk (m := []) (d := 0) (b := B110_1) (gs := []) (c' := (53, [some (21, 0), some (0, v1), some (0, v2), some (0, v3), some (0, v4), some (0, v5), none, none], [(0, (-1))], (h, hm, o))) K110_1 rfl trivial ?_
            exact zF_riC (by decide +kernel) e
          · refine zF_blk (m := []) (d := 0) (b := B110_9) (gs := [¬ (r4 = 0)]) (c' := (36, [some (21, 0), some (0, v1), some (0, v2), some (0, v3), some (0, v4), some (0, v5), none, none], [], (h, hm, o))) K110_9 rfl ⟨q9, trivial⟩ ?_
            rcases zI_s e with ⟨q10, e⟩ | ⟨q10, e⟩
            · refine zF_blk (m := []) (d := 1) (b := B110_8) (gs := [v5 < (-1)]) (c' := (52, [some (21, 0), some (0, v1), some (0, v2), some (0, v3), some (0, v4), some (0, v5), none, none], [], (h, hm, o))) K110_8 rfl ⟨q10, trivial⟩ ?_
              refine zF_blk (m := []) (d := 0) (b := B110_1) (gs := []) (c' := (53, [some (21, 0), some (0, v1), some (0, v2), some (0, v3), some (0, v4), some (0, v5), none, none], [(0, (-1))], (h, hm, o))) K110_1 rfl trivial ?_
              exact zF_riC (by decide +kernel) e
            · refine zF_blk (m := []) (d := 0) (b := B110_8) (gs := [¬ (v5 < (-1))]) (c' := (42, [some (21, 0), some (0, v1), some (0, v2), some (0, v3), some (0, v4), some (0, v5), none, none], [], (h, hm, o))) K110_8 rfl ⟨q10, trivial⟩ ?_
              obtain ⟨r5, q11, e⟩ := zB_s e
              refine zF_blk (m := []) (d := 0) (b := B110_5) (gs := []) (c' := (46, [some (21, 0), some (0, v1), some (0, v2), some (0, v3), some (0, v4), some (0, v5), none, none], [(11, 0)], (h, hm, o))) K110_5 rfl trivial ?_
              refine zF_call (k := 75) (cl := 1) (n := 1) (i := .invokevirtual 224) (args := [(11, 0)]) (rest := []) (g1 := (h, hm, o)) (r1 := some (0, r5)) (by decide +kernel) rfl rfl rfl (st' := [(0, r5)]) rfl (S75 (Nat.le_trans (by decide) hd) 0 h _ q11) ?_
              rcases zI_s e with ⟨q12, e⟩ | ⟨q12, e⟩
              · refine zF_blk (m := []) (d := 1) (b := B110_7) (gs := [r5 = 0]) (c' := (54, [some (21, 0), some (0, v1), some (0, v2), some (0, v3), some (0, v4), some (0, v5), none, none], [], (h, hm, o))) K110_7 rfl ⟨q12, trivial⟩ ?_
                refine zF_blk (m := []) (d := 0) (b := B110_6) (gs := []) (c' := (60, [some (21, 0), some (0, v1), some (0, v2), some (0, v3), some (0, v4), some (0, v5), some (0, 0), some (0, 0)], [], (h, hm, o))) K110_6 rfl trivial ?_
                exact T110_0 hd zFu v1 v2 v3 v4 v5 0 0 h _ e
              · refine zF_blk (m := []) (d := 0) (b := B110_7) (gs := [¬ (r5 = 0)]) (c' := (52, [some (21, 0), some (0, v1), some (0, v2), some (0, v3), some (0, v4), some (0, v5), none, none], [], (h, hm, o))) K110_7 rfl ⟨q12, trivial⟩ ?_
                refine zF_blk (m := []) (d := 0) (b := B110_1) (gs := []) (c' := (53, [some (21, 0), some (0, v1), some (0, v2), some (0, v3), some (0, v4), some (0, v5), none, none], [(0, (-1))], (h, hm, o))) K110_1 rfl trivial ?_
                exact zF_riC (by decide +kernel) e
def B252_0 : List zRow := [(0, .aload_n 0, 1, (0, 0, 0)), (1, .iconst 0, 1, (0, 0, 0)), (2, .putfield 81, 3, (12, 0, 0)), (5, .aload_n 0, 1, (0, 0, 0)), (6, .iload_n 1, 1, (0, 0, 0))]
theorem K252_0 : zRk 252 B252_0 = true := by decide +kernel
def B252_1 : List zRow := [(57, .iconst (-1), 1, (0, 0, 0))]
theorem K252_1 : zRk 252 B252_1 = true := by decide +kernel
def B252_2 : List zRow := [(13, .aload_n 0, 1, (0, 0, 0)), (14, .iload_n 2, 1, (0, 0, 0))]
theorem K252_2 : zRk 252 B252_2 = true := by decide +kernel
def B252_3 : List zRow := [(26, .iload_n 3, 1, (0, 0, 0)), (27, .iconst 1, 1, (0, 0, 0)), (28, .bipush 9, 2, (0, 0, 0))]
theorem K252_3 : zRk 252 B252_3 = true := by decide +kernel
def B252_4 : List zRow := [(36, .iload 4, 2, (0, 0, 0))]
theorem K252_4 : zRk 252 B252_4 = true := by decide +kernel
def B252_5 : List zRow := [(59, .iconst 0, 1, (0, 0, 0)), (60, .istore 6, 2, (0, 0, 0)), (62, .iconst 0, 1, (0, 0, 0)), (63, .istore 7, 2, (0, 0, 0))]
theorem K252_5 : zRk 252 B252_5 = true := by decide +kernel
def B252_6 : List zRow := [(44, .aload_n 0, 1, (0, 0, 0)), (45, .getfield 13, 3, (12, 14, 5251442)), (48, .sipush 216, 3, (0, 0, 0)), (51, .iaload, 1, (0, 0, 0)), (52, .bipush 30, 2, (0, 0, 0)), (54, .if_icmp .ne 5, 3, (0, 0, 0))]
theorem K252_6 : zRk 252 B252_6 = true := by decide +kernel
def B252_7 : List zRow := [(41, .ifCond .eq 16, 3, (0, 0, 0))]
theorem K252_7 : zRk 252 B252_7 = true := by decide +kernel
def B252_8 : List zRow := [(33, .ifCond .eq 24, 3, (0, 0, 0))]
theorem K252_8 : zRk 252 B252_8 = true := by decide +kernel
def B252_9 : List zRow := [(21, .iload_n 1, 1, (0, 0, 0)), (22, .iload_n 2, 1, (0, 0, 0)), (23, .if_icmp .eq 34, 3, (0, 0, 0))]
theorem K252_9 : zRk 252 B252_9 = true := by decide +kernel
def B252_10 : List zRow := [(18, .ifCond .eq 39, 3, (0, 0, 0))]
theorem K252_10 : zRk 252 B252_10 = true := by decide +kernel
def B252_11 : List zRow := [(10, .ifCond .eq 47, 3, (0, 0, 0))]
theorem K252_11 : zRk 252 B252_11 = true := by decide +kernel
def B252_12 : List zRow := [(178, .iconst (-1), 1, (0, 0, 0))]
theorem K252_12 : zRk 252 B252_12 = true := by decide +kernel
def B252_13 : List zRow := [(173, .iload 6, 2, (0, 0, 0)), (175, .goto 4, 3, (0, 0, 0))]
theorem K252_13 : zRk 252 B252_13 = true := by decide +kernel
def B252_14 : List zRow := [(167, .iload 5, 2, (0, 0, 0)), (169, .iconst (-1), 1, (0, 0, 0)), (170, .if_icmp .ne 8, 3, (0, 0, 0))]
theorem K252_14 : zRk 252 B252_14 = true := by decide +kernel
def B252_15 : List zRow := [(72, .aload_n 0, 1, (0, 0, 0)), (73, .iload 7, 2, (0, 0, 0))]
theorem K252_15 : zRk 252 B252_15 = true := by decide +kernel
def B252_16 : List zRow := [(84, .aload_n 0, 1, (0, 0, 0))]
theorem K252_16 : zRk 252 B252_16 = true := by decide +kernel
def B252_17 : List zRow := [(88, .aload_n 0, 1, (0, 0, 0)), (89, .getfield 13, 3, (12, 14, 5251442)), (92, .sipush 210, 3, (0, 0, 0)), (95, .iload_n 1, 1, (0, 0, 0))]
theorem K252_17 : zRk 252 B252_17 = true := by decide +kernel
def B252_18 : List zRow := [(96, .iadd, 1, (0, 0, 0)), (97, .iload 7, 2, (0, 0, 0)), (99, .iastore, 1, (0, 0, 0)), (100, .aload_n 0, 1, (0, 0, 0)), (101, .iload_n 1, 1, (0, 0, 0)), (102, .iconst 1, 1, (0, 0, 0)), (103, .iload_n 3, 1, (0, 0, 0))]
theorem K252_18 : zRk 252 B252_18 = true := by decide +kernel
def B252_19 : List zRow := [(107, .istore 8, 2, (0, 0, 0)), (109, .aload_n 0, 1, (0, 0, 0)), (110, .iload 4, 2, (0, 0, 0))]
theorem K252_19 : zRk 252 B252_19 = true := by decide +kernel
def B252_20 : List zRow := [(115, .pop, 1, (0, 0, 0)), (116, .aload_n 0, 1, (0, 0, 0)), (117, .iload 8, 2, (0, 0, 0)), (119, .iconst 5, 1, (0, 0, 0))]
theorem K252_20 : zRk 252 B252_20 = true := by decide +kernel
def B252_21 : List zRow := [(133, .iconst 0, 1, (0, 0, 0))]
theorem K252_21 : zRk 252 B252_21 = true := by decide +kernel
def B252_22 : List zRow := [(129, .iconst 1, 1, (0, 0, 0)), (130, .goto 4, 3, (0, 0, 0))]
theorem K252_22 : zRk 252 B252_22 = true := by decide +kernel
def B252_23 : List zRow := [(123, .iconst 1, 1, (0, 0, 0)), (124, .iload_n 2, 1, (0, 0, 0)), (125, .ishl, 1, (0, 0, 0)), (126, .if_icmp .ne 7, 3, (0, 0, 0))]
theorem K252_23 : zRk 252 B252_23 = true := by decide +kernel
def B252_24 : List zRow := [(81, .goto 80, 3, (0, 0, 0))]
theorem K252_24 : zRk 252 B252_24 = true := by decide +kernel
def B252_25 : List zRow := [(78, .ifCond .ne 6, 3, (0, 0, 0))]
theorem K252_25 : zRk 252 B252_25 = true := by decide +kernel
def B252_26 : List zRow := [(65, .iload 7, 2, (0, 0, 0)), (67, .bipush 100, 2, (0, 0, 0)), (69, .if_icmp .ge 98, 3, (0, 0, 0))]
theorem K252_26 : zRk 252 B252_26 = true := by decide +kernel
def B252_27 : List zRow := [(161, .iinc 7 1, 3, (0, 0, 0)), (164, .goto (-99), 3, (0, 0, 0))]
theorem K252_27 : zRk 252 B252_27 = true := by decide +kernel
def B252_28 : List zRow := [(134, .istore 9, 2, (0, 0, 0)), (136, .aload_n 0, 1, (0, 0, 0))]
theorem K252_28 : zRk 252 B252_28 = true := by decide +kernel
def B252_29 : List zRow := [(158, .iinc 6 1, 3, (0, 0, 0))]
theorem K252_29 : zRk 252 B252_29 = true := by decide +kernel
def B252_30 : List zRow := [(155, .iload 7, 2, (0, 0, 0))]
theorem K252_30 : zRk 252 B252_30 = true := by decide +kernel
def B252_31 : List zRow := [(148, .iload 6, 2, (0, 0, 0)), (150, .iload 5, 2, (0, 0, 0)), (152, .if_icmp .ne 6, 3, (0, 0, 0))]
theorem K252_31 : zRk 252 B252_31 = true := by decide +kernel
def B252_32 : List zRow := [(145, .goto 16, 3, (0, 0, 0))]
theorem K252_32 : zRk 252 B252_32 = true := by decide +kernel
def B252_33 : List zRow := [(140, .iload 9, 2, (0, 0, 0)), (142, .ifCond .ne 6, 3, (0, 0, 0))]
theorem K252_33 : zRk 252 B252_33 = true := by decide +kernel
def F252_2 (k0 : Int → Int → Int → Int → Int → Int → Int → zHM → Option (Int × zHM)) (v1 : Int) (v2 : Int) (v3 : Int) (v4 : Int) (v5 : Int) (v6 : Int) (v7 : Int) (h : zHM) : Option (Int × zHM) := k0 v1 v2 v3 v4 v5 v6 (wadd v7 1) h
set_option maxRecDepth 100000 in
theorem T252_2 {spec : zRn zH2} {hc : zHC} {o : Int → Int} {d : Nat} (hd : 6 ≤ d) (k0 : Int → Int → Int → Int → Int → Int → Int → zHM → Option (Int × zHM)) (hk0 : ∀ (v1 : Int) (v2 : Int) (v3 : Int) (v4 : Int) (v5 : Int) (v6 : Int) (v7 : Int) (h : zHM) (v : (Int × zHM)), k0 v1 v2 v3 v4 v5 v6 v7 h = some v → zFin 0 (fun _ => 0) (zRu2 spec d) 252 (some (0, v.1)) (hc, v.2, o) (65, [some (22, 0), some (0, v1), some (0, v2), some (0, v3), some (0, v4), some (0, v5), some (0, v6), some (0, v7), none, none], [], (hc, h, o))) (v1 : Int) (v2 : Int) (v3 : Int) (v4 : Int) (v5 : Int) (v6 : Int) (v7 : Int) (h : zHM) (v : (Int × zHM)) (e : F252_2 k0 v1 v2 v3 v4 v5 v6 v7 h = some v) : zFin 0 (fun _ => 0) (zRu2 spec d) 252 (some (0, v.1)) (hc, v.2, o) (161, [some (22, 0), some (0, v1), some (0, v2), some (0, v3), some (0, v4), some (0, v5), some (0, v6), some (0, v7), none, none], [], (hc, h, o)) := by
  unfold F252_2 at e
  refine zF_blk (m := []) (d := 0) (b := B252_27) (gs := []) (c' := (65, [some (22, 0), some (0, v1), some (0, v2), some (0, v3), some (0, v4), some (0, v5), some (0, v6), some (0, (wadd v7 1)), none, none], [], (hc, h, o))) K252_27 rfl trivial ?_
  exact hk0 v1 v2 v3 v4 v5 v6 (wadd v7 1) h _ e
def F252_1 (k0 : Int → Int → Int → Int → Int → Int → Int → zHM → Option (Int × zHM)) (v1 : Int) (v2 : Int) (v3 : Int) (v4 : Int) (v5 : Int) (v6 : Int) (v7 : Int) (s0 : Int) (h : zHM) : Option (Int × zHM) := (F245 h).bind fun r1 => if ¬ s0 = 0 then if ¬ v6 = v5 then F252_2 k0 v1 v2 v3 v4 v5 (wadd v6 1) v7 r1 else some (v7, r1) else F252_2 k0 v1 v2 v3 v4 v5 v6 v7 r1
set_option maxRecDepth 100000 in
theorem T252_1 {spec : zRn zH2} {hc : zHC} {o : Int → Int} {d : Nat} (hd : 6 ≤ d) (k0 : Int → Int → Int → Int → Int → Int → Int → zHM → Option (Int × zHM)) (hk0 : ∀ (v1 : Int) (v2 : Int) (v3 : Int) (v4 : Int) (v5 : Int) (v6 : Int) (v7 : Int) (h : zHM) (v : (Int × zHM)), k0 v1 v2 v3 v4 v5 v6 v7 h = some v → zFin 0 (fun _ => 0) (zRu2 spec d) 252 (some (0, v.1)) (hc, v.2, o) (65, [some (22, 0), some (0, v1), some (0, v2), some (0, v3), some (0, v4), some (0, v5), some (0, v6), some (0, v7), none, none], [], (hc, h, o))) (v1 : Int) (v2 : Int) (v3 : Int) (v4 : Int) (v5 : Int) (v6 : Int) (v7 : Int) (s0 : Int) (h : zHM) (v : (Int × zHM)) (e : F252_1 k0 v1 v2 v3 v4 v5 v6 v7 s0 h = some v) : zFin 0 (fun _ => 0) (zRu2 spec d) 252 (some (0, v.1)) (hc, v.2, o) (134, [some (22, 0), some (0, v1), some (0, v2), some (0, v3), some (0, v4), some (0, v5), some (0, v6), some (0, v7), none, none], [(0, s0)], (hc, h, o)) := by
  unfold F252_1 at e
  obtain ⟨r1, q1, e⟩ := zB_s e
  refine zF_blk (m := []) (d := 0) (b := B252_28) (gs := []) (c' := (137, [some (22, 0), some (0, v1), some (0, v2), some (0, v3), some (0, v4), some (0, v5), some (0, v6), some (0, v7), none, some (0, s0)], [(22, 0)], (hc, h, o))) K252_28 rfl trivial ?_
  refine zF_call (k := 245) (cl := 12) (n := 1) (i := .invokevirtual 320) (args := [(22, 0)]) (rest := []) (g1 := (hc, r1, o)) (r1 := none) (by decide +kernel) rfl rfl rfl (st' := []) rfl (S245 (Nat.le_trans (by decide) hd)  h _ q1) ?_
  rcases zI_s e with ⟨q2, e⟩ | ⟨q2, e⟩
  · refine zF_blk (m := []) (d := 1) (b := B252_33) (gs := [¬ s0 = 0]) (c' := (148, [some (22, 0), some (0, v1), some (0, v2), some (0, v3), some (0, v4), some (0, v5), some (0, v6), some (0, v7), none, some (0, s0)], [], (hc, r1, o))) K252_33 rfl ⟨q2, trivial⟩ ?_
    rcases zI_s e with ⟨q3, e⟩ | ⟨q3, e⟩
    · refine zF_blk (m := []) (d := 1) (b := B252_31) (gs := [¬ v6 = v5]) (c' := (158, [some (22, 0), some (0, v1), some (0, v2), some (0, v3), some (0, v4), some (0, v5), some (0, v6), some (0, v7), none, some (0, s0)], [], (hc, r1, o))) K252_31 rfl ⟨q3, trivial⟩ ?_
      refine zF_blk (m := []) (d := 0) (b := B252_29) (gs := []) (c' := (161, [some (22, 0), some (0, v1), some (0, v2), some (0, v3), some (0, v4), some (0, v5), some (0, (wadd v6 1)), some (0, v7), none, some (0, s0)], [], (hc, r1, o))) K252_29 rfl trivial ?_
      refine zF_blk (m := [true, true, true, true, true, true, true, true, false, false]) (d := 0) (b := []) (gs := []) (c' := (161, [some (22, 0), some (0, v1), some (0, v2), some (0, v3), some (0, v4), some (0, v5), some (0, (wadd v6 1)), some (0, v7), none, none], [], (hc, r1, o))) rfl rfl trivial ?_
      exact T252_2 hd k0 hk0 v1 v2 v3 v4 v5 (wadd v6 1) v7 r1 _ e
    · refine zF_blk (m := []) (d := 0) (b := B252_31) (gs := [¬ (¬ v6 = v5)]) (c' := (155, [some (22, 0), some (0, v1), some (0, v2), some (0, v3), some (0, v4), some (0, v5), some (0, v6), some (0, v7), none, some (0, s0)], [], (hc, r1, o))) K252_31 rfl ⟨q3, trivial⟩ ?_
      refine zF_blk (m := []) (d := 0) (b := B252_30) (gs := []) (c' := (157, [some (22, 0), some (0, v1), some (0, v2), some (0, v3), some (0, v4), some (0, v5), some (0, v6), some (0, v7), none, some (0, s0)], [(0, v7)], (hc, r1, o))) K252_30 rfl trivial ?_
      exact zF_riM (by decide +kernel) e
  · refine zF_blk (m := []) (d := 0) (b := B252_33) (gs := [¬ (¬ s0 = 0)]) (c' := (145, [some (22, 0), some (0, v1), some (0, v2), some (0, v3), some (0, v4), some (0, v5), some (0, v6), some (0, v7), none, some (0, s0)], [], (hc, r1, o))) K252_33 rfl ⟨q2, trivial⟩ ?_
    refine zF_blk (m := []) (d := 0) (b := B252_32) (gs := []) (c' := (161, [some (22, 0), some (0, v1), some (0, v2), some (0, v3), some (0, v4), some (0, v5), some (0, v6), some (0, v7), none, some (0, s0)], [], (hc, r1, o))) K252_32 rfl trivial ?_
    refine zF_blk (m := [true, true, true, true, true, true, true, true, false, false]) (d := 0) (b := []) (gs := []) (c' := (161, [some (22, 0), some (0, v1), some (0, v2), some (0, v3), some (0, v4), some (0, v5), some (0, v6), some (0, v7), none, none], [], (hc, r1, o))) rfl rfl trivial ?_
    exact T252_2 hd k0 hk0 v1 v2 v3 v4 v5 v6 v7 r1 _ e
def F252_0 : Nat → Int → Int → Int → Int → Int → Int → Int → zHM → Option (Int × zHM)
  | 0, _, _, _, _, _, _, _, _ => none
  | n + 1, v1, v2, v3, v4, v5, v6, v7, h => if 100 ≤ v7 then if ¬ v5 = (-1) then some ((-1), h) else some (v6, h) else (F224 v7 h).bind fun r1 => if ¬ r1 = 0 then (F244 h).bind fun r2 => zG (0 ≤ (wadd 210 v1) ∧ (wadd 210 v1) < 2140) ((F227 v1 1 v3 (mset r2 14 (wadd 210 v1) v7)).bind fun r3 => (F235 v4 r3.2).bind fun r4 => (F213 r3.1 5 r4.2).bind fun r5 => if ¬ r5 = (wshl 1 v2) then F252_1 (F252_0 n) v1 v2 v3 v4 v5 v6 v7 0 r4.2 else F252_1 (F252_0 n) v1 v2 v3 v4 v5 v6 v7 1 r4.2) else F252_2 (F252_0 n) v1 v2 v3 v4 v5 v6 v7 h
set_option maxRecDepth 100000 in
theorem T252_0 {spec : zRn zH2} {hc : zHC} {o : Int → Int} {d : Nat} (hd : 6 ≤ d) : ∀ (n : Nat) (v1 : Int) (v2 : Int) (v3 : Int) (v4 : Int) (v5 : Int) (v6 : Int) (v7 : Int) (h : zHM) (v : (Int × zHM)), F252_0 n v1 v2 v3 v4 v5 v6 v7 h = some v → zFin 0 (fun _ => 0) (zRu2 spec d) 252 (some (0, v.1)) (hc, v.2, o) (65, [some (22, 0), some (0, v1), some (0, v2), some (0, v3), some (0, v4), some (0, v5), some (0, v6), some (0, v7), none, none], [], (hc, h, o)) := by
  intro n
  induction n with
  | zero => intro v1 v2 v3 v4 v5 v6 v7 h v e; unfold F252_0 at e; cases e
  | succ n hk0 =>
    intro v1 v2 v3 v4 v5 v6 v7 h v e
    unfold F252_0 at e
    rcases zI_s e with ⟨q1, e⟩ | ⟨q1, e⟩
    · refine zF_blk (m := []) (d := 1) (b := B252_26) (gs := [100 ≤ v7]) (c' := (167, [some (22, 0), some (0, v1), some (0, v2), some (0, v3), some (0, v4), some (0, v5), some (0, v6), some (0, v7), none, none], [], (hc, h, o))) K252_26 rfl ⟨q1, trivial⟩ ?_
      rcases zI_s e with ⟨q2, e⟩ | ⟨q2, e⟩
      · refine zF_blk (m := []) (d := 1) (b := B252_14) (gs := [¬ v5 = (-1)]) (c' := (178, [some (22, 0), some (0, v1), some (0, v2), some (0, v3), some (0, v4), some (0, v5), some (0, v6), some (0, v7), none, none], [], (hc, h, o))) K252_14 rfl ⟨q2, trivial⟩ ?_
        refine zF_blk (m := []) (d := 0) (b := B252_12) (gs := []) (c' := (179, [some (22, 0), some (0, v1), some (0, v2), some (0, v3), some (0, v4), some (0, v5), some (0, v6), some (0, v7), none, none], [(0, (-1))], (hc, h, o))) K252_12 rfl trivial ?_
        exact zF_riM (by decide +kernel) e
      · refine zF_blk (m := []) (d := 0) (b := B252_14) (gs := [¬ (¬ v5 = (-1))]) (c' := (173, [some (22, 0), some (0, v1), some (0, v2), some (0, v3), some (0, v4), some (0, v5), some (0, v6), some (0, v7), none, none], [], (hc, h, o))) K252_14 rfl ⟨q2, trivial⟩ ?_
        refine zF_blk (m := []) (d := 0) (b := B252_13) (gs := []) (c' := (179, [some (22, 0), some (0, v1), some (0, v2), some (0, v3), some (0, v4), some (0, v5), some (0, v6), some (0, v7), none, none], [(0, v6)], (hc, h, o))) K252_13 rfl trivial ?_
        exact zF_riM (by decide +kernel) e
    · refine zF_blk (m := []) (d := 0) (b := B252_26) (gs := [¬ (100 ≤ v7)]) (c' := (72, [some (22, 0), some (0, v1), some (0, v2), some (0, v3), some (0, v4), some (0, v5), some (0, v6), some (0, v7), none, none], [], (hc, h, o))) K252_26 rfl ⟨q1, trivial⟩ ?_
      obtain ⟨r1, q3, e⟩ := zB_s e
      refine zF_blk (m := []) (d := 0) (b := B252_15) (gs := []) (c' := (75, [some (22, 0), some (0, v1), some (0, v2), some (0, v3), some (0, v4), some (0, v5), some (0, v6), some (0, v7), none, none], [(0, v7), (22, 0)], (hc, h, o))) K252_15 rfl trivial ?_
      refine zF_call (k := 224) (cl := 12) (n := 2) (i := .invokevirtual 305) (args := [(22, 0), (0, v7)]) (rest := []) (g1 := (hc, h, o)) (r1 := some (0, r1)) (by decide +kernel) rfl rfl rfl (st' := [(0, r1)]) rfl (S224 (Nat.le_trans (by decide) hd) v7 h _ q3) ?_
      rcases zI_s e with ⟨q4, e⟩ | ⟨q4, e⟩
      · refine zF_blk (m := []) (d := 1) (b := B252_25) (gs := [¬ r1 = 0]) (c' := (84, [some (22, 0), some (0, v1), some (0, v2), some (0, v3), some (0, v4), some (0, v5), some (0, v6), some (0, v7), none, none], [], (hc, h, o))) K252_25 rfl ⟨q4, trivial⟩ ?_
        obtain ⟨r2, q5, e⟩ := zB_s e
        refine zF_blk (m := []) (d := 0) (b := B252_16) (gs := []) (c' := (85, [some (22, 0), some (0, v1), some (0, v2), some (0, v3), some (0, v4), some (0, v5), some (0, v6), some (0, v7), none, none], [(22, 0)], (hc, h, o))) K252_16 rfl trivial ?_
        refine zF_call (k := 244) (cl := 12) (n := 1) (i := .invokevirtual 317) (args := [(22, 0)]) (rest := []) (g1 := (hc, r2, o)) (r1 := none) (by decide +kernel) rfl rfl rfl (st' := []) rfl (S244 (Nat.le_trans (by decide) hd)  h _ q5) ?_
        obtain ⟨q6, e⟩ := zG_s e
        refine zF_blk (m := []) (d := 0) (b := B252_17) (gs := []) (c' := (96, [some (22, 0), some (0, v1), some (0, v2), some (0, v3), some (0, v4), some (0, v5), some (0, v6), some (0, v7), none, none], [(0, v1), (0, 210), (1344370422, 0)], (hc, r2, o))) K252_17 rfl trivial ?_
        obtain ⟨r3, q7, e⟩ := zB_s e
        refine zF_blk (m := []) (d := 0) (b := B252_18) (gs := [0 ≤ (wadd 210 v1) ∧ (wadd 210 v1) < 2140]) (c' := (104, [some (22, 0), some (0, v1), some (0, v2), some (0, v3), some (0, v4), some (0, v5), some (0, v6), some (0, v7), none, none], [(0, v3), (0, 1), (0, v1), (22, 0)], (hc, (mset r2 14 (wadd 210 v1) v7), o))) K252_18 rfl ⟨q6, trivial⟩ ?_
        refine zF_call (k := 227) (cl := 12) (n := 4) (i := .invokevirtual 311) (args := [(22, 0), (0, v1), (0, 1), (0, v3)]) (rest := []) (g1 := (hc, r3.2, o)) (r1 := some (0, r3.1)) (by decide +kernel) rfl rfl rfl (st' := [(0, r3.1)]) rfl (S227 (Nat.le_trans (by decide) hd) v1 1 v3 (mset r2 14 (wadd 210 v1) v7) _ q7) ?_
        obtain ⟨r4, q8, e⟩ := zB_s e
        refine zF_blk (m := []) (d := 0) (b := B252_19) (gs := []) (c' := (112, [some (22, 0), some (0, v1), some (0, v2), some (0, v3), some (0, v4), some (0, v5), some (0, v6), some (0, v7), some (0, r3.1), none], [(0, v4), (22, 0)], (hc, r3.2, o))) K252_19 rfl trivial ?_
        refine zF_call (k := 235) (cl := 12) (n := 2) (i := .invokevirtual 314) (args := [(22, 0), (0, v4)]) (rest := []) (g1 := (hc, r4.2, o)) (r1 := some (0, r4.1)) (by decide +kernel) rfl rfl rfl (st' := [(0, r4.1)]) rfl (S235 (Nat.le_trans (by decide) hd) v4 r3.2 _ q8) ?_
        obtain ⟨r5, q9, e⟩ := zB_s e
        refine zF_blk (m := []) (d := 0) (b := B252_20) (gs := []) (c' := (120, [some (22, 0), some (0, v1), some (0, v2), some (0, v3), some (0, v4), some (0, v5), some (0, v6), some (0, v7), some (0, r3.1), none], [(0, 5), (0, r3.1), (22, 0)], (hc, r4.2, o))) K252_20 rfl trivial ?_
        refine zF_call (k := 213) (cl := 12) (n := 3) (i := .invokevirtual 247) (args := [(22, 0), (0, r3.1), (0, 5)]) (rest := []) (g1 := (hc, r4.2, o)) (r1 := some (0, r5)) (by decide +kernel) rfl rfl rfl (st' := [(0, r5)]) rfl (S213 (Nat.le_trans (by decide) hd) r3.1 5 r4.2 _ q9) ?_
        rcases zI_s e with ⟨q10, e⟩ | ⟨q10, e⟩
        · refine zF_blk (m := []) (d := 1) (b := B252_23) (gs := [¬ r5 = (wshl 1 v2)]) (c' := (133, [some (22, 0), some (0, v1), some (0, v2), some (0, v3), some (0, v4), some (0, v5), some (0, v6), some (0, v7), some (0, r3.1), none], [], (hc, r4.2, o))) K252_23 rfl ⟨q10, trivial⟩ ?_
          refine zF_blk (m := []) (d := 0) (b := B252_21) (gs := []) (c' := (134, [some (22, 0), some (0, v1), some (0, v2), some (0, v3), some (0, v4), some (0, v5), some (0, v6), some (0, v7), some (0, r3.1), none], [(0, 0)], (hc, r4.2, o))) K252_21 rfl trivial ?_
          refine zF_blk (m := [true, true, true, true, true, true, true, true, false, false]) (d := 0) (b := []) (gs := []) (c' := (134, [some (22, 0), some (0, v1), some (0, v2), some (0, v3), some (0, v4), some (0, v5), some (0, v6), some (0, v7), none, none], [(0, 0)], (hc, r4.2, o))) rfl rfl trivial ?_
          exact T252_1 hd (F252_0 n) hk0 v1 v2 v3 v4 v5 v6 v7 0 r4.2 _ e
        · refine zF_blk (m := []) (d := 0) (b := B252_23) (gs := [¬ (¬ r5 = (wshl 1 v2))]) (c' := (129, [some (22, 0), some (0, v1), some (0, v2), some (0, v3), some (0, v4), some (0, v5), some (0, v6), some (0, v7), some (0, r3.1), none], [], (hc, r4.2, o))) K252_23 rfl ⟨q10, trivial⟩ ?_
          refine zF_blk (m := []) (d := 0) (b := B252_22) (gs := []) (c' := (134, [some (22, 0), some (0, v1), some (0, v2), some (0, v3), some (0, v4), some (0, v5), some (0, v6), some (0, v7), some (0, r3.1), none], [(0, 1)], (hc, r4.2, o))) K252_22 rfl trivial ?_
          refine zF_blk (m := [true, true, true, true, true, true, true, true, false, false]) (d := 0) (b := []) (gs := []) (c' := (134, [some (22, 0), some (0, v1), some (0, v2), some (0, v3), some (0, v4), some (0, v5), some (0, v6), some (0, v7), none, none], [(0, 1)], (hc, r4.2, o))) rfl rfl trivial ?_
          exact T252_1 hd (F252_0 n) hk0 v1 v2 v3 v4 v5 v6 v7 1 r4.2 _ e
      · refine zF_blk (m := []) (d := 0) (b := B252_25) (gs := [¬ (¬ r1 = 0)]) (c' := (81, [some (22, 0), some (0, v1), some (0, v2), some (0, v3), some (0, v4), some (0, v5), some (0, v6), some (0, v7), none, none], [], (hc, h, o))) K252_25 rfl ⟨q4, trivial⟩ ?_
        refine zF_blk (m := []) (d := 0) (b := B252_24) (gs := []) (c' := (161, [some (22, 0), some (0, v1), some (0, v2), some (0, v3), some (0, v4), some (0, v5), some (0, v6), some (0, v7), none, none], [], (hc, h, o))) K252_24 rfl trivial ?_
        exact T252_2 hd (F252_0 n) hk0 v1 v2 v3 v4 v5 v6 v7 h _ e
/-- EchoValeModel.tells(IIIII)I -/
def F252 (v1 : Int) (v2 : Int) (v3 : Int) (v4 : Int) (v5 : Int) (h : zHM) : Option (Int × zHM) := (F210 v1 (mset h 0 0 0)).bind fun r1 => if r1 = 0 then some ((-1), (mset h 0 0 0)) else (F210 v2 (mset h 0 0 0)).bind fun r2 => if r2 = 0 then some ((-1), (mset h 0 0 0)) else if v1 = v2 then some ((-1), (mset h 0 0 0)) else (F188 v3 1 9).bind fun r3 => if r3 = 0 then some ((-1), (mset h 0 0 0)) else (F242 v4).bind fun r4 => if r4 = 0 then some ((-1), (mset h 0 0 0)) else if ¬ (h 14 216) = 30 then F252_0 zFu v1 v2 v3 v4 v5 0 0 (mset h 0 0 0) else some ((-1), (mset h 0 0 0))
set_option maxRecDepth 100000 in
theorem S252 {spec : zRn zH2} {hc : zHC} {o : Int → Int} {d : Nat} (hd : 7 ≤ d) (v1 : Int) (v2 : Int) (v3 : Int) (v4 : Int) (v5 : Int) (h : zHM) (v : (Int × zHM)) (e : F252 v1 v2 v3 v4 v5 h = some v) : zRu2 spec d 252 [(22, 0), (0, v1), (0, v2), (0, v3), (0, v4), (0, v5)] (hc, h, o) (some (0, v.1)) (hc, v.2, o) := by
  refine zF_in (D := 6) (mx := 10) (L := [some (22, 0), some (0, v1), some (0, v2), some (0, v3), some (0, v4), some (0, v5), none, none, none, none]) (by decide +kernel) rfl rfl hd (fun d hd => ?_)
  unfold F252 at e
  obtain ⟨r1, q1, e⟩ := zB_s e
  refine zF_blk (m := []) (d := 0) (b := B252_0) (gs := []) (c' := (7, [some (22, 0), some (0, v1), some (0, v2), some (0, v3), some (0, v4), some (0, v5), none, none, none, none], [(0, v1), (22, 0)], (hc, (mset h 0 0 0), o))) K252_0 rfl trivial ?_
  refine zF_call (k := 210) (cl := 12) (n := 2) (i := .invokevirtual 260) (args := [(22, 0), (0, v1)]) (rest := []) (g1 := (hc, (mset h 0 0 0), o)) (r1 := some (0, r1)) (by decide +kernel) rfl rfl rfl (st' := [(0, r1)]) rfl (S210 (Nat.le_trans (by decide) hd) v1 (mset h 0 0 0) _ q1) ?_
  rcases zI_s e with ⟨q2, e⟩ | ⟨q2, e⟩
  · refine zF_blk (m := []) (d := 1) (b := B252_11) (gs := [r1 = 0]) (c' := (57, [some (22, 0), some (0, v1), some (0, v2), some (0, v3), some (0, v4), some (0, v5), none, none, none, none], [], (hc, (mset h 0 0 0), o))) K252_11 rfl ⟨q2, trivial⟩ ?_
    refine zF_blk (m := []) (d := 0) (b := B252_1) (gs := []) (c' := (58, [some (22, 0), some (0, v1), some (0, v2), some (0, v3), some (0, v4), some (0, v5), none, none, none, none], [(0, (-1))], (hc, (mset h 0 0 0), o))) K252_1 rfl trivial ?_
    exact zF_riM (by decide +kernel) e
  · refine zF_blk (m := []) (d := 0) (b := B252_11) (gs := [¬ (r1 = 0)]) (c' := (13, [some (22, 0), some (0, v1), some (0, v2), some (0, v3), some (0, v4), some (0, v5), none, none, none, none], [], (hc, (mset h 0 0 0), o))) K252_11 rfl ⟨q2, trivial⟩ ?_
    obtain ⟨r2, q3, e⟩ := zB_s e
    refine zF_blk (m := []) (d := 0) (b := B252_2) (gs := []) (c' := (15, [some (22, 0), some (0, v1), some (0, v2), some (0, v3), some (0, v4), some (0, v5), none, none, none, none], [(0, v2), (22, 0)], (hc, (mset h 0 0 0), o))) K252_2 rfl trivial ?_
    refine zF_call (k := 210) (cl := 12) (n := 2) (i := .invokevirtual 260) (args := [(22, 0), (0, v2)]) (rest := []) (g1 := (hc, (mset h 0 0 0), o)) (r1 := some (0, r2)) (by decide +kernel) rfl rfl rfl (st' := [(0, r2)]) rfl (S210 (Nat.le_trans (by decide) hd) v2 (mset h 0 0 0) _ q3) ?_
    rcases zI_s e with ⟨q4, e⟩ | ⟨q4, e⟩
    · refine zF_blk (m := []) (d := 1) (b := B252_10) (gs := [r2 = 0]) (c' := (57, [some (22, 0), some (0, v1), some (0, v2), some (0, v3), some (0, v4), some (0, v5), none, none, none, none], [], (hc, (mset h 0 0 0), o))) K252_10 rfl ⟨q4, trivial⟩ ?_
      refine zF_blk (m := []) (d := 0) (b := B252_1) (gs := []) (c' := (58, [some (22, 0), some (0, v1), some (0, v2), some (0, v3), some (0, v4), some (0, v5), none, none, none, none], [(0, (-1))], (hc, (mset h 0 0 0), o))) K252_1 rfl trivial ?_
      exact zF_riM (by decide +kernel) e
    · refine zF_blk (m := []) (d := 0) (b := B252_10) (gs := [¬ (r2 = 0)]) (c' := (21, [some (22, 0), some (0, v1), some (0, v2), some (0, v3), some (0, v4), some (0, v5), none, none, none, none], [], (hc, (mset h 0 0 0), o))) K252_10 rfl ⟨q4, trivial⟩ ?_
      rcases zI_s e with ⟨q5, e⟩ | ⟨q5, e⟩
      · refine zF_blk (m := []) (d := 1) (b := B252_9) (gs := [v1 = v2]) (c' := (57, [some (22, 0), some (0, v1), some (0, v2), some (0, v3), some (0, v4), some (0, v5), none, none, none, none], [], (hc, (mset h 0 0 0), o))) K252_9 rfl ⟨q5, trivial⟩ ?_
        refine zF_blk (m := []) (d := 0) (b := B252_1) (gs := []) (c' := (58, [some (22, 0), some (0, v1), some (0, v2), some (0, v3), some (0, v4), some (0, v5), none, none, none, none], [(0, (-1))], (hc, (mset h 0 0 0), o))) K252_1 rfl trivial ?_
        exact zF_riM (by decide +kernel) e
      · refine zF_blk (m := []) (d := 0) (b := B252_9) (gs := [¬ (v1 = v2)]) (c' := (26, [some (22, 0), some (0, v1), some (0, v2), some (0, v3), some (0, v4), some (0, v5), none, none, none, none], [], (hc, (mset h 0 0 0), o))) K252_9 rfl ⟨q5, trivial⟩ ?_
        obtain ⟨r3, q6, e⟩ := zB_s e
        refine zF_blk (m := []) (d := 0) (b := B252_3) (gs := []) (c' := (30, [some (22, 0), some (0, v1), some (0, v2), some (0, v3), some (0, v4), some (0, v5), none, none, none, none], [(0, 9), (0, 1), (0, v3)], (hc, (mset h 0 0 0), o))) K252_3 rfl trivial ?_
        refine zF_call (k := 188) (cl := 12) (n := 3) (i := .invokestatic 151) (args := [(0, v3), (0, 1), (0, 9)]) (rest := []) (g1 := (hc, (mset h 0 0 0), o)) (r1 := some (0, r3)) (by decide +kernel) rfl rfl rfl (st' := [(0, r3)]) rfl (S188 (Nat.le_trans (by decide) hd) v3 1 9 (mset h 0 0 0) _ q6) ?_
        rcases zI_s e with ⟨q7, e⟩ | ⟨q7, e⟩
        · refine zF_blk (m := []) (d := 1) (b := B252_8) (gs := [r3 = 0]) (c' := (57, [some (22, 0), some (0, v1), some (0, v2), some (0, v3), some (0, v4), some (0, v5), none, none, none, none], [], (hc, (mset h 0 0 0), o))) K252_8 rfl ⟨q7, trivial⟩ ?_
          refine zF_blk (m := []) (d := 0) (b := B252_1) (gs := []) (c' := (58, [some (22, 0), some (0, v1), some (0, v2), some (0, v3), some (0, v4), some (0, v5), none, none, none, none], [(0, (-1))], (hc, (mset h 0 0 0), o))) K252_1 rfl trivial ?_
          exact zF_riM (by decide +kernel) e
        · refine zF_blk (m := []) (d := 0) (b := B252_8) (gs := [¬ (r3 = 0)]) (c' := (36, [some (22, 0), some (0, v1), some (0, v2), some (0, v3), some (0, v4), some (0, v5), none, none, none, none], [], (hc, (mset h 0 0 0), o))) K252_8 rfl ⟨q7, trivial⟩ ?_
          obtain ⟨r4, q8, e⟩ := zB_s e
          refine zF_blk (m := []) (d := 0) (b := B252_4) (gs := []) (c' := (38, [some (22, 0), some (0, v1), some (0, v2), some (0, v3), some (0, v4), some (0, v5), none, none, none, none], [(0, v4)], (hc, (mset h 0 0 0), o))) K252_4 rfl trivial ?_
          refine zF_call (k := 242) (cl := 12) (n := 1) (i := .invokestatic 323) (args := [(0, v4)]) (rest := []) (g1 := (hc, (mset h 0 0 0), o)) (r1 := some (0, r4)) (by decide +kernel) rfl rfl rfl (st' := [(0, r4)]) rfl (S242 (Nat.le_trans (by decide) hd) v4 (mset h 0 0 0) _ q8) ?_
          rcases zI_s e with ⟨q9, e⟩ | ⟨q9, e⟩
          · refine zF_blk (m := []) (d := 1) (b := B252_7) (gs := [r4 = 0]) (c' := (57, [some (22, 0), some (0, v1), some (0, v2), some (0, v3), some (0, v4), some (0, v5), none, none, none, none], [], (hc, (mset h 0 0 0), o))) K252_7 rfl ⟨q9, trivial⟩ ?_
            refine zF_blk (m := []) (d := 0) (b := B252_1) (gs := []) (c' := (58, [some (22, 0), some (0, v1), some (0, v2), some (0, v3), some (0, v4), some (0, v5), none, none, none, none], [(0, (-1))], (hc, (mset h 0 0 0), o))) K252_1 rfl trivial ?_
            exact zF_riM (by decide +kernel) e
          · refine zF_blk (m := []) (d := 0) (b := B252_7) (gs := [¬ (r4 = 0)]) (c' := (44, [some (22, 0), some (0, v1), some (0, v2), some (0, v3), some (0, v4), some (0, v5), none, none, none, none], [], (hc, (mset h 0 0 0), o))) K252_7 rfl ⟨q9, trivial⟩ ?_
            rcases zI_s e with ⟨q10, e⟩ | ⟨q10, e⟩
            · refine zF_blk (m := []) (d := 1) (b := B252_6) (gs := [0 ≤ 216 ∧ 216 < 2140, ¬ (h 14 216) = 30]) (c' := (59, [some (22, 0), some (0, v1), some (0, v2), some (0, v3), some (0, v4), some (0, v5), none, none, none, none], [], (hc, (mset h 0 0 0), o))) K252_6 rfl ⟨by decide, q10, trivial⟩ ?_
              refine zF_blk (m := []) (d := 0) (b := B252_5) (gs := []) (c' := (65, [some (22, 0), some (0, v1), some (0, v2), some (0, v3), some (0, v4), some (0, v5), some (0, 0), some (0, 0), none, none], [], (hc, (mset h 0 0 0), o))) K252_5 rfl trivial ?_
              exact T252_0 hd zFu v1 v2 v3 v4 v5 0 0 (mset h 0 0 0) _ e
            · refine zF_blk (m := []) (d := 0) (b := B252_6) (gs := [0 ≤ 216 ∧ 216 < 2140, ¬ (¬ (h 14 216) = 30)]) (c' := (57, [some (22, 0), some (0, v1), some (0, v2), some (0, v3), some (0, v4), some (0, v5), none, none, none, none], [], (hc, (mset h 0 0 0), o))) K252_6 rfl ⟨by decide, q10, trivial⟩ ?_
              refine zF_blk (m := []) (d := 0) (b := B252_1) (gs := []) (c' := (58, [some (22, 0), some (0, v1), some (0, v2), some (0, v3), some (0, v4), some (0, v5), none, none, none, none], [(0, (-1))], (hc, (mset h 0 0 0), o))) K252_1 rfl trivial ?_
              exact zF_riM (by decide +kernel) e
