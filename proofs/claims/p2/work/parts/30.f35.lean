/-! Functions of the methods, by wip/gen/lift.py. -/
def B112_0 : List zRow := [(0, .aload_n 0, 1, (0, 0, 0)), (1, .iload_n 1, 1, (0, 0, 0))]
theorem K112_0 : zRk 112 B112_0 = true := by decide +kernel
def B112_1 : List zRow := [(25, .iconst (-1), 1, (0, 0, 0))]
theorem K112_1 : zRk 112 B112_1 = true := by decide +kernel
def B112_2 : List zRow := [(8, .iload_n 2, 1, (0, 0, 0))]
theorem K112_2 : zRk 112 B112_2 = true := by decide +kernel
def B112_3 : List zRow := [(15, .aload_n 0, 1, (0, 0, 0)), (16, .getfield 56, 3, (11, 6, 7))]
theorem K112_3 : zRk 112 B112_3 = true := by decide +kernel
def B112_4 : List zRow := [(27, .bipush 9, 2, (0, 0, 0)), (29, .istore_n 3, 1, (0, 0, 0))]
theorem K112_4 : zRk 112 B112_4 = true := by decide +kernel
def B112_5 : List zRow := [(22, .ifCond .eq 5, 3, (0, 0, 0))]
theorem K112_5 : zRk 112 B112_5 = true := by decide +kernel
def B112_6 : List zRow := [(12, .ifCond .eq 13, 3, (0, 0, 0))]
theorem K112_6 : zRk 112 B112_6 = true := by decide +kernel
def B112_7 : List zRow := [(5, .ifCond .eq 20, 3, (0, 0, 0))]
theorem K112_7 : zRk 112 B112_7 = true := by decide +kernel
def B112_8 : List zRow := [(71, .iconst 0, 1, (0, 0, 0))]
theorem K112_8 : zRk 112 B112_8 = true := by decide +kernel
def B112_9 : List zRow := [(34, .aload_n 0, 1, (0, 0, 0)), (35, .iload_n 1, 1, (0, 0, 0)), (36, .aload_n 0, 1, (0, 0, 0)), (37, .getfield 56, 3, (11, 6, 7)), (40, .getfield 177, 3, (1, 3, 5242906)), (43, .iload_n 1, 1, (0, 0, 0)), (44, .iaload, 1, (0, 0, 0)), (45, .iload_n 3, 1, (0, 0, 0)), (46, .iload_n 2, 1, (0, 0, 0))]
theorem K112_9 : zRk 112 B112_9 = true := by decide +kernel
def B112_10 : List zRow := [(50, .aload_n 0, 1, (0, 0, 0)), (51, .getfield 60, 3, (11, 7, 135)), (54, .iconst 0, 1, (0, 0, 0)), (55, .bipush 7, 2, (0, 0, 0))]
theorem K112_10 : zRk 112 B112_10 = true := by decide +kernel
def B112_11 : List zRow := [(65, .iinc 3 (-1), 3, (0, 0, 0)), (68, .goto (-38), 3, (0, 0, 0))]
theorem K112_11 : zRk 112 B112_11 = true := by decide +kernel
def B112_12 : List zRow := [(63, .iload_n 3, 1, (0, 0, 0))]
theorem K112_12 : zRk 112 B112_12 = true := by decide +kernel
def B112_13 : List zRow := [(60, .ifCond .ne 5, 3, (0, 0, 0))]
theorem K112_13 : zRk 112 B112_13 = true := by decide +kernel
def B112_14 : List zRow := [(30, .iload_n 3, 1, (0, 0, 0)), (31, .ifCond .le 40, 3, (0, 0, 0))]
theorem K112_14 : zRk 112 B112_14 = true := by decide +kernel
def F112_0 : Nat → Int → Int → Int → zHC → Option (Int × zHC)
  | 0, _, _, _, _ => none
  | n + 1, v1, v2, v3, h => if v3 ≤ 0 then some (0, h) else zG (0 ≤ v1 ∧ v1 < 6) ((F111 v1 (h 67 0 v1) v3 v2 h).bind fun r1 => (F63 1 0 7 r1).bind fun r2 => if ¬ r2 = 0 then (F112_0 n) v1 v2 (wadd v3 (-1)) r1 else some (v3, r1))
set_option maxRecDepth 100000 in
theorem T112_0 {spec : zRn zH2} {hm : zHM} {o : Int → Int} {d : Nat} (hd : 7 ≤ d) : ∀ (n : Nat) (v1 : Int) (v2 : Int) (v3 : Int) (h : zHC) (v : (Int × zHC)), F112_0 n v1 v2 v3 h = some v → zFin 0 (fun _ => 0) (zRu2 spec d) 112 (some (0, v.1)) (v.2, hm, o) (30, [some (21, 0), some (0, v1), some (0, v2), some (0, v3)], [], (h, hm, o)) := by
  intro n
  induction n with
  | zero => intro v1 v2 v3 h v e; unfold F112_0 at e; cases e
  | succ n hk0 =>
    intro v1 v2 v3 h v e
    unfold F112_0 at e
    rcases zI_s e with ⟨q1, e⟩ | ⟨q1, e⟩
    · refine zF_blk (m := []) (d := 1) (b := B112_14) (gs := [v3 ≤ 0]) (c' := (71, [some (21, 0), some (0, v1), some (0, v2), some (0, v3)], [], (h, hm, o))) K112_14 rfl ⟨q1, trivial⟩ ?_
      refine zF_blk (m := []) (d := 0) (b := B112_8) (gs := []) (c' := (72, [some (21, 0), some (0, v1), some (0, v2), some (0, v3)], [(0, 0)], (h, hm, o))) K112_8 rfl trivial ?_
      exact zF_riC (by decide +kernel) e
    · refine zF_blk (m := []) (d := 0) (b := B112_14) (gs := [¬ (v3 ≤ 0)]) (c' := (34, [some (21, 0), some (0, v1), some (0, v2), some (0, v3)], [], (h, hm, o))) K112_14 rfl ⟨q1, trivial⟩ ?_
      obtain ⟨q2, e⟩ := zG_s e
      obtain ⟨r1, q3, e⟩ := zB_s e
      refine zF_blk (m := []) (d := 0) (b := B112_9) (gs := [0 ≤ v1 ∧ v1 < 6]) (c' := (47, [some (21, 0), some (0, v1), some (0, v2), some (0, v3)], [(0, v2), (0, v3), (0, (h 67 0 v1)), (0, v1), (21, 0)], (h, hm, o))) K112_9 rfl ⟨q2, trivial⟩ ?_
      refine zF_call (k := 111) (cl := 11) (n := 5) (i := .invokevirtual 262) (args := [(21, 0), (0, v1), (0, (h 67 0 v1)), (0, v3), (0, v2)]) (rest := []) (g1 := (r1, hm, o)) (r1 := none) (by decide +kernel) rfl rfl rfl (st' := []) rfl (S111 (Nat.le_trans (by decide) hd) v1 (h 67 0 v1) v3 v2 h _ q3) ?_
      obtain ⟨r2, q4, e⟩ := zB_s e
      refine zF_blk (m := []) (d := 0) (b := B112_10) (gs := []) (c' := (57, [some (21, 0), some (0, v1), some (0, v2), some (0, v3)], [(0, 7), (0, 0), (11, 1)], (r1, hm, o))) K112_10 rfl trivial ?_
      refine zF_call (k := 63) (cl := 1) (n := 3) (i := .invokevirtual 196) (args := [(11, 1), (0, 0), (0, 7)]) (rest := []) (g1 := (r1, hm, o)) (r1 := some (0, r2)) (by decide +kernel) rfl rfl rfl (st' := [(0, r2)]) rfl (S63 (Nat.le_trans (by decide) hd) 1 0 7 r1 _ q4) ?_
      rcases zI_s e with ⟨q5, e⟩ | ⟨q5, e⟩
      · refine zF_blk (m := []) (d := 1) (b := B112_13) (gs := [¬ r2 = 0]) (c' := (65, [some (21, 0), some (0, v1), some (0, v2), some (0, v3)], [], (r1, hm, o))) K112_13 rfl ⟨q5, trivial⟩ ?_
        refine zF_blk (m := []) (d := 0) (b := B112_11) (gs := []) (c' := (30, [some (21, 0), some (0, v1), some (0, v2), some (0, (wadd v3 (-1)))], [], (r1, hm, o))) K112_11 rfl trivial ?_
        exact hk0 v1 v2 (wadd v3 (-1)) r1 _ e
      · refine zF_blk (m := []) (d := 0) (b := B112_13) (gs := [¬ (¬ r2 = 0)]) (c' := (63, [some (21, 0), some (0, v1), some (0, v2), some (0, v3)], [], (r1, hm, o))) K112_13 rfl ⟨q5, trivial⟩ ?_
        refine zF_blk (m := []) (d := 0) (b := B112_12) (gs := []) (c' := (64, [some (21, 0), some (0, v1), some (0, v2), some (0, v3)], [(0, v3)], (r1, hm, o))) K112_12 rfl trivial ?_
        exact zF_riC (by decide +kernel) e
/-- EchoVale.secret(II)I -/
def F112 (v1 : Int) (v2 : Int) (h : zHC) : Option (Int × zHC) := (F61 v1 h).bind fun r1 => if r1 = 0 then some ((-1), h) else (F99 v2).bind fun r2 => if r2 = 0 then some ((-1), h) else (F75 0 h).bind fun r3 => if r3 = 0 then F112_0 zFu v1 v2 9 h else some ((-1), h)
set_option maxRecDepth 100000 in
theorem S112 {spec : zRn zH2} {hm : zHM} {o : Int → Int} {d : Nat} (hd : 8 ≤ d) (v1 : Int) (v2 : Int) (h : zHC) (v : (Int × zHC)) (e : F112 v1 v2 h = some v) : zRu2 spec d 112 [(21, 0), (0, v1), (0, v2)] (h, hm, o) (some (0, v.1)) (v.2, hm, o) := by
  refine zF_in (D := 7) (mx := 4) (L := [some (21, 0), some (0, v1), some (0, v2), none]) (by decide +kernel) rfl rfl hd (fun d hd => ?_)
  unfold F112 at e
  obtain ⟨r1, q1, e⟩ := zB_s e
  refine zF_blk (m := []) (d := 0) (b := B112_0) (gs := []) (c' := (2, [some (21, 0), some (0, v1), some (0, v2), none], [(0, v1), (21, 0)], (h, hm, o))) K112_0 rfl trivial ?_
  refine zF_call (k := 61) (cl := 11) (n := 2) (i := .invokevirtual 172) (args := [(21, 0), (0, v1)]) (rest := []) (g1 := (h, hm, o)) (r1 := some (0, r1)) (by decide +kernel) rfl rfl rfl (st' := [(0, r1)]) rfl (S61 (Nat.le_trans (by decide) hd) v1 h _ q1) ?_
  rcases zI_s e with ⟨q2, e⟩ | ⟨q2, e⟩
  · refine zF_blk (m := []) (d := 1) (b := B112_7) (gs := [r1 = 0]) (c' := (25, [some (21, 0), some (0, v1), some (0, v2), none], [], (h, hm, o))) K112_7 rfl ⟨q2, trivial⟩ ?_
    refine zF_blk (m := []) (d := 0) (b := B112_1) (gs := []) (c' := (26, [some (21, 0), some (0, v1), some (0, v2), none], [(0, (-1))], (h, hm, o))) K112_1 rfl trivial ?_
    exact zF_riC (by decide +kernel) e
  · refine zF_blk (m := []) (d := 0) (b := B112_7) (gs := [¬ (r1 = 0)]) (c' := (8, [some (21, 0), some (0, v1), some (0, v2), none], [], (h, hm, o))) K112_7 rfl ⟨q2, trivial⟩ ?_
    obtain ⟨r2, q3, e⟩ := zB_s e
    refine zF_blk (m := []) (d := 0) (b := B112_2) (gs := []) (c' := (9, [some (21, 0), some (0, v1), some (0, v2), none], [(0, v2)], (h, hm, o))) K112_2 rfl trivial ?_
    refine zF_call (k := 99) (cl := 11) (n := 1) (i := .invokestatic 242) (args := [(0, v2)]) (rest := []) (g1 := (h, hm, o)) (r1 := some (0, r2)) (by decide +kernel) rfl rfl rfl (st' := [(0, r2)]) rfl (S99 (Nat.le_trans (by decide) hd) v2 h _ q3) ?_
    rcases zI_s e with ⟨q4, e⟩ | ⟨q4, e⟩
    · refine zF_blk (m := []) (d := 1) (b := B112_6) (gs := [r2 = 0]) (c' := (25, [some (21, 0), some (0, v1), some (0, v2), none], [], (h, hm, o))) K112_6 rfl ⟨q4, trivial⟩ ?_
      refine zF_blk (m := []) (d := 0) (b := B112_1) (gs := []) (c' := (26, [some (21, 0), some (0, v1), some (0, v2), none], [(0, (-1))], (h, hm, o))) K112_1 rfl trivial ?_
      exact zF_riC (by decide +kernel) e
    · refine zF_blk (m := []) (d := 0) (b := B112_6) (gs := [¬ (r2 = 0)]) (c' := (15, [some (21, 0), some (0, v1), some (0, v2), none], [], (h, hm, o))) K112_6 rfl ⟨q4, trivial⟩ ?_
      obtain ⟨r3, q5, e⟩ := zB_s e
      refine zF_blk (m := []) (d := 0) (b := B112_3) (gs := []) (c' := (19, [some (21, 0), some (0, v1), some (0, v2), none], [(11, 0)], (h, hm, o))) K112_3 rfl trivial ?_
      refine zF_call (k := 75) (cl := 1) (n := 1) (i := .invokevirtual 224) (args := [(11, 0)]) (rest := []) (g1 := (h, hm, o)) (r1 := some (0, r3)) (by decide +kernel) rfl rfl rfl (st' := [(0, r3)]) rfl (S75 (Nat.le_trans (by decide) hd) 0 h _ q5) ?_
      rcases zI_s e with ⟨q6, e⟩ | ⟨q6, e⟩
      · refine zF_blk (m := []) (d := 1) (b := B112_5) (gs := [r3 = 0]) (c' := (27, [some (21, 0), some (0, v1), some (0, v2), none], [], (h, hm, o))) K112_5 rfl ⟨q6, trivial⟩ ?_
        refine zF_blk (m := []) (d := 0) (b := B112_4) (gs := []) (c' := (30, [some (21, 0), some (0, v1), some (0, v2), some (0, 9)], [], (h, hm, o))) K112_4 rfl trivial ?_
        exact T112_0 hd zFu v1 v2 9 h _ e
      · refine zF_blk (m := []) (d := 0) (b := B112_5) (gs := [¬ (r3 = 0)]) (c' := (25, [some (21, 0), some (0, v1), some (0, v2), none], [], (h, hm, o))) K112_5 rfl ⟨q6, trivial⟩ ?_
        refine zF_blk (m := []) (d := 0) (b := B112_1) (gs := []) (c' := (26, [some (21, 0), some (0, v1), some (0, v2), none], [(0, (-1))], (h, hm, o))) K112_1 rfl trivial ?_
        exact zF_riC (by decide +kernel) e
def B253_0 : List zRow := [(0, .aload_n 0, 1, (0, 0, 0)), (1, .iconst 0, 1, (0, 0, 0)), (2, .putfield 81, 3, (12, 0, 0)), (5, .aload_n 0, 1, (0, 0, 0)), (6, .iload_n 1, 1, (0, 0, 0))]
theorem K253_0 : zRk 253 B253_0 = true := by decide +kernel
def B253_1 : List zRow := [(33, .iconst (-1), 1, (0, 0, 0))]
theorem K253_1 : zRk 253 B253_1 = true := by decide +kernel
def B253_2 : List zRow := [(13, .iload_n 2, 1, (0, 0, 0))]
theorem K253_2 : zRk 253 B253_2 = true := by decide +kernel
def B253_3 : List zRow := [(35, .bipush 9, 2, (0, 0, 0)), (37, .istore_n 3, 1, (0, 0, 0))]
theorem K253_3 : zRk 253 B253_3 = true := by decide +kernel
def B253_4 : List zRow := [(20, .aload_n 0, 1, (0, 0, 0)), (21, .getfield 13, 3, (12, 14, 5251442)), (24, .sipush 216, 3, (0, 0, 0)), (27, .iaload, 1, (0, 0, 0)), (28, .bipush 30, 2, (0, 0, 0)), (30, .if_icmp .ne 5, 3, (0, 0, 0))]
theorem K253_4 : zRk 253 B253_4 = true := by decide +kernel
def B253_5 : List zRow := [(17, .ifCond .eq 16, 3, (0, 0, 0))]
theorem K253_5 : zRk 253 B253_5 = true := by decide +kernel
def B253_6 : List zRow := [(10, .ifCond .eq 23, 3, (0, 0, 0))]
theorem K253_6 : zRk 253 B253_6 = true := by decide +kernel
def B253_7 : List zRow := [(96, .iconst 0, 1, (0, 0, 0))]
theorem K253_7 : zRk 253 B253_7 = true := by decide +kernel
def B253_8 : List zRow := [(42, .aload_n 0, 1, (0, 0, 0))]
theorem K253_8 : zRk 253 B253_8 = true := by decide +kernel
def B253_9 : List zRow := [(46, .aload_n 0, 1, (0, 0, 0)), (47, .iload_n 1, 1, (0, 0, 0)), (48, .iconst 1, 1, (0, 0, 0)), (49, .iload_n 3, 1, (0, 0, 0))]
theorem K253_9 : zRk 253 B253_9 = true := by decide +kernel
def B253_10 : List zRow := [(53, .istore 4, 2, (0, 0, 0)), (55, .aload_n 0, 1, (0, 0, 0)), (56, .iload_n 2, 1, (0, 0, 0))]
theorem K253_10 : zRk 253 B253_10 = true := by decide +kernel
def B253_11 : List zRow := [(60, .pop, 1, (0, 0, 0)), (61, .aload_n 0, 1, (0, 0, 0)), (62, .iload 4, 2, (0, 0, 0)), (64, .bipush 7, 2, (0, 0, 0))]
theorem K253_11 : zRk 253 B253_11 = true := by decide +kernel
def B253_12 : List zRow := [(76, .iconst 0, 1, (0, 0, 0))]
theorem K253_12 : zRk 253 B253_12 = true := by decide +kernel
def B253_13 : List zRow := [(72, .iconst 1, 1, (0, 0, 0)), (73, .goto 4, 3, (0, 0, 0))]
theorem K253_13 : zRk 253 B253_13 = true := by decide +kernel
def B253_14 : List zRow := [(69, .ifCond .ne 7, 3, (0, 0, 0))]
theorem K253_14 : zRk 253 B253_14 = true := by decide +kernel
def B253_15 : List zRow := [(38, .iload_n 3, 1, (0, 0, 0)), (39, .ifCond .le 57, 3, (0, 0, 0))]
theorem K253_15 : zRk 253 B253_15 = true := by decide +kernel
def B253_16 : List zRow := [(77, .istore 5, 2, (0, 0, 0)), (79, .aload_n 0, 1, (0, 0, 0))]
theorem K253_16 : zRk 253 B253_16 = true := by decide +kernel
def B253_17 : List zRow := [(90, .iinc 3 (-1), 3, (0, 0, 0)), (93, .goto (-55), 3, (0, 0, 0))]
theorem K253_17 : zRk 253 B253_17 = true := by decide +kernel
def B253_18 : List zRow := [(88, .iload_n 3, 1, (0, 0, 0))]
theorem K253_18 : zRk 253 B253_18 = true := by decide +kernel
def B253_19 : List zRow := [(83, .iload 5, 2, (0, 0, 0)), (85, .ifCond .eq 5, 3, (0, 0, 0))]
theorem K253_19 : zRk 253 B253_19 = true := by decide +kernel
def F253_1 (k0 : Int → Int → Int → zHM → Option (Int × zHM)) (v1 : Int) (v2 : Int) (v3 : Int) (s0 : Int) (h : zHM) : Option (Int × zHM) := (F245 h).bind fun r1 => if s0 = 0 then k0 v1 v2 (wadd v3 (-1)) r1 else some (v3, r1)
set_option maxRecDepth 100000 in
theorem T253_1 {spec : zRn zH2} {hc : zHC} {o : Int → Int} {d : Nat} (hd : 6 ≤ d) (k0 : Int → Int → Int → zHM → Option (Int × zHM)) (hk0 : ∀ (v1 : Int) (v2 : Int) (v3 : Int) (h : zHM) (v : (Int × zHM)), k0 v1 v2 v3 h = some v → zFin 0 (fun _ => 0) (zRu2 spec d) 253 (some (0, v.1)) (hc, v.2, o) (38, [some (22, 0), some (0, v1), some (0, v2), some (0, v3), none, none], [], (hc, h, o))) (v1 : Int) (v2 : Int) (v3 : Int) (s0 : Int) (h : zHM) (v : (Int × zHM)) (e : F253_1 k0 v1 v2 v3 s0 h = some v) : zFin 0 (fun _ => 0) (zRu2 spec d) 253 (some (0, v.1)) (hc, v.2, o) (77, [some (22, 0), some (0, v1), some (0, v2), some (0, v3), none, none], [(0, s0)], (hc, h, o)) := by
  unfold F253_1 at e
  obtain ⟨r1, q1, e⟩ := zB_s e
  refine zF_blk (m := []) (d := 0) (b := B253_16) (gs := []) (c' := (80, [some (22, 0), some (0, v1), some (0, v2), some (0, v3), none, some (0, s0)], [(22, 0)], (hc, h, o))) K253_16 rfl trivial ?_
  refine zF_call (k := 245) (cl := 12) (n := 1) (i := .invokevirtual 320) (args := [(22, 0)]) (rest := []) (g1 := (hc, r1, o)) (r1 := none) (by decide +kernel) rfl rfl rfl (st' := []) rfl (S245 (Nat.le_trans (by decide) hd)  h _ q1) ?_
  rcases zI_s e with ⟨q2, e⟩ | ⟨q2, e⟩
  · refine zF_blk (m := []) (d := 1) (b := B253_19) (gs := [s0 = 0]) (c' := (90, [some (22, 0), some (0, v1), some (0, v2), some (0, v3), none, some (0, s0)], [], (hc, r1, o))) K253_19 rfl ⟨q2, trivial⟩ ?_
    refine zF_blk (m := []) (d := 0) (b := B253_17) (gs := []) (c' := (38, [some (22, 0), some (0, v1), some (0, v2), some (0, (wadd v3 (-1))), none, some (0, s0)], [], (hc, r1, o))) K253_17 rfl trivial ?_
    refine zF_blk (m := [true, true, true, true, false, false]) (d := 0) (b := []) (gs := []) (c' := (38, [some (22, 0), some (0, v1), some (0, v2), some (0, (wadd v3 (-1))), none, none], [], (hc, r1, o))) rfl rfl trivial ?_
    exact hk0 v1 v2 (wadd v3 (-1)) r1 _ e
  · refine zF_blk (m := []) (d := 0) (b := B253_19) (gs := [¬ (s0 = 0)]) (c' := (88, [some (22, 0), some (0, v1), some (0, v2), some (0, v3), none, some (0, s0)], [], (hc, r1, o))) K253_19 rfl ⟨q2, trivial⟩ ?_
    refine zF_blk (m := []) (d := 0) (b := B253_18) (gs := []) (c' := (89, [some (22, 0), some (0, v1), some (0, v2), some (0, v3), none, some (0, s0)], [(0, v3)], (hc, r1, o))) K253_18 rfl trivial ?_
    exact zF_riM (by decide +kernel) e
def F253_0 : Nat → Int → Int → Int → zHM → Option (Int × zHM)
  | 0, _, _, _, _ => none
  | n + 1, v1, v2, v3, h => if v3 ≤ 0 then some (0, h) else (F244 h).bind fun r1 => (F227 v1 1 v3 r1).bind fun r2 => (F235 v2 r2.2).bind fun r3 => (F213 r2.1 7 r3.2).bind fun r4 => if ¬ r4 = 0 then F253_1 (F253_0 n) v1 v2 v3 0 r3.2 else F253_1 (F253_0 n) v1 v2 v3 1 r3.2
set_option maxRecDepth 100000 in
theorem T253_0 {spec : zRn zH2} {hc : zHC} {o : Int → Int} {d : Nat} (hd : 6 ≤ d) : ∀ (n : Nat) (v1 : Int) (v2 : Int) (v3 : Int) (h : zHM) (v : (Int × zHM)), F253_0 n v1 v2 v3 h = some v → zFin 0 (fun _ => 0) (zRu2 spec d) 253 (some (0, v.1)) (hc, v.2, o) (38, [some (22, 0), some (0, v1), some (0, v2), some (0, v3), none, none], [], (hc, h, o)) := by
  intro n
  induction n with
  | zero => intro v1 v2 v3 h v e; unfold F253_0 at e; cases e
  | succ n hk0 =>
    intro v1 v2 v3 h v e
    unfold F253_0 at e
    rcases zI_s e with ⟨q1, e⟩ | ⟨q1, e⟩
    · refine zF_blk (m := []) (d := 1) (b := B253_15) (gs := [v3 ≤ 0]) (c' := (96, [some (22, 0), some (0, v1), some (0, v2), some (0, v3), none, none], [], (hc, h, o))) K253_15 rfl ⟨q1, trivial⟩ ?_
      refine zF_blk (m := []) (d := 0) (b := B253_7) (gs := []) (c' := (97, [some (22, 0), some (0, v1), some (0, v2), some (0, v3), none, none], [(0, 0)], (hc, h, o))) K253_7 rfl trivial ?_
      exact zF_riM (by decide +kernel) e
    · refine zF_blk (m := []) (d := 0) (b := B253_15) (gs := [¬ (v3 ≤ 0)]) (c' := (42, [some (22, 0), some (0, v1), some (0, v2), some (0, v3), none, none], [], (hc, h, o))) K253_15 rfl ⟨q1, trivial⟩ ?_
      obtain ⟨r1, q2, e⟩ := zB_s e
      refine zF_blk (m := []) (d := 0) (b := B253_8) (gs := []) (c' := (43, [some (22, 0), some (0, v1), some (0, v2), some (0, v3), none, none], [(22, 0)], (hc, h, o))) K253_8 rfl trivial ?_
      refine zF_call (k := 244) (cl := 12) (n := 1) (i := .invokevirtual 317) (args := [(22, 0)]) (rest := []) (g1 := (hc, r1, o)) (r1 := none) (by decide +kernel) rfl rfl rfl (st' := []) rfl (S244 (Nat.le_trans (by decide) hd)  h _ q2) ?_
      obtain ⟨r2, q3, e⟩ := zB_s e
      refine zF_blk (m := []) (d := 0) (b := B253_9) (gs := []) (c' := (50, [some (22, 0), some (0, v1), some (0, v2), some (0, v3), none, none], [(0, v3), (0, 1), (0, v1), (22, 0)], (hc, r1, o))) K253_9 rfl trivial ?_
      refine zF_call (k := 227) (cl := 12) (n := 4) (i := .invokevirtual 311) (args := [(22, 0), (0, v1), (0, 1), (0, v3)]) (rest := []) (g1 := (hc, r2.2, o)) (r1 := some (0, r2.1)) (by decide +kernel) rfl rfl rfl (st' := [(0, r2.1)]) rfl (S227 (Nat.le_trans (by decide) hd) v1 1 v3 r1 _ q3) ?_
      obtain ⟨r3, q4, e⟩ := zB_s e
      refine zF_blk (m := []) (d := 0) (b := B253_10) (gs := []) (c' := (57, [some (22, 0), some (0, v1), some (0, v2), some (0, v3), some (0, r2.1), none], [(0, v2), (22, 0)], (hc, r2.2, o))) K253_10 rfl trivial ?_
      refine zF_call (k := 235) (cl := 12) (n := 2) (i := .invokevirtual 314) (args := [(22, 0), (0, v2)]) (rest := []) (g1 := (hc, r3.2, o)) (r1 := some (0, r3.1)) (by decide +kernel) rfl rfl rfl (st' := [(0, r3.1)]) rfl (S235 (Nat.le_trans (by decide) hd) v2 r2.2 _ q4) ?_
      obtain ⟨r4, q5, e⟩ := zB_s e
      refine zF_blk (m := []) (d := 0) (b := B253_11) (gs := []) (c' := (66, [some (22, 0), some (0, v1), some (0, v2), some (0, v3), some (0, r2.1), none], [(0, 7), (0, r2.1), (22, 0)], (hc, r3.2, o))) K253_11 rfl trivial ?_
      refine zF_call (k := 213) (cl := 12) (n := 3) (i := .invokevirtual 247) (args := [(22, 0), (0, r2.1), (0, 7)]) (rest := []) (g1 := (hc, r3.2, o)) (r1 := some (0, r4)) (by decide +kernel) rfl rfl rfl (st' := [(0, r4)]) rfl (S213 (Nat.le_trans (by decide) hd) r2.1 7 r3.2 _ q5) ?_
      rcases zI_s e with ⟨q6, e⟩ | ⟨q6, e⟩
      · refine zF_blk (m := []) (d := 1) (b := B253_14) (gs := [¬ r4 = 0]) (c' := (76, [some (22, 0), some (0, v1), some (0, v2), some (0, v3), some (0, r2.1), none], [], (hc, r3.2, o))) K253_14 rfl ⟨q6, trivial⟩ ?_
        refine zF_blk (m := []) (d := 0) (b := B253_12) (gs := []) (c' := (77, [some (22, 0), some (0, v1), some (0, v2), some (0, v3), some (0, r2.1), none], [(0, 0)], (hc, r3.2, o))) K253_12 rfl trivial ?_
        refine zF_blk (m := [true, true, true, true, false, false]) (d := 0) (b := []) (gs := []) (c' := (77, [some (22, 0), some (0, v1), some (0, v2), some (0, v3), none, none], [(0, 0)], (hc, r3.2, o))) rfl rfl trivial ?_
        exact T253_1 hd (F253_0 n) hk0 v1 v2 v3 0 r3.2 _ e
      · refine zF_blk (m := []) (d := 0) (b := B253_14) (gs := [¬ (¬ r4 = 0)]) (c' := (72, [some (22, 0), some (0, v1), some (0, v2), some (0, v3), some (0, r2.1), none], [], (hc, r3.2, o))) K253_14 rfl ⟨q6, trivial⟩ ?_
        refine zF_blk (m := []) (d := 0) (b := B253_13) (gs := []) (c' := (77, [some (22, 0), some (0, v1), some (0, v2), some (0, v3), some (0, r2.1), none], [(0, 1)], (hc, r3.2, o))) K253_13 rfl trivial ?_
        refine zF_blk (m := [true, true, true, true, false, false]) (d := 0) (b := []) (gs := []) (c' := (77, [some (22, 0), some (0, v1), some (0, v2), some (0, v3), none, none], [(0, 1)], (hc, r3.2, o))) rfl rfl trivial ?_
        exact T253_1 hd (F253_0 n) hk0 v1 v2 v3 1 r3.2 _ e
/-- EchoValeModel.secret(II)I -/
def F253 (v1 : Int) (v2 : Int) (h : zHM) : Option (Int × zHM) := (F210 v1 (mset h 0 0 0)).bind fun r1 => if r1 = 0 then some ((-1), (mset h 0 0 0)) else (F242 v2).bind fun r2 => if r2 = 0 then some ((-1), (mset h 0 0 0)) else if ¬ (h 14 216) = 30 then F253_0 zFu v1 v2 9 (mset h 0 0 0) else some ((-1), (mset h 0 0 0))
set_option maxRecDepth 100000 in
theorem S253 {spec : zRn zH2} {hc : zHC} {o : Int → Int} {d : Nat} (hd : 7 ≤ d) (v1 : Int) (v2 : Int) (h : zHM) (v : (Int × zHM)) (e : F253 v1 v2 h = some v) : zRu2 spec d 253 [(22, 0), (0, v1), (0, v2)] (hc, h, o) (some (0, v.1)) (hc, v.2, o) := by
  refine zF_in (D := 6) (mx := 6) (L := [some (22, 0), some (0, v1), some (0, v2), none, none, none]) (by decide +kernel) rfl rfl hd (fun d hd => ?_)
  unfold F253 at e
  obtain ⟨r1, q1, e⟩ := zB_s e
  refine zF_blk (m := []) (d := 0) (b := B253_0) (gs := []) (c' := (7, [some (22, 0), some (0, v1), some (0, v2), none, none, none], [(0, v1), (22, 0)], (hc, (mset h 0 0 0), o))) K253_0 rfl trivial ?_
  refine zF_call (k := 210) (cl := 12) (n := 2) (i := .invokevirtual 260) (args := [(22, 0), (0, v1)]) (rest := []) (g1 := (hc, (mset h 0 0 0), o)) (r1 := some (0, r1)) (by decide +kernel) rfl rfl rfl (st' := [(0, r1)]) rfl (S210 (Nat.le_trans (by decide) hd) v1 (mset h 0 0 0) _ q1) ?_
  rcases zI_s e with ⟨q2, e⟩ | ⟨q2, e⟩
  · refine zF_blk (m := []) (d := 1) (b := B253_6) (gs := [r1 = 0]) (c' := (33, [some (22, 0), some (0, v1), some (0, v2), none, none, none], [], (hc, (mset h 0 0 0), o))) K253_6 rfl ⟨q2, trivial⟩ ?_
    refine zF_blk (m := []) (d := 0) (b := B253_1) (gs := []) (c' := (34, [some (22, 0), some (0, v1), some (0, v2), none, none, none], [(0, (-1))], (hc, (mset h 0 0 0), o))) K253_1 rfl trivial ?_
    exact zF_riM (by decide +kernel) e
  · refine zF_blk (m := []) (d := 0) (b := B253_6) (gs := [¬ (r1 = 0)]) (c' := (13, [some (22, 0), some (0, v1), some (0, v2), none, none, none], [], (hc, (mset h 0 0 0), o))) K253_6 rfl ⟨q2, trivial⟩ ?_
    obtain ⟨r2, q3, e⟩ := zB_s e
    refine zF_blk (m := []) (d := 0) (b := B253_2) (gs := []) (c' := (14, [some (22, 0), some (0, v1), some (0, v2), none, none, none], [(0, v2)], (hc, (mset h 0 0 0), o))) K253_2 rfl trivial ?_
    refine zF_call (k := 242) (cl := 12) (n := 1) (i := .invokestatic 323) (args := [(0, v2)]) (rest := []) (g1 := (hc, (mset h 0 0 0), o)) (r1 := some (0, r2)) (by decide +kernel) rfl rfl rfl (st' := [(0, r2)]) rfl (S242 (Nat.le_trans (by decide) hd) v2 (mset h 0 0 0) _ q3) ?_
    rcases zI_s e with ⟨q4, e⟩ | ⟨q4, e⟩
    · refine zF_blk (m := []) (d := 1) (b := B253_5) (gs := [r2 = 0]) (c' := (33, [some (22, 0), some (0, v1), some (0, v2), none, none, none], [], (hc, (mset h 0 0 0), o))) K253_5 rfl ⟨q4, trivial⟩ ?_
      refine zF_blk (m := []) (d := 0) (b := B253_1) (gs := []) (c' := (34, [some (22, 0), some (0, v1), some (0, v2), none, none, none], [(0, (-1))], (hc, (mset h 0 0 0), o))) K253_1 rfl trivial ?_
      exact zF_riM (by decide +kernel) e
    · refine zF_blk (m := []) (d := 0) (b := B253_5) (gs := [¬ (r2 = 0)]) (c' := (20, [some (22, 0), some (0, v1), some (0, v2), none, none, none], [], (hc, (mset h 0 0 0), o))) K253_5 rfl ⟨q4, trivial⟩ ?_
      rcases zI_s e with ⟨q5, e⟩ | ⟨q5, e⟩
      · refine zF_blk (m := []) (d := 1) (b := B253_4) (gs := [0 ≤ 216 ∧ 216 < 2140, ¬ (h 14 216) = 30]) (c' := (35, [some (22, 0), some (0, v1), some (0, v2), none, none, none], [], (hc, (mset h 0 0 0), o))) K253_4 rfl ⟨by decide, q5, trivial⟩ ?_
        refine zF_blk (m := []) (d := 0) (b := B253_3) (gs := []) (c' := (38, [some (22, 0), some (0, v1), some (0, v2), some (0, 9), none, none], [], (hc, (mset h 0 0 0), o))) K253_3 rfl trivial ?_
        exact T253_0 hd zFu v1 v2 9 (mset h 0 0 0) _ e
      · refine zF_blk (m := []) (d := 0) (b := B253_4) (gs := [0 ≤ 216 ∧ 216 < 2140, ¬ (¬ (h 14 216) = 30)]) (c' := (33, [some (22, 0), some (0, v1), some (0, v2), none, none, none], [], (hc, (mset h 0 0 0), o))) K253_4 rfl ⟨by decide, q5, trivial⟩ ?_
        refine zF_blk (m := []) (d := 0) (b := B253_1) (gs := []) (c' := (34, [some (22, 0), some (0, v1), some (0, v2), none, none, none], [(0, (-1))], (hc, (mset h 0 0 0), o))) K253_1 rfl trivial ?_
        exact zF_riM (by decide +kernel) e
def B113_0 : List zRow := [(11, .iconst (-1), 1, (0, 0, 0))]
theorem K113_0 : zRk 113 B113_0 = true := by decide +kernel
def B113_1 : List zRow := [(13, .aload_n 0, 1, (0, 0, 0)), (14, .getfield 60, 3, (11, 7, 135)), (17, .aload_n 0, 1, (0, 0, 0)), (18, .getfield 56, 3, (11, 6, 7))]
theorem K113_1 : zRk 113 B113_1 = true := by decide +kernel
def B113_2 : List zRow := [(24, .iconst 0, 1, (0, 0, 0)), (25, .istore_n 2, 1, (0, 0, 0))]
theorem K113_2 : zRk 113 B113_2 = true := by decide +kernel
def B113_3 : List zRow := [(5, .iload_n 1, 1, (0, 0, 0)), (6, .bipush 100, 2, (0, 0, 0)), (8, .if_icmp .le 5, 3, (0, 0, 0))]
theorem K113_3 : zRk 113 B113_3 = true := by decide +kernel
def B113_4 : List zRow := [(0, .iload_n 1, 1, (0, 0, 0)), (1, .iconst 1, 1, (0, 0, 0)), (2, .if_icmp .lt 9, 3, (0, 0, 0))]
theorem K113_4 : zRk 113 B113_4 = true := by decide +kernel
def B113_5 : List zRow := [(87, .iconst (-1), 1, (0, 0, 0))]
theorem K113_5 : zRk 113 B113_5 = true := by decide +kernel
def B113_6 : List zRow := [(44, .aload_n 0, 1, (0, 0, 0)), (45, .getfield 60, 3, (11, 7, 135)), (48, .aload_n 0, 1, (0, 0, 0)), (49, .getfield 19, 3, (11, 1, 39)), (52, .iconst 0, 1, (0, 0, 0))]
theorem K113_6 : zRk 113 B113_6 = true := by decide +kernel
def B113_7 : List zRow := [(81, .iinc 2 1, 3, (0, 0, 0)), (84, .goto (-58), 3, (0, 0, 0))]
theorem K113_7 : zRk 113 B113_7 = true := by decide +kernel
def B113_8 : List zRow := [(73, .aload_n 0, 1, (0, 0, 0)), (74, .getfield 60, 3, (11, 7, 135)), (77, .getfield 159, 3, (1, 0, 0))]
theorem K113_8 : zRk 113 B113_8 = true := by decide +kernel
def B113_9 : List zRow := [(56, .aload_n 0, 1, (0, 0, 0)), (57, .getfield 60, 3, (11, 7, 135)), (60, .getfield 208, 3, (1, 2, 0)), (63, .aload_n 0, 1, (0, 0, 0)), (64, .getfield 56, 3, (11, 6, 7)), (67, .getfield 208, 3, (1, 2, 0)), (70, .if_icmp .le 11, 3, (0, 0, 0))]
theorem K113_9 : zRk 113 B113_9 = true := by decide +kernel
def B113_10 : List zRow := [(31, .aload_n 0, 1, (0, 0, 0)), (32, .getfield 60, 3, (11, 7, 135)), (35, .getfield 159, 3, (1, 0, 0)), (38, .sipush 400, 3, (0, 0, 0)), (41, .if_icmp .ge 46, 3, (0, 0, 0))]
theorem K113_10 : zRk 113 B113_10 = true := by decide +kernel
def B113_11 : List zRow := [(26, .iload_n 2, 1, (0, 0, 0)), (27, .iload_n 1, 1, (0, 0, 0)), (28, .if_icmp .ge 59, 3, (0, 0, 0))]
theorem K113_11 : zRk 113 B113_11 = true := by decide +kernel
def F113_0 : Nat → Int → Int → zHC → Option (Int × zHC)
  | 0, _, _, _ => none
  | n + 1, v1, v2, h => if v1 ≤ v2 then some ((-1), h) else if 400 ≤ (h 64 1 0) then some ((-1), h) else (F89 1 0 0 h).bind fun r1 => if (r1 66 1 0) ≤ (r1 66 0 0) then (F113_0 n) v1 (wadd v2 1) r1 else some ((r1 64 1 0), r1)
set_option maxRecDepth 100000 in
theorem T113_0 {spec : zRn zH2} {hm : zHM} {o : Int → Int} {d : Nat} (hd : 5 ≤ d) : ∀ (n : Nat) (v1 : Int) (v2 : Int) (h : zHC) (v : (Int × zHC)), F113_0 n v1 v2 h = some v → zFin 0 (fun _ => 0) (zRu2 spec d) 113 (some (0, v.1)) (v.2, hm, o) (26, [some (21, 0), some (0, v1), some (0, v2)], [], (h, hm, o)) := by
  intro n
  induction n with
  | zero => intro v1 v2 h v e; unfold F113_0 at e; cases e
  | succ n hk0 =>
    intro v1 v2 h v e
    unfold F113_0 at e
    rcases zI_s e with ⟨q1, e⟩ | ⟨q1, e⟩
    · refine zF_blk (m := []) (d := 1) (b := B113_11) (gs := [v1 ≤ v2]) (c' := (87, [some (21, 0), some (0, v1), some (0, v2)], [], (h, hm, o))) K113_11 rfl ⟨q1, trivial⟩ ?_
      refine zF_blk (m := []) (d := 0) (b := B113_5) (gs := []) (c' := (88, [some (21, 0), some (0, v1), some (0, v2)], [(0, (-1))], (h, hm, o))) K113_5 rfl trivial ?_
      exact zF_riC (by decide +kernel) e
    · refine zF_blk (m := []) (d := 0) (b := B113_11) (gs := [¬ (v1 ≤ v2)]) (c' := (31, [some (21, 0), some (0, v1), some (0, v2)], [], (h, hm, o))) K113_11 rfl ⟨q1, trivial⟩ ?_
      rcases zI_s e with ⟨q2, e⟩ | ⟨q2, e⟩
      · refine zF_blk (m := []) (d := 1) (b := B113_10) (gs := [400 ≤ (h 64 1 0)]) (c' := (87, [some (21, 0), some (0, v1), some (0, v2)], [], (h, hm, o))) K113_10 rfl ⟨q2, trivial⟩ ?_
        refine zF_blk (m := []) (d := 0) (b := B113_5) (gs := []) (c' := (88, [some (21, 0), some (0, v1), some (0, v2)], [(0, (-1))], (h, hm, o))) K113_5 rfl trivial ?_
        exact zF_riC (by decide +kernel) e
      · refine zF_blk (m := []) (d := 0) (b := B113_10) (gs := [¬ (400 ≤ (h 64 1 0))]) (c' := (44, [some (21, 0), some (0, v1), some (0, v2)], [], (h, hm, o))) K113_10 rfl ⟨q2, trivial⟩ ?_
        obtain ⟨r1, q3, e⟩ := zB_s e
        refine zF_blk (m := []) (d := 0) (b := B113_6) (gs := []) (c' := (53, [some (21, 0), some (0, v1), some (0, v2)], [(0, 0), (19, 0), (11, 1)], (h, hm, o))) K113_6 rfl trivial ?_
        refine zF_call (k := 89) (cl := 1) (n := 3) (i := .invokevirtual 268) (args := [(11, 1), (19, 0), (0, 0)]) (rest := []) (g1 := (r1, hm, o)) (r1 := none) (by decide +kernel) rfl rfl rfl (st' := []) rfl (S89 (Nat.le_trans (by decide) hd) 1 0 0 h _ q3) ?_
        rcases zI_s e with ⟨q4, e⟩ | ⟨q4, e⟩
        · refine zF_blk (m := []) (d := 1) (b := B113_9) (gs := [(r1 66 1 0) ≤ (r1 66 0 0)]) (c' := (81, [some (21, 0), some (0, v1), some (0, v2)], [], (r1, hm, o))) K113_9 rfl ⟨q4, trivial⟩ ?_
          refine zF_blk (m := []) (d := 0) (b := B113_7) (gs := []) (c' := (26, [some (21, 0), some (0, v1), some (0, (wadd v2 1))], [], (r1, hm, o))) K113_7 rfl trivial ?_
          exact hk0 v1 (wadd v2 1) r1 _ e
        · refine zF_blk (m := []) (d := 0) (b := B113_9) (gs := [¬ ((r1 66 1 0) ≤ (r1 66 0 0))]) (c' := (73, [some (21, 0), some (0, v1), some (0, v2)], [], (r1, hm, o))) K113_9 rfl ⟨q4, trivial⟩ ?_
          refine zF_blk (m := []) (d := 0) (b := B113_8) (gs := []) (c' := (80, [some (21, 0), some (0, v1), some (0, v2)], [(0, (r1 64 1 0))], (r1, hm, o))) K113_8 rfl trivial ?_
          exact zF_riC (by decide +kernel) e
/-- EchoVale.next(I)I -/
def F113 (v1 : Int) (h : zHC) : Option (Int × zHC) := if v1 < 1 then some ((-1), h) else if v1 ≤ 100 then (F71 1 0 h).bind fun r1 => F113_0 zFu v1 0 r1 else some ((-1), h)
set_option maxRecDepth 100000 in
theorem S113 {spec : zRn zH2} {hm : zHM} {o : Int → Int} {d : Nat} (hd : 6 ≤ d) (v1 : Int) (h : zHC) (v : (Int × zHC)) (e : F113 v1 h = some v) : zRu2 spec d 113 [(21, 0), (0, v1)] (h, hm, o) (some (0, v.1)) (v.2, hm, o) := by
  refine zF_in (D := 5) (mx := 3) (L := [some (21, 0), some (0, v1), none]) (by decide +kernel) rfl rfl hd (fun d hd => ?_)
  unfold F113 at e
  rcases zI_s e with ⟨q1, e⟩ | ⟨q1, e⟩
  · refine zF_blk (m := []) (d := 1) (b := B113_4) (gs := [v1 < 1]) (c' := (11, [some (21, 0), some (0, v1), none], [], (h, hm, o))) K113_4 rfl ⟨q1, trivial⟩ ?_
    refine zF_blk (m := []) (d := 0) (b := B113_0) (gs := []) (c' := (12, [some (21, 0), some (0, v1), none], [(0, (-1))], (h, hm, o))) K113_0 rfl trivial ?_
    exact zF_riC (by decide +kernel) e
  · refine zF_blk (m := []) (d := 0) (b := B113_4) (gs := [¬ (v1 < 1)]) (c' := (5, [some (21, 0), some (0, v1), none], [], (h, hm, o))) K113_4 rfl ⟨q1, trivial⟩ ?_
    rcases zI_s e with ⟨q2, e⟩ | ⟨q2, e⟩
    · refine zF_blk (m := []) (d := 1) (b := B113_3) (gs := [v1 ≤ 100]) (c' := (13, [some (21, 0), some (0, v1), none], [], (h, hm, o))) K113_3 rfl ⟨q2, trivial⟩ ?_
      obtain ⟨r1, q3, e⟩ := zB_s e
      refine zF_blk (m := []) (d := 0) (b := B113_1) (gs := []) (c' := (21, [some (21, 0), some (0, v1), none], [(11, 0), (11, 1)], (h, hm, o))) K113_1 rfl trivial ?_
      refine zF_call (k := 71) (cl := 1) (n := 2) (i := .invokevirtual 266) (args := [(11, 1), (11, 0)]) (rest := []) (g1 := (r1, hm, o)) (r1 := none) (by decide +kernel) rfl rfl rfl (st' := []) rfl (S71 (Nat.le_trans (by decide) hd) 1 0 h _ q3) ?_
      refine zF_blk (m := []) (d := 0) (b := B113_2) (gs := []) (c' := (26, [some (21, 0), some (0, v1), some (0, 0)], [], (r1, hm, o))) K113_2 rfl trivial ?_
      exact T113_0 hd zFu v1 0 r1 _ e
    · refine zF_blk (m := []) (d := 0) (b := B113_3) (gs := [¬ (v1 ≤ 100)]) (c' := (11, [some (21, 0), some (0, v1), none], [], (h, hm, o))) K113_3 rfl ⟨q2, trivial⟩ ?_
      refine zF_blk (m := []) (d := 0) (b := B113_0) (gs := []) (c' := (12, [some (21, 0), some (0, v1), none], [(0, (-1))], (h, hm, o))) K113_0 rfl trivial ?_
      exact zF_riC (by decide +kernel) e
