/-! Functions of the methods, by wip/gen/lift.py. -/
def B138_0 : List zRow := [(0, .aload_n 0, 1, (0, 0, 0)), (1, .iload_n 1, 1, (0, 0, 0))]
theorem K138_0 : zRk 138 B138_0 = true := by decide +kernel
def B138_1 : List zRow := [(19, .iconst (-1), 1, (0, 0, 0))]
theorem K138_1 : zRk 138 B138_1 = true := by decide +kernel
def B138_2 : List zRow := [(21, .aload_n 0, 1, (0, 0, 0)), (22, .getfield 56, 3, (11, 6, 7)), (25, .iload_n 1, 1, (0, 0, 0))]
theorem K138_2 : zRk 138 B138_2 = true := by decide +kernel
def B138_3 : List zRow := [(29, .istore 4, 2, (0, 0, 0)), (31, .iconst 0, 1, (0, 0, 0)), (32, .istore 5, 2, (0, 0, 0)), (34, .iconst 0, 1, (0, 0, 0)), (35, .istore 6, 2, (0, 0, 0))]
theorem K138_3 : zRk 138 B138_3 = true := by decide +kernel
def B138_4 : List zRow := [(13, .iload_n 2, 1, (0, 0, 0)), (14, .bipush 40, 2, (0, 0, 0)), (16, .if_icmp .le 5, 3, (0, 0, 0))]
theorem K138_4 : zRk 138 B138_4 = true := by decide +kernel
def B138_5 : List zRow := [(8, .iload_n 2, 1, (0, 0, 0)), (9, .iconst 1, 1, (0, 0, 0)), (10, .if_icmp .lt 9, 3, (0, 0, 0))]
theorem K138_5 : zRk 138 B138_5 = true := by decide +kernel
def B138_6 : List zRow := [(5, .ifCond .eq 14, 3, (0, 0, 0))]
theorem K138_6 : zRk 138 B138_6 = true := by decide +kernel
def B138_7 : List zRow := [(98, .iload 5, 2, (0, 0, 0))]
theorem K138_7 : zRk 138 B138_7 = true := by decide +kernel
def B138_8 : List zRow := [(43, .aload_n 0, 1, (0, 0, 0)), (44, .getfield 60, 3, (11, 7, 135)), (47, .aload_n 0, 1, (0, 0, 0)), (48, .getfield 56, 3, (11, 6, 7))]
theorem K138_8 : zRk 138 B138_8 = true := by decide +kernel
def B138_9 : List zRow := [(54, .aload_n 0, 1, (0, 0, 0)), (55, .getfield 87, 3, (11, 11, 11)), (58, .aload_n 0, 1, (0, 0, 0)), (59, .getfield 19, 3, (11, 1, 39)), (62, .aload_n 0, 1, (0, 0, 0)), (63, .getfield 60, 3, (11, 7, 135)), (66, .bipush 40, 2, (0, 0, 0)), (68, .iload_n 3, 1, (0, 0, 0)), (69, .iload 6, 2, (0, 0, 0)), (71, .iadd, 1, (0, 0, 0))]
theorem K138_9 : zRk 138 B138_9 = true := by decide +kernel
def B138_10 : List zRow := [(75, .pop, 1, (0, 0, 0)), (76, .aload_n 0, 1, (0, 0, 0)), (77, .getfield 60, 3, (11, 7, 135)), (80, .iload_n 1, 1, (0, 0, 0))]
theorem K138_10 : zRk 138 B138_10 = true := by decide +kernel
def B138_11 : List zRow := [(89, .iinc 5 1, 3, (0, 0, 0))]
theorem K138_11 : zRk 138 B138_11 = true := by decide +kernel
def B138_12 : List zRow := [(84, .iload 4, 2, (0, 0, 0)), (86, .if_icmp .le 6, 3, (0, 0, 0))]
theorem K138_12 : zRk 138 B138_12 = true := by decide +kernel
def B138_13 : List zRow := [(37, .iload 6, 2, (0, 0, 0)), (39, .iload_n 2, 1, (0, 0, 0)), (40, .if_icmp .ge 58, 3, (0, 0, 0))]
theorem K138_13 : zRk 138 B138_13 = true := by decide +kernel
def B138_14 : List zRow := [(92, .iinc 6 1, 3, (0, 0, 0)), (95, .goto (-58), 3, (0, 0, 0))]
theorem K138_14 : zRk 138 B138_14 = true := by decide +kernel
def F138_1 (k0 : Int → Int → Int → Int → Int → Int → zHC → Option (Int × zHC)) (v1 : Int) (v2 : Int) (v3 : Int) (v4 : Int) (v5 : Int) (v6 : Int) (h : zHC) : Option (Int × zHC) := k0 v1 v2 v3 v4 v5 (wadd v6 1) h
set_option maxRecDepth 100000 in
theorem T138_1 {spec : zRn zH2} {hm : zHM} {o : Int → Int} {d : Nat} (hd : 6 ≤ d) (k0 : Int → Int → Int → Int → Int → Int → zHC → Option (Int × zHC)) (hk0 : ∀ (v1 : Int) (v2 : Int) (v3 : Int) (v4 : Int) (v5 : Int) (v6 : Int) (h : zHC) (v : (Int × zHC)), k0 v1 v2 v3 v4 v5 v6 h = some v → zFin 0 (fun _ => 0) (zRu2 spec d) 138 (some (0, v.1)) (v.2, hm, o) (37, [some (21, 0), some (0, v1), some (0, v2), some (0, v3), some (0, v4), some (0, v5), some (0, v6)], [], (h, hm, o))) (v1 : Int) (v2 : Int) (v3 : Int) (v4 : Int) (v5 : Int) (v6 : Int) (h : zHC) (v : (Int × zHC)) (e : F138_1 k0 v1 v2 v3 v4 v5 v6 h = some v) : zFin 0 (fun _ => 0) (zRu2 spec d) 138 (some (0, v.1)) (v.2, hm, o) (92, [some (21, 0), some (0, v1), some (0, v2), some (0, v3), some (0, v4), some (0, v5), some (0, v6)], [], (h, hm, o)) := by
  unfold F138_1 at e
  refine zF_blk (m := []) (d := 0) (b := B138_14) (gs := []) (c' := (37, [some (21, 0), some (0, v1), some (0, v2), some (0, v3), some (0, v4), some (0, v5), some (0, (wadd v6 1))], [], (h, hm, o))) K138_14 rfl trivial ?_
  exact hk0 v1 v2 v3 v4 v5 (wadd v6 1) h _ e
def F138_0 : Nat → Int → Int → Int → Int → Int → Int → zHC → Option (Int × zHC)
  | 0, _, _, _, _, _, _, _ => none
  | n + 1, v1, v2, v3, v4, v5, v6, h => if v2 ≤ v6 then some (v5, h) else (F71 1 0 h).bind fun r1 => (F134 0 1 40 (wadd v3 v6) r1).bind fun r2 => (F101 1 v1 r2.2).bind fun r3 => if r3 ≤ v4 then F138_1 (F138_0 n) v1 v2 v3 v4 v5 v6 r2.2 else F138_1 (F138_0 n) v1 v2 v3 v4 (wadd v5 1) v6 r2.2
set_option maxRecDepth 100000 in
theorem T138_0 {spec : zRn zH2} {hm : zHM} {o : Int → Int} {d : Nat} (hd : 6 ≤ d) : ∀ (n : Nat) (v1 : Int) (v2 : Int) (v3 : Int) (v4 : Int) (v5 : Int) (v6 : Int) (h : zHC) (v : (Int × zHC)), F138_0 n v1 v2 v3 v4 v5 v6 h = some v → zFin 0 (fun _ => 0) (zRu2 spec d) 138 (some (0, v.1)) (v.2, hm, o) (37, [some (21, 0), some (0, v1), some (0, v2), some (0, v3), some (0, v4), some (0, v5), some (0, v6)], [], (h, hm, o)) := by
  intro n
  induction n with
  | zero => intro v1 v2 v3 v4 v5 v6 h v e; unfold F138_0 at e; cases e
  | succ n hk0 =>
    intro v1 v2 v3 v4 v5 v6 h v e
    unfold F138_0 at e
    rcases zI_s e with ⟨q1, e⟩ | ⟨q1, e⟩
    · refine zF_blk (m := []) (d := 1) (b := B138_13) (gs := [v2 ≤ v6]) (c' := (98, [some (21, 0), some (0, v1), some (0, v2), some (0, v3), some (0, v4), some (0, v5), some (0, v6)], [], (h, hm, o))) K138_13 rfl ⟨q1, trivial⟩ ?_
      refine zF_blk (m := []) (d := 0) (b := B138_7) (gs := []) (c' := (100, [some (21, 0), some (0, v1), some (0, v2), some (0, v3), some (0, v4), some (0, v5), some (0, v6)], [(0, v5)], (h, hm, o))) K138_7 rfl trivial ?_
      exact zF_riC (by decide +kernel) e
    · refine zF_blk (m := []) (d := 0) (b := B138_13) (gs := [¬ (v2 ≤ v6)]) (c' := (43, [some (21, 0), some (0, v1), some (0, v2), some (0, v3), some (0, v4), some (0, v5), some (0, v6)], [], (h, hm, o))) K138_13 rfl ⟨q1, trivial⟩ ?_
      obtain ⟨r1, q2, e⟩ := zB_s e
      refine zF_blk (m := []) (d := 0) (b := B138_8) (gs := []) (c' := (51, [some (21, 0), some (0, v1), some (0, v2), some (0, v3), some (0, v4), some (0, v5), some (0, v6)], [(11, 0), (11, 1)], (h, hm, o))) K138_8 rfl trivial ?_
      refine zF_call (k := 71) (cl := 1) (n := 2) (i := .invokevirtual 266) (args := [(11, 1), (11, 0)]) (rest := []) (g1 := (r1, hm, o)) (r1 := none) (by decide +kernel) rfl rfl rfl (st' := []) rfl (S71 (Nat.le_trans (by decide) hd) 1 0 h _ q2) ?_
      obtain ⟨r2, q3, e⟩ := zB_s e
      refine zF_blk (m := []) (d := 0) (b := B138_9) (gs := []) (c' := (72, [some (21, 0), some (0, v1), some (0, v2), some (0, v3), some (0, v4), some (0, v5), some (0, v6)], [(0, (wadd v3 v6)), (0, 40), (11, 1), (19, 0), (12, 0)], (r1, hm, o))) K138_9 rfl trivial ?_
      refine zF_call (k := 134) (cl := 2) (n := 5) (i := .invokevirtual 314) (args := [(12, 0), (19, 0), (11, 1), (0, 40), (0, (wadd v3 v6))]) (rest := []) (g1 := (r2.2, hm, o)) (r1 := some (0, r2.1)) (by decide +kernel) rfl rfl rfl (st' := [(0, r2.1)]) rfl (S134 (Nat.le_trans (by decide) hd) 0 1 40 (wadd v3 v6) r1 _ q3) ?_
      obtain ⟨r3, q4, e⟩ := zB_s e
      refine zF_blk (m := []) (d := 0) (b := B138_10) (gs := []) (c' := (81, [some (21, 0), some (0, v1), some (0, v2), some (0, v3), some (0, v4), some (0, v5), some (0, v6)], [(0, v1), (11, 1)], (r2.2, hm, o))) K138_10 rfl trivial ?_
      refine zF_call (k := 101) (cl := 1) (n := 2) (i := .invokevirtual 179) (args := [(11, 1), (0, v1)]) (rest := []) (g1 := (r2.2, hm, o)) (r1 := some (0, r3)) (by decide +kernel) rfl rfl rfl (st' := [(0, r3)]) rfl (S101 (Nat.le_trans (by decide) hd) 1 v1 r2.2 _ q4) ?_
      rcases zI_s e with ⟨q5, e⟩ | ⟨q5, e⟩
      · refine zF_blk (m := []) (d := 1) (b := B138_12) (gs := [r3 ≤ v4]) (c' := (92, [some (21, 0), some (0, v1), some (0, v2), some (0, v3), some (0, v4), some (0, v5), some (0, v6)], [], (r2.2, hm, o))) K138_12 rfl ⟨q5, trivial⟩ ?_
        exact T138_1 hd (F138_0 n) hk0 v1 v2 v3 v4 v5 v6 r2.2 _ e
      · refine zF_blk (m := []) (d := 0) (b := B138_12) (gs := [¬ (r3 ≤ v4)]) (c' := (89, [some (21, 0), some (0, v1), some (0, v2), some (0, v3), some (0, v4), some (0, v5), some (0, v6)], [], (r2.2, hm, o))) K138_12 rfl ⟨q5, trivial⟩ ?_
        refine zF_blk (m := []) (d := 0) (b := B138_11) (gs := []) (c' := (92, [some (21, 0), some (0, v1), some (0, v2), some (0, v3), some (0, v4), some (0, (wadd v5 1)), some (0, v6)], [], (r2.2, hm, o))) K138_11 rfl trivial ?_
        exact T138_1 hd (F138_0 n) hk0 v1 v2 v3 v4 (wadd v5 1) v6 r2.2 _ e
/-- EchoVale.odds(III)I -/
def F138 (v1 : Int) (v2 : Int) (v3 : Int) (h : zHC) : Option (Int × zHC) := (F61 v1 h).bind fun r1 => if r1 = 0 then some ((-1), h) else if v2 < 1 then some ((-1), h) else if v2 ≤ 40 then (F101 0 v1 h).bind fun r2 => F138_0 zFu v1 v2 v3 r2 0 0 h else some ((-1), h)
set_option maxRecDepth 100000 in
theorem S138 {spec : zRn zH2} {hm : zHM} {o : Int → Int} {d : Nat} (hd : 7 ≤ d) (v1 : Int) (v2 : Int) (v3 : Int) (h : zHC) (v : (Int × zHC)) (e : F138 v1 v2 v3 h = some v) : zRu2 spec d 138 [(21, 0), (0, v1), (0, v2), (0, v3)] (h, hm, o) (some (0, v.1)) (v.2, hm, o) := by
  refine zF_in (D := 6) (mx := 7) (L := [some (21, 0), some (0, v1), some (0, v2), some (0, v3), none, none, none]) (by decide +kernel) rfl rfl hd (fun d hd => ?_)
  unfold F138 at e
  obtain ⟨r1, q1, e⟩ := zB_s e
  refine zF_blk (m := []) (d := 0) (b := B138_0) (gs := []) (c' := (2, [some (21, 0), some (0, v1), some (0, v2), some (0, v3), none, none, none], [(0, v1), (21, 0)], (h, hm, o))) K138_0 rfl trivial ?_
  refine zF_call (k := 61) (cl := 11) (n := 2) (i := .invokevirtual 172) (args := [(21, 0), (0, v1)]) (rest := []) (g1 := (h, hm, o)) (r1 := some (0, r1)) (by decide +kernel) rfl rfl rfl (st' := [(0, r1)]) rfl (S61 (Nat.le_trans (by decide) hd) v1 h _ q1) ?_
  rcases zI_s e with ⟨q2, e⟩ | ⟨q2, e⟩
  · refine zF_blk (m := []) (d := 1) (b := B138_6) (gs := [r1 = 0]) (c' := (19, [some (21, 0), some (0, v1), some (0, v2), some (0, v3), none, none, none], [], (h, hm, o))) K138_6 rfl ⟨q2, trivial⟩ ?_
    refine zF_blk (m := []) (d := 0) (b := B138_1) (gs := []) (c' := (20, [some (21, 0), some (0, v1), some (0, v2), some (0, v3), none, none, none], [(0, (-1))], (h, hm, o))) K138_1 rfl trivial ?_
    exact zF_riC (by decide +kernel) e
  · refine zF_blk (m := []) (d := 0) (b := B138_6) (gs := [¬ (r1 = 0)]) (c' := (8, [some (21, 0), some (0, v1), some (0, v2), some (0, v3), none, none, none], [], (h, hm, o))) K138_6 rfl ⟨q2, trivial⟩ ?_
    rcases zI_s e with ⟨q3, e⟩ | ⟨q3, e⟩
    · refine zF_blk (m := []) (d := 1) (b := B138_5) (gs := [v2 < 1]) (c' := (19, [some (21, 0), some (0, v1), some (0, v2), some (0, v3), none, none, none], [], (h, hm, o))) K138_5 rfl ⟨q3, trivial⟩ ?_
      refine zF_blk (m := []) (d := 0) (b := B138_1) (gs := []) (c' := (20, [some (21, 0), some (0, v1), some (0, v2), some (0, v3), none, none, none], [(0, (-1))], (h, hm, o))) K138_1 rfl trivial ?_
      exact zF_riC (by decide +kernel) e
    · refine zF_blk (m := []) (d := 0) (b := B138_5) (gs := [¬ (v2 < 1)]) (c' := (13, [some (21, 0), some (0, v1), some (0, v2), some (0, v3), none, none, none], [], (h, hm, o))) K138_5 rfl ⟨q3, trivial⟩ ?_
      rcases zI_s e with ⟨q4, e⟩ | ⟨q4, e⟩
      · refine zF_blk (m := []) (d := 1) (b := B138_4) (gs := [v2 ≤ 40]) (c' := (21, [some (21, 0), some (0, v1), some (0, v2), some (0, v3), none, none, none], [], (h, hm, o))) K138_4 rfl ⟨q4, trivial⟩ ?_
        obtain ⟨r2, q5, e⟩ := zB_s e
        refine zF_blk (m := []) (d := 0) (b := B138_2) (gs := []) (c' := (26, [some (21, 0), some (0, v1), some (0, v2), some (0, v3), none, none, none], [(0, v1), (11, 0)], (h, hm, o))) K138_2 rfl trivial ?_
        refine zF_call (k := 101) (cl := 1) (n := 2) (i := .invokevirtual 179) (args := [(11, 0), (0, v1)]) (rest := []) (g1 := (h, hm, o)) (r1 := some (0, r2)) (by decide +kernel) rfl rfl rfl (st' := [(0, r2)]) rfl (S101 (Nat.le_trans (by decide) hd) 0 v1 h _ q5) ?_
        refine zF_blk (m := []) (d := 0) (b := B138_3) (gs := []) (c' := (37, [some (21, 0), some (0, v1), some (0, v2), some (0, v3), some (0, r2), some (0, 0), some (0, 0)], [], (h, hm, o))) K138_3 rfl trivial ?_
        exact T138_0 hd zFu v1 v2 v3 r2 0 0 h _ e
      · refine zF_blk (m := []) (d := 0) (b := B138_4) (gs := [¬ (v2 ≤ 40)]) (c' := (19, [some (21, 0), some (0, v1), some (0, v2), some (0, v3), none, none, none], [], (h, hm, o))) K138_4 rfl ⟨q4, trivial⟩ ?_
        refine zF_blk (m := []) (d := 0) (b := B138_1) (gs := []) (c' := (20, [some (21, 0), some (0, v1), some (0, v2), some (0, v3), none, none, none], [(0, (-1))], (h, hm, o))) K138_1 rfl trivial ?_
        exact zF_riC (by decide +kernel) e
def B274_0 : List zRow := [(0, .aload_n 0, 1, (0, 0, 0)), (1, .iconst 0, 1, (0, 0, 0)), (2, .putfield 81, 3, (12, 0, 0)), (5, .aload_n 0, 1, (0, 0, 0)), (6, .iload_n 1, 1, (0, 0, 0))]
theorem K274_0 : zRk 274 B274_0 = true := by decide +kernel
def B274_1 : List zRow := [(23, .iconst (-1), 1, (0, 0, 0))]
theorem K274_1 : zRk 274 B274_1 = true := by decide +kernel
def B274_2 : List zRow := [(13, .iload_n 2, 1, (0, 0, 0)), (14, .iconst 1, 1, (0, 0, 0)), (15, .bipush 40, 2, (0, 0, 0))]
theorem K274_2 : zRk 274 B274_2 = true := by decide +kernel
def B274_3 : List zRow := [(25, .aload_n 0, 1, (0, 0, 0)), (26, .iload_n 1, 1, (0, 0, 0))]
theorem K274_3 : zRk 274 B274_3 = true := by decide +kernel
def B274_4 : List zRow := [(30, .istore 4, 2, (0, 0, 0)), (32, .iconst 0, 1, (0, 0, 0)), (33, .istore 5, 2, (0, 0, 0)), (35, .iconst 0, 1, (0, 0, 0)), (36, .istore 6, 2, (0, 0, 0))]
theorem K274_4 : zRk 274 B274_4 = true := by decide +kernel
def B274_5 : List zRow := [(20, .ifCond .ne 5, 3, (0, 0, 0))]
theorem K274_5 : zRk 274 B274_5 = true := by decide +kernel
def B274_6 : List zRow := [(10, .ifCond .eq 13, 3, (0, 0, 0))]
theorem K274_6 : zRk 274 B274_6 = true := by decide +kernel
def B274_7 : List zRow := [(82, .iload 5, 2, (0, 0, 0))]
theorem K274_7 : zRk 274 B274_7 = true := by decide +kernel
def B274_8 : List zRow := [(44, .aload_n 0, 1, (0, 0, 0))]
theorem K274_8 : zRk 274 B274_8 = true := by decide +kernel
def B274_9 : List zRow := [(48, .aload_n 0, 1, (0, 0, 0)), (49, .bipush 40, 2, (0, 0, 0)), (51, .iload_n 3, 1, (0, 0, 0)), (52, .iload 6, 2, (0, 0, 0)), (54, .iadd, 1, (0, 0, 0))]
theorem K274_9 : zRk 274 B274_9 = true := by decide +kernel
def B274_10 : List zRow := [(58, .pop, 1, (0, 0, 0)), (59, .aload_n 0, 1, (0, 0, 0)), (60, .iload_n 1, 1, (0, 0, 0))]
theorem K274_10 : zRk 274 B274_10 = true := by decide +kernel
def B274_11 : List zRow := [(69, .iinc 5 1, 3, (0, 0, 0))]
theorem K274_11 : zRk 274 B274_11 = true := by decide +kernel
def B274_12 : List zRow := [(64, .iload 4, 2, (0, 0, 0)), (66, .if_icmp .le 6, 3, (0, 0, 0))]
theorem K274_12 : zRk 274 B274_12 = true := by decide +kernel
def B274_13 : List zRow := [(38, .iload 6, 2, (0, 0, 0)), (40, .iload_n 2, 1, (0, 0, 0)), (41, .if_icmp .ge 41, 3, (0, 0, 0))]
theorem K274_13 : zRk 274 B274_13 = true := by decide +kernel
def B274_14 : List zRow := [(72, .aload_n 0, 1, (0, 0, 0))]
theorem K274_14 : zRk 274 B274_14 = true := by decide +kernel
def B274_15 : List zRow := [(76, .iinc 6 1, 3, (0, 0, 0)), (79, .goto (-41), 3, (0, 0, 0))]
theorem K274_15 : zRk 274 B274_15 = true := by decide +kernel
def F274_1 (k0 : Int → Int → Int → Int → Int → Int → zHM → Option (Int × zHM)) (v1 : Int) (v2 : Int) (v3 : Int) (v4 : Int) (v5 : Int) (v6 : Int) (h : zHM) : Option (Int × zHM) := (F245 h).bind fun r1 => k0 v1 v2 v3 v4 v5 (wadd v6 1) r1
set_option maxRecDepth 100000 in
theorem T274_1 {spec : zRn zH2} {hc : zHC} {o : Int → Int} {d : Nat} (hd : 6 ≤ d) (k0 : Int → Int → Int → Int → Int → Int → zHM → Option (Int × zHM)) (hk0 : ∀ (v1 : Int) (v2 : Int) (v3 : Int) (v4 : Int) (v5 : Int) (v6 : Int) (h : zHM) (v : (Int × zHM)), k0 v1 v2 v3 v4 v5 v6 h = some v → zFin 0 (fun _ => 0) (zRu2 spec d) 274 (some (0, v.1)) (hc, v.2, o) (38, [some (22, 0), some (0, v1), some (0, v2), some (0, v3), some (0, v4), some (0, v5), some (0, v6)], [], (hc, h, o))) (v1 : Int) (v2 : Int) (v3 : Int) (v4 : Int) (v5 : Int) (v6 : Int) (h : zHM) (v : (Int × zHM)) (e : F274_1 k0 v1 v2 v3 v4 v5 v6 h = some v) : zFin 0 (fun _ => 0) (zRu2 spec d) 274 (some (0, v.1)) (hc, v.2, o) (72, [some (22, 0), some (0, v1), some (0, v2), some (0, v3), some (0, v4), some (0, v5), some (0, v6)], [], (hc, h, o)) := by
  unfold F274_1 at e
  obtain ⟨r1, q1, e⟩ := zB_s e
  refine zF_blk (m := []) (d := 0) (b := B274_14) (gs := []) (c' := (73, [some (22, 0), some (0, v1), some (0, v2), some (0, v3), some (0, v4), some (0, v5), some (0, v6)], [(22, 0)], (hc, h, o))) K274_14 rfl trivial ?_
  refine zF_call (k := 245) (cl := 12) (n := 1) (i := .invokevirtual 320) (args := [(22, 0)]) (rest := []) (g1 := (hc, r1, o)) (r1 := none) (by decide +kernel) rfl rfl rfl (st' := []) rfl (S245 (Nat.le_trans (by decide) hd)  h _ q1) ?_
  refine zF_blk (m := []) (d := 0) (b := B274_15) (gs := []) (c' := (38, [some (22, 0), some (0, v1), some (0, v2), some (0, v3), some (0, v4), some (0, v5), some (0, (wadd v6 1))], [], (hc, r1, o))) K274_15 rfl trivial ?_
  exact hk0 v1 v2 v3 v4 v5 (wadd v6 1) r1 _ e
def F274_0 : Nat → Int → Int → Int → Int → Int → Int → zHM → Option (Int × zHM)
  | 0, _, _, _, _, _, _, _ => none
  | n + 1, v1, v2, v3, v4, v5, v6, h => if v2 ≤ v6 then some (v5, h) else (F244 h).bind fun r1 => (F271 40 (wadd v3 v6) r1).bind fun r2 => (F211 v1 r2.2).bind fun r3 => if r3 ≤ v4 then F274_1 (F274_0 n) v1 v2 v3 v4 v5 v6 r2.2 else F274_1 (F274_0 n) v1 v2 v3 v4 (wadd v5 1) v6 r2.2
set_option maxRecDepth 100000 in
theorem T274_0 {spec : zRn zH2} {hc : zHC} {o : Int → Int} {d : Nat} (hd : 6 ≤ d) : ∀ (n : Nat) (v1 : Int) (v2 : Int) (v3 : Int) (v4 : Int) (v5 : Int) (v6 : Int) (h : zHM) (v : (Int × zHM)), F274_0 n v1 v2 v3 v4 v5 v6 h = some v → zFin 0 (fun _ => 0) (zRu2 spec d) 274 (some (0, v.1)) (hc, v.2, o) (38, [some (22, 0), some (0, v1), some (0, v2), some (0, v3), some (0, v4), some (0, v5), some (0, v6)], [], (hc, h, o)) := by
  intro n
  induction n with
  | zero => intro v1 v2 v3 v4 v5 v6 h v e; unfold F274_0 at e; cases e
  | succ n hk0 =>
    intro v1 v2 v3 v4 v5 v6 h v e
    unfold F274_0 at e
    rcases zI_s e with ⟨q1, e⟩ | ⟨q1, e⟩
    · refine zF_blk (m := []) (d := 1) (b := B274_13) (gs := [v2 ≤ v6]) (c' := (82, [some (22, 0), some (0, v1), some (0, v2), some (0, v3), some (0, v4), some (0, v5), some (0, v6)], [], (hc, h, o))) K274_13 rfl ⟨q1, trivial⟩ ?_
      refine zF_blk (m := []) (d := 0) (b := B274_7) (gs := []) (c' := (84, [some (22, 0), some (0, v1), some (0, v2), some (0, v3), some (0, v4), some (0, v5), some (0, v6)], [(0, v5)], (hc, h, o))) K274_7 rfl trivial ?_
      exact zF_riM (by decide +kernel) e
    · refine zF_blk (m := []) (d := 0) (b := B274_13) (gs := [¬ (v2 ≤ v6)]) (c' := (44, [some (22, 0), some (0, v1), some (0, v2), some (0, v3), some (0, v4), some (0, v5), some (0, v6)], [], (hc, h, o))) K274_13 rfl ⟨q1, trivial⟩ ?_
      obtain ⟨r1, q2, e⟩ := zB_s e
      refine zF_blk (m := []) (d := 0) (b := B274_8) (gs := []) (c' := (45, [some (22, 0), some (0, v1), some (0, v2), some (0, v3), some (0, v4), some (0, v5), some (0, v6)], [(22, 0)], (hc, h, o))) K274_8 rfl trivial ?_
      refine zF_call (k := 244) (cl := 12) (n := 1) (i := .invokevirtual 317) (args := [(22, 0)]) (rest := []) (g1 := (hc, r1, o)) (r1 := none) (by decide +kernel) rfl rfl rfl (st' := []) rfl (S244 (Nat.le_trans (by decide) hd)  h _ q2) ?_
      obtain ⟨r2, q3, e⟩ := zB_s e
      refine zF_blk (m := []) (d := 0) (b := B274_9) (gs := []) (c' := (55, [some (22, 0), some (0, v1), some (0, v2), some (0, v3), some (0, v4), some (0, v5), some (0, v6)], [(0, (wadd v3 v6)), (0, 40), (22, 0)], (hc, r1, o))) K274_9 rfl trivial ?_
      refine zF_call (k := 271) (cl := 12) (n := 3) (i := .invokevirtual 382) (args := [(22, 0), (0, 40), (0, (wadd v3 v6))]) (rest := []) (g1 := (hc, r2.2, o)) (r1 := some (0, r2.1)) (by decide +kernel) rfl rfl rfl (st' := [(0, r2.1)]) rfl (S271 (Nat.le_trans (by decide) hd) 40 (wadd v3 v6) r1 _ q3) ?_
      obtain ⟨r3, q4, e⟩ := zB_s e
      refine zF_blk (m := []) (d := 0) (b := B274_10) (gs := []) (c' := (61, [some (22, 0), some (0, v1), some (0, v2), some (0, v3), some (0, v4), some (0, v5), some (0, v6)], [(0, v1), (22, 0)], (hc, r2.2, o))) K274_10 rfl trivial ?_
      refine zF_call (k := 211) (cl := 12) (n := 2) (i := .invokevirtual 263) (args := [(22, 0), (0, v1)]) (rest := []) (g1 := (hc, r2.2, o)) (r1 := some (0, r3)) (by decide +kernel) rfl rfl rfl (st' := [(0, r3)]) rfl (S211 (Nat.le_trans (by decide) hd) v1 r2.2 _ q4) ?_
      rcases zI_s e with ⟨q5, e⟩ | ⟨q5, e⟩
      · refine zF_blk (m := []) (d := 1) (b := B274_12) (gs := [r3 ≤ v4]) (c' := (72, [some (22, 0), some (0, v1), some (0, v2), some (0, v3), some (0, v4), some (0, v5), some (0, v6)], [], (hc, r2.2, o))) K274_12 rfl ⟨q5, trivial⟩ ?_
        exact T274_1 hd (F274_0 n) hk0 v1 v2 v3 v4 v5 v6 r2.2 _ e
      · refine zF_blk (m := []) (d := 0) (b := B274_12) (gs := [¬ (r3 ≤ v4)]) (c' := (69, [some (22, 0), some (0, v1), some (0, v2), some (0, v3), some (0, v4), some (0, v5), some (0, v6)], [], (hc, r2.2, o))) K274_12 rfl ⟨q5, trivial⟩ ?_
        refine zF_blk (m := []) (d := 0) (b := B274_11) (gs := []) (c' := (72, [some (22, 0), some (0, v1), some (0, v2), some (0, v3), some (0, v4), some (0, (wadd v5 1)), some (0, v6)], [], (hc, r2.2, o))) K274_11 rfl trivial ?_
        exact T274_1 hd (F274_0 n) hk0 v1 v2 v3 v4 (wadd v5 1) v6 r2.2 _ e
/-- EchoValeModel.odds(III)I -/
def F274 (v1 : Int) (v2 : Int) (v3 : Int) (h : zHM) : Option (Int × zHM) := (F210 v1 (mset h 0 0 0)).bind fun r1 => if r1 = 0 then some ((-1), (mset h 0 0 0)) else (F188 v2 1 40).bind fun r2 => if ¬ r2 = 0 then (F211 v1 (mset h 0 0 0)).bind fun r3 => F274_0 zFu v1 v2 v3 r3 0 0 (mset h 0 0 0) else some ((-1), (mset h 0 0 0))
set_option maxRecDepth 100000 in
theorem S274 {spec : zRn zH2} {hc : zHC} {o : Int → Int} {d : Nat} (hd : 7 ≤ d) (v1 : Int) (v2 : Int) (v3 : Int) (h : zHM) (v : (Int × zHM)) (e : F274 v1 v2 v3 h = some v) : zRu2 spec d 274 [(22, 0), (0, v1), (0, v2), (0, v3)] (hc, h, o) (some (0, v.1)) (hc, v.2, o) := by
  refine zF_in (D := 6) (mx := 7) (L := [some (22, 0), some (0, v1), some (0, v2), some (0, v3), none, none, none]) (by decide +kernel) rfl rfl hd (fun d hd => ?_)
  unfold F274 at e
  obtain ⟨r1, q1, e⟩ := zB_s e
  refine zF_blk (m := []) (d := 0) (b := B274_0) (gs := []) (c' := (7, [some (22, 0), some (0, v1), some (0, v2), some (0, v3), none, none, none], [(0, v1), (22, 0)], (hc, (mset h 0 0 0), o))) K274_0 rfl trivial ?_
  refine zF_call (k := 210) (cl := 12) (n := 2) (i := .invokevirtual 260) (args := [(22, 0), (0, v1)]) (rest := []) (g1 := (hc, (mset h 0 0 0), o)) (r1 := some (0, r1)) (by decide +kernel) rfl rfl rfl (st' := [(0, r1)]) rfl (S210 (Nat.le_trans (by decide) hd) v1 (mset h 0 0 0) _ q1) ?_
  rcases zI_s e with ⟨q2, e⟩ | ⟨q2, e⟩
  · refine zF_blk (m := []) (d := 1) (b := B274_6) (gs := [r1 = 0]) (c' := (23, [some (22, 0), some (0, v1), some (0, v2), some (0, v3), none, none, none], [], (hc, (mset h 0 0 0), o))) K274_6 rfl ⟨q2, trivial⟩ ?_
    refine zF_blk (m := []) (d := 0) (b := B274_1) (gs := []) (c' := (24, [some (22, 0), some (0, v1), some (0, v2), some (0, v3), none, none, none], [(0, (-1))], (hc, (mset h 0 0 0), o))) K274_1 rfl trivial ?_
    exact zF_riM (by decide +kernel) e
  · refine zF_blk (m := []) (d := 0) (b := B274_6) (gs := [¬ (r1 = 0)]) (c' := (13, [some (22, 0), some (0, v1), some (0, v2), some (0, v3), none, none, none], [], (hc, (mset h 0 0 0), o))) K274_6 rfl ⟨q2, trivial⟩ ?_
    obtain ⟨r2, q3, e⟩ := zB_s e
    refine zF_blk (m := []) (d := 0) (b := B274_2) (gs := []) (c' := (17, [some (22, 0), some (0, v1), some (0, v2), some (0, v3), none, none, none], [(0, 40), (0, 1), (0, v2)], (hc, (mset h 0 0 0), o))) K274_2 rfl trivial ?_
    refine zF_call (k := 188) (cl := 12) (n := 3) (i := .invokestatic 151) (args := [(0, v2), (0, 1), (0, 40)]) (rest := []) (g1 := (hc, (mset h 0 0 0), o)) (r1 := some (0, r2)) (by decide +kernel) rfl rfl rfl (st' := [(0, r2)]) rfl (S188 (Nat.le_trans (by decide) hd) v2 1 40 (mset h 0 0 0) _ q3) ?_
    rcases zI_s e with ⟨q4, e⟩ | ⟨q4, e⟩
    · refine zF_blk (m := []) (d := 1) (b := B274_5) (gs := [¬ r2 = 0]) (c' := (25, [some (22, 0), some (0, v1), some (0, v2), some (0, v3), none, none, none], [], (hc, (mset h 0 0 0), o))) K274_5 rfl ⟨q4, trivial⟩ ?_
      obtain ⟨r3, q5, e⟩ := zB_s e
      refine zF_blk (m := []) (d := 0) (b := B274_3) (gs := []) (c' := (27, [some (22, 0), some (0, v1), some (0, v2), some (0, v3), none, none, none], [(0, v1), (22, 0)], (hc, (mset h 0 0 0), o))) K274_3 rfl trivial ?_
      refine zF_call (k := 211) (cl := 12) (n := 2) (i := .invokevirtual 263) (args := [(22, 0), (0, v1)]) (rest := []) (g1 := (hc, (mset h 0 0 0), o)) (r1 := some (0, r3)) (by decide +kernel) rfl rfl rfl (st' := [(0, r3)]) rfl (S211 (Nat.le_trans (by decide) hd) v1 (mset h 0 0 0) _ q5) ?_
      refine zF_blk (m := []) (d := 0) (b := B274_4) (gs := []) (c' := (38, [some (22, 0), some (0, v1), some (0, v2), some (0, v3), some (0, r3), some (0, 0), some (0, 0)], [], (hc, (mset h 0 0 0), o))) K274_4 rfl trivial ?_
      exact T274_0 hd zFu v1 v2 v3 r3 0 0 (mset h 0 0 0) _ e
    · refine zF_blk (m := []) (d := 0) (b := B274_5) (gs := [¬ (¬ r2 = 0)]) (c' := (23, [some (22, 0), some (0, v1), some (0, v2), some (0, v3), none, none, none], [], (hc, (mset h 0 0 0), o))) K274_5 rfl ⟨q4, trivial⟩ ?_
      refine zF_blk (m := []) (d := 0) (b := B274_1) (gs := []) (c' := (24, [some (22, 0), some (0, v1), some (0, v2), some (0, v3), none, none, none], [(0, (-1))], (hc, (mset h 0 0 0), o))) K274_1 rfl trivial ?_
      exact zF_riM (by decide +kernel) e
def B139_0 : List zRow := [(9, .iconst (-1), 1, (0, 0, 0))]
theorem K139_0 : zRk 139 B139_0 = true := by decide +kernel
def B139_1 : List zRow := [(20, .iconst 1, 1, (0, 0, 0))]
theorem K139_1 : zRk 139 B139_1 = true := by decide +kernel
def B139_2 : List zRow := [(16, .iconst (-1), 1, (0, 0, 0)), (17, .goto 4, 3, (0, 0, 0))]
theorem K139_2 : zRk 139 B139_2 = true := by decide +kernel
def B139_3 : List zRow := [(11, .iload_n 1, 1, (0, 0, 0)), (12, .iconst 1, 1, (0, 0, 0)), (13, .if_icmp .ne 7, 3, (0, 0, 0))]
theorem K139_3 : zRk 139 B139_3 = true := by decide +kernel
def B139_4 : List zRow := [(4, .iload_n 1, 1, (0, 0, 0)), (5, .iconst 1, 1, (0, 0, 0)), (6, .if_icmp .le 5, 3, (0, 0, 0))]
theorem K139_4 : zRk 139 B139_4 = true := by decide +kernel
def B139_5 : List zRow := [(0, .iload_n 1, 1, (0, 0, 0)), (1, .ifCond .lt 8, 3, (0, 0, 0))]
theorem K139_5 : zRk 139 B139_5 = true := by decide +kernel
def B139_6 : List zRow := [(21, .istore_n 2, 1, (0, 0, 0)), (22, .iconst (-1), 1, (0, 0, 0)), (23, .istore_n 3, 1, (0, 0, 0)), (24, .iconst 0, 1, (0, 0, 0)), (25, .istore 4, 2, (0, 0, 0)), (27, .iconst 0, 1, (0, 0, 0)), (28, .istore 5, 2, (0, 0, 0))]
theorem K139_6 : zRk 139 B139_6 = true := by decide +kernel
def B139_7 : List zRow := [(80, .iload_n 3, 1, (0, 0, 0))]
theorem K139_7 : zRk 139 B139_7 = true := by decide +kernel
def B139_8 : List zRow := [(42, .iload_n 2, 1, (0, 0, 0)), (43, .aload_n 0, 1, (0, 0, 0)), (44, .getfield 56, 3, (11, 6, 7)), (47, .iload 5, 2, (0, 0, 0))]
theorem K139_8 : zRk 139 B139_8 = true := by decide +kernel
def B139_9 : List zRow := [(60, .iload 6, 2, (0, 0, 0)), (62, .iload 4, 2, (0, 0, 0)), (64, .if_icmp .ge 10, 3, (0, 0, 0))]
theorem K139_9 : zRk 139 B139_9 = true := by decide +kernel
def B139_10 : List zRow := [(52, .imul, 1, (0, 0, 0)), (53, .istore 6, 2, (0, 0, 0)), (55, .iload_n 3, 1, (0, 0, 0)), (56, .iconst (-1), 1, (0, 0, 0)), (57, .if_icmp .eq 10, 3, (0, 0, 0))]
theorem K139_10 : zRk 139 B139_10 = true := by decide +kernel
def B139_11 : List zRow := [(30, .iload 5, 2, (0, 0, 0)), (32, .aload_n 0, 1, (0, 0, 0)), (33, .getfield 19, 3, (11, 1, 39)), (36, .getfield 311, 3, (9, 3, 0)), (39, .if_icmp .ge 41, 3, (0, 0, 0))]
theorem K139_11 : zRk 139 B139_11 = true := by decide +kernel
def B139_12 : List zRow := [(74, .iinc 5 1, 3, (0, 0, 0)), (77, .goto (-47), 3, (0, 0, 0))]
theorem K139_12 : zRk 139 B139_12 = true := by decide +kernel
def B139_13 : List zRow := [(67, .iload 6, 2, (0, 0, 0)), (69, .istore 4, 2, (0, 0, 0)), (71, .iload 5, 2, (0, 0, 0)), (73, .istore_n 3, 1, (0, 0, 0))]
theorem K139_13 : zRk 139 B139_13 = true := by decide +kernel
def F139_3 (k0 : Int → Int → Int → Int → Option Int) (h : zHC) (v2 : Int) (v3 : Int) (v4 : Int) (v5 : Int) : Option Int := k0 v2 v3 v4 (wadd v5 1)
set_option maxRecDepth 100000 in
theorem T139_3 {spec : zRn zH2} {hm : zHM} {o : Int → Int} {d : Nat} (hd : 3 ≤ d) (h : zHC) (k0 : Int → Int → Int → Int → Option Int) (hk0 : ∀ (v2 : Int) (v3 : Int) (v4 : Int) (v5 : Int) (v : Int), k0 v2 v3 v4 v5 = some v → zFin 0 (fun _ => 0) (zRu2 spec d) 139 (some (0, v)) (h, hm, o) (30, [some (21, 0), none, some (0, v2), some (0, v3), some (0, v4), some (0, v5), none], [], (h, hm, o))) (v2 : Int) (v3 : Int) (v4 : Int) (v5 : Int) (v : Int) (e : F139_3 k0 h v2 v3 v4 v5 = some v) : zFin 0 (fun _ => 0) (zRu2 spec d) 139 (some (0, v)) (h, hm, o) (74, [some (21, 0), none, some (0, v2), some (0, v3), some (0, v4), some (0, v5), none], [], (h, hm, o)) := by
  unfold F139_3 at e
  refine zF_blk (m := []) (d := 0) (b := B139_12) (gs := []) (c' := (30, [some (21, 0), none, some (0, v2), some (0, v3), some (0, v4), some (0, (wadd v5 1)), none], [], (h, hm, o))) K139_12 rfl trivial ?_
  exact hk0 v2 v3 v4 (wadd v5 1) _ e
def F139_2 (k0 : Int → Int → Int → Int → Option Int) (h : zHC) (v2 : Int) (v5 : Int) (v6 : Int) : Option Int := F139_3 k0 h v2 v5 v6 v5
set_option maxRecDepth 100000 in
theorem T139_2 {spec : zRn zH2} {hm : zHM} {o : Int → Int} {d : Nat} (hd : 3 ≤ d) (h : zHC) (k0 : Int → Int → Int → Int → Option Int) (hk0 : ∀ (v2 : Int) (v3 : Int) (v4 : Int) (v5 : Int) (v : Int), k0 v2 v3 v4 v5 = some v → zFin 0 (fun _ => 0) (zRu2 spec d) 139 (some (0, v)) (h, hm, o) (30, [some (21, 0), none, some (0, v2), some (0, v3), some (0, v4), some (0, v5), none], [], (h, hm, o))) (v2 : Int) (v5 : Int) (v6 : Int) (v : Int) (e : F139_2 k0 h v2 v5 v6 = some v) : zFin 0 (fun _ => 0) (zRu2 spec d) 139 (some (0, v)) (h, hm, o) (67, [some (21, 0), none, some (0, v2), none, none, some (0, v5), some (0, v6)], [], (h, hm, o)) := by
  unfold F139_2 at e
  refine zF_blk (m := []) (d := 0) (b := B139_13) (gs := []) (c' := (74, [some (21, 0), none, some (0, v2), some (0, v5), some (0, v6), some (0, v5), some (0, v6)], [], (h, hm, o))) K139_13 rfl trivial ?_
  refine zF_blk (m := [true, false, true, true, true, true, false]) (d := 0) (b := []) (gs := []) (c' := (74, [some (21, 0), none, some (0, v2), some (0, v5), some (0, v6), some (0, v5), none], [], (h, hm, o))) rfl rfl trivial ?_
  exact T139_3 hd h k0 hk0 v2 v5 v6 v5 _ e
def F139_1 (h : zHC) : Nat → Int → Int → Int → Int → Option Int
  | 0, _, _, _, _ => none
  | n + 1, v2, v3, v4, v5 => if (h 579 0 0) ≤ v5 then some v3 else (F101 0 v5 h).bind fun r1 => if v3 = (-1) then F139_2 (F139_1 h n) h v2 v5 (wmul v2 r1) else if v4 ≤ (wmul v2 r1) then F139_3 (F139_1 h n) h v2 v3 v4 v5 else F139_2 (F139_1 h n) h v2 v5 (wmul v2 r1)
set_option maxRecDepth 100000 in
theorem T139_1 {spec : zRn zH2} {hm : zHM} {o : Int → Int} {d : Nat} (hd : 3 ≤ d) (h : zHC) : ∀ (n : Nat) (v2 : Int) (v3 : Int) (v4 : Int) (v5 : Int) (v : Int), F139_1 h n v2 v3 v4 v5 = some v → zFin 0 (fun _ => 0) (zRu2 spec d) 139 (some (0, v)) (h, hm, o) (30, [some (21, 0), none, some (0, v2), some (0, v3), some (0, v4), some (0, v5), none], [], (h, hm, o)) := by
  intro n
  induction n with
  | zero => intro v2 v3 v4 v5 v e; unfold F139_1 at e; cases e
  | succ n hk0 =>
    intro v2 v3 v4 v5 v e
    unfold F139_1 at e
    rcases zI_s e with ⟨q1, e⟩ | ⟨q1, e⟩
    · refine zF_blk (m := []) (d := 1) (b := B139_11) (gs := [(h 579 0 0) ≤ v5]) (c' := (80, [some (21, 0), none, some (0, v2), some (0, v3), some (0, v4), some (0, v5), none], [], (h, hm, o))) K139_11 rfl ⟨q1, trivial⟩ ?_
      refine zF_blk (m := []) (d := 0) (b := B139_7) (gs := []) (c' := (81, [some (21, 0), none, some (0, v2), some (0, v3), some (0, v4), some (0, v5), none], [(0, v3)], (h, hm, o))) K139_7 rfl trivial ?_
      obtain rfl := Option.some.inj e
      exact zF_ri (by decide +kernel)
    · refine zF_blk (m := []) (d := 0) (b := B139_11) (gs := [¬ ((h 579 0 0) ≤ v5)]) (c' := (42, [some (21, 0), none, some (0, v2), some (0, v3), some (0, v4), some (0, v5), none], [], (h, hm, o))) K139_11 rfl ⟨q1, trivial⟩ ?_
      obtain ⟨r1, q2, e⟩ := zB_s e
      refine zF_blk (m := []) (d := 0) (b := B139_8) (gs := []) (c' := (49, [some (21, 0), none, some (0, v2), some (0, v3), some (0, v4), some (0, v5), none], [(0, v5), (11, 0), (0, v2)], (h, hm, o))) K139_8 rfl trivial ?_
      refine zF_call (k := 101) (cl := 1) (n := 2) (i := .invokevirtual 179) (args := [(11, 0), (0, v5)]) (rest := [(0, v2)]) (g1 := (h, hm, o)) (r1 := some (0, r1)) (by decide +kernel) rfl rfl rfl (st' := [(0, r1), (0, v2)]) rfl (S101 (Nat.le_trans (by decide) hd) 0 v5 h _ q2) ?_
      rcases zI_s e with ⟨q3, e⟩ | ⟨q3, e⟩
      · refine zF_blk (m := []) (d := 1) (b := B139_10) (gs := [v3 = (-1)]) (c' := (67, [some (21, 0), none, some (0, v2), some (0, v3), some (0, v4), some (0, v5), some (0, (wmul v2 r1))], [], (h, hm, o))) K139_10 rfl ⟨q3, trivial⟩ ?_
        refine zF_blk (m := [true, false, true, false, false, true, true]) (d := 0) (b := []) (gs := []) (c' := (67, [some (21, 0), none, some (0, v2), none, none, some (0, v5), some (0, (wmul v2 r1))], [], (h, hm, o))) rfl rfl trivial ?_
        exact T139_2 hd h (F139_1 h n) hk0 v2 v5 (wmul v2 r1) _ e
      · refine zF_blk (m := []) (d := 0) (b := B139_10) (gs := [¬ (v3 = (-1))]) (c' := (60, [some (21, 0), none, some (0, v2), some (0, v3), some (0, v4), some (0, v5), some (0, (wmul v2 r1))], [], (h, hm, o))) K139_10 rfl ⟨q3, trivial⟩ ?_
        rcases zI_s e with ⟨q4, e⟩ | ⟨q4, e⟩
        · refine zF_blk (m := []) (d := 1) (b := B139_9) (gs := [v4 ≤ (wmul v2 r1)]) (c' := (74, [some (21, 0), none, some (0, v2), some (0, v3), some (0, v4), some (0, v5), some (0, (wmul v2 r1))], [], (h, hm, o))) K139_9 rfl ⟨q4, trivial⟩ ?_
          refine zF_blk (m := [true, false, true, true, true, true, false]) (d := 0) (b := []) (gs := []) (c' := (74, [some (21, 0), none, some (0, v2), some (0, v3), some (0, v4), some (0, v5), none], [], (h, hm, o))) rfl rfl trivial ?_
          exact T139_3 hd h (F139_1 h n) hk0 v2 v3 v4 v5 _ e
        · refine zF_blk (m := []) (d := 0) (b := B139_9) (gs := [¬ (v4 ≤ (wmul v2 r1))]) (c' := (67, [some (21, 0), none, some (0, v2), some (0, v3), some (0, v4), some (0, v5), some (0, (wmul v2 r1))], [], (h, hm, o))) K139_9 rfl ⟨q4, trivial⟩ ?_
          refine zF_blk (m := [true, false, true, false, false, true, true]) (d := 0) (b := []) (gs := []) (c' := (67, [some (21, 0), none, some (0, v2), none, none, some (0, v5), some (0, (wmul v2 r1))], [], (h, hm, o))) rfl rfl trivial ?_
          exact T139_2 hd h (F139_1 h n) hk0 v2 v5 (wmul v2 r1) _ e
def F139_0 (h : zHC) (s0 : Int) : Option Int := F139_1 h zFu s0 (-1) 0 0
set_option maxRecDepth 100000 in
theorem T139_0 {spec : zRn zH2} {hm : zHM} {o : Int → Int} {d : Nat} (hd : 3 ≤ d) (h : zHC) (s0 : Int) (v : Int) (e : F139_0 h s0 = some v) : zFin 0 (fun _ => 0) (zRu2 spec d) 139 (some (0, v)) (h, hm, o) (21, [some (21, 0), none, none, none, none, none, none], [(0, s0)], (h, hm, o)) := by
  unfold F139_0 at e
  refine zF_blk (m := []) (d := 0) (b := B139_6) (gs := []) (c' := (30, [some (21, 0), none, some (0, s0), some (0, (-1)), some (0, 0), some (0, 0), none], [], (h, hm, o))) K139_6 rfl trivial ?_
  exact T139_1 hd h zFu s0 (-1) 0 0 _ e
/-- EchoVale.poorest(I)I -/
def F139 (v1 : Int) (h : zHC) : Option Int := if v1 < 0 then some (-1) else if v1 ≤ 1 then if ¬ v1 = 1 then F139_0 h 1 else F139_0 h (-1) else some (-1)
set_option maxRecDepth 100000 in
theorem S139 {spec : zRn zH2} {hm : zHM} {o : Int → Int} {d : Nat} (hd : 4 ≤ d) (v1 : Int) (h : zHC) (v : Int) (e : F139 v1 h = some v) : zRu2 spec d 139 [(21, 0), (0, v1)] (h, hm, o) (some (0, v)) (h, hm, o) := by
  refine zF_in (D := 3) (mx := 7) (L := [some (21, 0), some (0, v1), none, none, none, none, none]) (by decide +kernel) rfl rfl hd (fun d hd => ?_)
  unfold F139 at e
  rcases zI_s e with ⟨q1, e⟩ | ⟨q1, e⟩
  · refine zF_blk (m := []) (d := 1) (b := B139_5) (gs := [v1 < 0]) (c' := (9, [some (21, 0), some (0, v1), none, none, none, none, none], [], (h, hm, o))) K139_5 rfl ⟨q1, trivial⟩ ?_
    refine zF_blk (m := []) (d := 0) (b := B139_0) (gs := []) (c' := (10, [some (21, 0), some (0, v1), none, none, none, none, none], [(0, (-1))], (h, hm, o))) K139_0 rfl trivial ?_
    obtain rfl := Option.some.inj e
    exact zF_ri (by decide +kernel)
  · refine zF_blk (m := []) (d := 0) (b := B139_5) (gs := [¬ (v1 < 0)]) (c' := (4, [some (21, 0), some (0, v1), none, none, none, none, none], [], (h, hm, o))) K139_5 rfl ⟨q1, trivial⟩ ?_
    rcases zI_s e with ⟨q2, e⟩ | ⟨q2, e⟩
    · refine zF_blk (m := []) (d := 1) (b := B139_4) (gs := [v1 ≤ 1]) (c' := (11, [some (21, 0), some (0, v1), none, none, none, none, none], [], (h, hm, o))) K139_4 rfl ⟨q2, trivial⟩ ?_
      rcases zI_s e with ⟨q3, e⟩ | ⟨q3, e⟩
      · refine zF_blk (m := []) (d := 1) (b := B139_3) (gs := [¬ v1 = 1]) (c' := (20, [some (21, 0), some (0, v1), none, none, none, none, none], [], (h, hm, o))) K139_3 rfl ⟨q3, trivial⟩ ?_
        refine zF_blk (m := []) (d := 0) (b := B139_1) (gs := []) (c' := (21, [some (21, 0), some (0, v1), none, none, none, none, none], [(0, 1)], (h, hm, o))) K139_1 rfl trivial ?_
        refine zF_blk (m := [true, false, false, false, false, false, false]) (d := 0) (b := []) (gs := []) (c' := (21, [some (21, 0), none, none, none, none, none, none], [(0, 1)], (h, hm, o))) rfl rfl trivial ?_
        exact T139_0 hd h 1 _ e
      · refine zF_blk (m := []) (d := 0) (b := B139_3) (gs := [¬ (¬ v1 = 1)]) (c' := (16, [some (21, 0), some (0, v1), none, none, none, none, none], [], (h, hm, o))) K139_3 rfl ⟨q3, trivial⟩ ?_
        refine zF_blk (m := []) (d := 0) (b := B139_2) (gs := []) (c' := (21, [some (21, 0), some (0, v1), none, none, none, none, none], [(0, (-1))], (h, hm, o))) K139_2 rfl trivial ?_
        refine zF_blk (m := [true, false, false, false, false, false, false]) (d := 0) (b := []) (gs := []) (c' := (21, [some (21, 0), none, none, none, none, none, none], [(0, (-1))], (h, hm, o))) rfl rfl trivial ?_
        exact T139_0 hd h (-1) _ e
    · refine zF_blk (m := []) (d := 0) (b := B139_4) (gs := [¬ (v1 ≤ 1)]) (c' := (9, [some (21, 0), some (0, v1), none, none, none, none, none], [], (h, hm, o))) K139_4 rfl ⟨q2, trivial⟩ ?_
      refine zF_blk (m := []) (d := 0) (b := B139_0) (gs := []) (c' := (10, [some (21, 0), some (0, v1), none, none, none, none, none], [(0, (-1))], (h, hm, o))) K139_0 rfl trivial ?_
      obtain rfl := Option.some.inj e
      exact zF_ri (by decide +kernel)
