/-! Functions of the methods, by wip/gen/lift.py. -/
def B193_0 : List zRow := [(0, .aload_n 0, 1, (0, 0, 0)), (1, .iconst 0, 1, (0, 0, 0)), (2, .aload_n 0, 1, (0, 0, 0)), (3, .getfield 16, 3, (12, 15, 5243718)), (6, .iconst 0, 1, (0, 0, 0)), (7, .iaload, 1, (0, 0, 0)), (8, .iconst 1, 1, (0, 0, 0)), (9, .isub, 1, (0, 0, 0))]
theorem K193_0 : zRk 193 B193_0 = true := by decide +kernel
def B193_1 : List zRow := [(18, .aload_n 0, 1, (0, 0, 0)), (19, .getfield 155, 3, (12, 13, 0)), (22, .istore_n 1, 1, (0, 0, 0)), (23, .aload_n 0, 1, (0, 0, 0)), (24, .iconst 0, 1, (0, 0, 0)), (25, .aload_n 0, 1, (0, 0, 0)), (26, .getfield 16, 3, (12, 15, 5243718)), (29, .iconst 1, 1, (0, 0, 0)), (30, .iaload, 1, (0, 0, 0)), (31, .iconst 1, 1, (0, 0, 0)), (32, .isub, 1, (0, 0, 0))]
theorem K193_1 : zRk 193 B193_1 = true := by decide +kernel
def B193_2 : List zRow := [(41, .aload_n 0, 1, (0, 0, 0)), (42, .bipush 10, 2, (0, 0, 0)), (44, .aload_n 0, 1, (0, 0, 0)), (45, .getfield 155, 3, (12, 13, 0))]
theorem K193_2 : zRk 193 B193_2 = true := by decide +kernel
def B193_3 : List zRow := [(48, .imul, 1, (0, 0, 0)), (49, .iload_n 1, 1, (0, 0, 0)), (50, .iadd, 1, (0, 0, 0)), (51, .putfield 155, 3, (12, 13, 0)), (54, .iconst 1, 1, (0, 0, 0))]
theorem K193_3 : zRk 193 B193_3 = true := by decide +kernel
def B193_4 : List zRow := [(39, .iconst 0, 1, (0, 0, 0))]
theorem K193_4 : zRk 193 B193_4 = true := by decide +kernel
def B193_5 : List zRow := [(36, .ifCond .ne 5, 3, (0, 0, 0))]
theorem K193_5 : zRk 193 B193_5 = true := by decide +kernel
def B193_6 : List zRow := [(16, .iconst 0, 1, (0, 0, 0))]
theorem K193_6 : zRk 193 B193_6 = true := by decide +kernel
def B193_7 : List zRow := [(13, .ifCond .ne 5, 3, (0, 0, 0))]
theorem K193_7 : zRk 193 B193_7 = true := by decide +kernel
/-- EchoValeModel.holdCell()Z -/
def F193 (h : zHM) : Option (Int × zHM) := (F186 0 (wsub (h 15 0) 1) h).bind fun r1 => if ¬ r1.1 = 0 then (F187 0 (wsub (r1.2 15 1) 1) r1.2).bind fun r2 => if ¬ r2.1 = 0 then some (1, (mset r2.2 13 0 (wadd (wmul 10 (r2.2 13 0)) (r1.2 13 0)))) else some (0, r2.2) else some (0, r1.2)
set_option maxRecDepth 100000 in
theorem S193 {spec : zRn zH2} {hc : zHC} {o : Int → Int} {d : Nat} (hd : 4 ≤ d) (h : zHM) (v : (Int × zHM)) (e : F193 h = some v) : zRu2 spec d 193 [(22, 0)] (hc, h, o) (some (0, v.1)) (hc, v.2, o) := by
  refine zF_in (D := 3) (mx := 2) (L := [some (22, 0), none]) (by decide +kernel) rfl rfl hd (fun d hd => ?_)
  unfold F193 at e
  obtain ⟨r1, q1, e⟩ := zB_s e
  refine zF_blk (m := []) (d := 0) (b := B193_0) (gs := [0 ≤ 0 ∧ 0 < 209]) (c' := (10, [some (22, 0), none], [(0, (wsub (h 15 0) 1)), (0, 0), (22, 0)], (hc, h, o))) K193_0 rfl ⟨by decide, trivial⟩ ?_
  refine zF_call (k := 186) (cl := 12) (n := 3) (i := .invokevirtual 180) (args := [(22, 0), (0, 0), (0, (wsub (h 15 0) 1))]) (rest := []) (g1 := (hc, r1.2, o)) (r1 := some (0, r1.1)) (by decide +kernel) rfl rfl rfl (st' := [(0, r1.1)]) rfl (S186 (Nat.le_trans (by decide) hd) 0 (wsub (h 15 0) 1) h _ q1) ?_
  rcases zI_s e with ⟨q2, e⟩ | ⟨q2, e⟩
  · refine zF_blk (m := []) (d := 1) (b := B193_7) (gs := [¬ r1.1 = 0]) (c' := (18, [some (22, 0), none], [], (hc, r1.2, o))) K193_7 rfl ⟨q2, trivial⟩ ?_
    obtain ⟨r2, q3, e⟩ := zB_s e
    refine zF_blk (m := []) (d := 0) (b := B193_1) (gs := [0 ≤ 1 ∧ 1 < 209]) (c' := (33, [some (22, 0), some (0, (r1.2 13 0))], [(0, (wsub (r1.2 15 1) 1)), (0, 0), (22, 0)], (hc, r1.2, o))) K193_1 rfl ⟨by decide, trivial⟩ ?_
    refine zF_call (k := 187) (cl := 12) (n := 3) (i := .invokevirtual 158) (args := [(22, 0), (0, 0), (0, (wsub (r1.2 15 1) 1))]) (rest := []) (g1 := (hc, r2.2, o)) (r1 := some (0, r2.1)) (by decide +kernel) rfl rfl rfl (st' := [(0, r2.1)]) rfl (S187 (Nat.le_trans (by decide) hd) 0 (wsub (r1.2 15 1) 1) r1.2 _ q3) ?_
    rcases zI_s e with ⟨q4, e⟩ | ⟨q4, e⟩
    · refine zF_blk (m := []) (d := 1) (b := B193_5) (gs := [¬ r2.1 = 0]) (c' := (41, [some (22, 0), some (0, (r1.2 13 0))], [], (hc, r2.2, o))) K193_5 rfl ⟨q4, trivial⟩ ?_
      refine zF_blk (m := []) (d := 0) (b := B193_2) (gs := []) (c' := (48, [some (22, 0), some (0, (r1.2 13 0))], [(0, (r2.2 13 0)), (0, 10), (22, 0)], (hc, r2.2, o))) K193_2 rfl trivial ?_
      refine zF_blk (m := []) (d := 0) (b := B193_3) (gs := []) (c' := (55, [some (22, 0), some (0, (r1.2 13 0))], [(0, 1)], (hc, (mset r2.2 13 0 (wadd (wmul 10 (r2.2 13 0)) (r1.2 13 0))), o))) K193_3 rfl trivial ?_
      exact zF_rbM (by decide +kernel) (Or.inr rfl) e
    · refine zF_blk (m := []) (d := 0) (b := B193_5) (gs := [¬ (¬ r2.1 = 0)]) (c' := (39, [some (22, 0), some (0, (r1.2 13 0))], [], (hc, r2.2, o))) K193_5 rfl ⟨q4, trivial⟩ ?_
      refine zF_blk (m := []) (d := 0) (b := B193_4) (gs := []) (c' := (40, [some (22, 0), some (0, (r1.2 13 0))], [(0, 0)], (hc, r2.2, o))) K193_4 rfl trivial ?_
      exact zF_rbM (by decide +kernel) (Or.inl rfl) e
  · refine zF_blk (m := []) (d := 0) (b := B193_7) (gs := [¬ (¬ r1.1 = 0)]) (c' := (16, [some (22, 0), none], [], (hc, r1.2, o))) K193_7 rfl ⟨q2, trivial⟩ ?_
    refine zF_blk (m := []) (d := 0) (b := B193_6) (gs := []) (c' := (17, [some (22, 0), none], [(0, 0)], (hc, r1.2, o))) K193_6 rfl trivial ?_
    exact zF_rbM (by decide +kernel) (Or.inl rfl) e
def B199_0 : List zRow := [(17, .aload_n 0, 1, (0, 0, 0))]
theorem K199_0 : zRk 199 B199_0 = true := by decide +kernel
def B199_1 : List zRow := [(21, .aload_n 0, 1, (0, 0, 0))]
theorem K199_1 : zRk 199 B199_1 = true := by decide +kernel
def B199_2 : List zRow := [(30, .aload_n 0, 1, (0, 0, 0)), (31, .getfield 16, 3, (12, 15, 5243718)), (34, .bipush 97, 2, (0, 0, 0)), (36, .aload_n 0, 1, (0, 0, 0)), (37, .getfield 155, 3, (12, 13, 0))]
theorem K199_2 : zRk 199 B199_2 = true := by decide +kernel
def B199_3 : List zRow := [(51, .aload_n 0, 1, (0, 0, 0)), (52, .getfield 16, 3, (12, 15, 5243718)), (55, .bipush 97, 2, (0, 0, 0)), (57, .aload_n 0, 1, (0, 0, 0)), (58, .getfield 155, 3, (12, 13, 0))]
theorem K199_3 : zRk 199 B199_3 = true := by decide +kernel
def B199_4 : List zRow := [(61, .iadd, 1, (0, 0, 0)), (62, .iconst 1, 1, (0, 0, 0)), (63, .iastore, 1, (0, 0, 0)), (64, .aload_n 0, 1, (0, 0, 0)), (65, .getfield 16, 3, (12, 15, 5243718)), (68, .iconst 5, 1, (0, 0, 0)), (69, .dup2, 1, (0, 0, 0)), (70, .iaload, 1, (0, 0, 0)), (71, .iconst 1, 1, (0, 0, 0)), (72, .iadd, 1, (0, 0, 0)), (73, .iastore, 1, (0, 0, 0)), (74, .aload_n 0, 1, (0, 0, 0))]
theorem K199_4 : zRk 199 B199_4 = true := by decide +kernel
def B199_5 : List zRow := [(78, .iconst 1, 1, (0, 0, 0))]
theorem K199_5 : zRk 199 B199_5 = true := by decide +kernel
def B199_6 : List zRow := [(45, .aload_n 0, 1, (0, 0, 0)), (46, .iconst 3, 1, (0, 0, 0))]
theorem K199_6 : zRk 199 B199_6 = true := by decide +kernel
def B199_7 : List zRow := [(40, .iadd, 1, (0, 0, 0)), (41, .iaload, 1, (0, 0, 0)), (42, .ifCond .le 9, 3, (0, 0, 0))]
theorem K199_7 : zRk 199 B199_7 = true := by decide +kernel
def B199_8 : List zRow := [(28, .iconst 0, 1, (0, 0, 0))]
theorem K199_8 : zRk 199 B199_8 = true := by decide +kernel
def B199_9 : List zRow := [(25, .ifCond .ne 5, 3, (0, 0, 0))]
theorem K199_9 : zRk 199 B199_9 = true := by decide +kernel
def B199_10 : List zRow := [(11, .aload_n 0, 1, (0, 0, 0)), (12, .iconst 4, 1, (0, 0, 0))]
theorem K199_10 : zRk 199 B199_10 = true := by decide +kernel
def B199_11 : List zRow := [(0, .aload_n 0, 1, (0, 0, 0)), (1, .getfield 16, 3, (12, 15, 5243718)), (4, .iconst 5, 1, (0, 0, 0)), (5, .iaload, 1, (0, 0, 0)), (6, .bipush 8, 2, (0, 0, 0)), (8, .if_icmp .ne 9, 3, (0, 0, 0))]
theorem K199_11 : zRk 199 B199_11 = true := by decide +kernel
/-- EchoValeModel.readFelt()Z -/
def F199 (h : zHM) : Option (Int × zHM) := if ¬ (h 15 5) = 8 then (F176 h).bind fun r1 => (F193 r1).bind fun r2 => if ¬ r2.1 = 0 then zG (0 ≤ (wadd 97 (r2.2 13 0)) ∧ (wadd 97 (r2.2 13 0)) < 209) (if (r2.2 15 (wadd 97 (r2.2 13 0))) ≤ 0 then zG (0 ≤ (wadd 97 (r2.2 13 0)) ∧ (wadd 97 (r2.2 13 0)) < 209) ((F176 (mset (mset r2.2 15 (wadd 97 (r2.2 13 0)) 1) 15 5 (wadd ((mset r2.2 15 (wadd 97 (r2.2 13 0)) 1) 15 5) 1))).bind fun r3 => some (1, r3)) else (F185 3 r2.2).bind fun r4 => zG (r4.1 = 0 ∨ r4.1 = 1) (some (r4.1, r4.2))) else some (0, r2.2) else (F185 4 h).bind fun r5 => zG (r5.1 = 0 ∨ r5.1 = 1) (some (r5.1, r5.2))
set_option maxRecDepth 100000 in
theorem S199 {spec : zRn zH2} {hc : zHC} {o : Int → Int} {d : Nat} (hd : 5 ≤ d) (h : zHM) (v : (Int × zHM)) (e : F199 h = some v) : zRu2 spec d 199 [(22, 0)] (hc, h, o) (some (0, v.1)) (hc, v.2, o) := by
  refine zF_in (D := 4) (mx := 1) (L := [some (22, 0)]) (by decide +kernel) rfl rfl hd (fun d hd => ?_)
  unfold F199 at e
  rcases zI_s e with ⟨q1, e⟩ | ⟨q1, e⟩
  · refine zF_blk (m := []) (d := 1) (b := B199_11) (gs := [0 ≤ 5 ∧ 5 < 209, ¬ (h 15 5) = 8]) (c' := (17, [some (22, 0)], [], (hc, h, o))) K199_11 rfl ⟨by decide, q1, trivial⟩ ?_
    obtain ⟨r1, q2, e⟩ := zB_s e
    refine zF_blk (m := []) (d := 0) (b := B199_0) (gs := []) (c' := (18, [some (22, 0)], [(22, 0)], (hc, h, o))) K199_0 rfl trivial ?_
    refine zF_call (k := 176) (cl := 12) (n := 1) (i := .invokevirtual 162) (args := [(22, 0)]) (rest := []) (g1 := (hc, r1, o)) (r1 := none) (by decide +kernel) rfl rfl rfl (st' := []) rfl (S176 (Nat.le_trans (by decide) hd)  h _ q2) ?_
    obtain ⟨r2, q3, e⟩ := zB_s e
    refine zF_blk (m := []) (d := 0) (b := B199_1) (gs := []) (c' := (22, [some (22, 0)], [(22, 0)], (hc, r1, o))) K199_1 rfl trivial ?_
    refine zF_call (k := 193) (cl := 12) (n := 1) (i := .invokevirtual 183) (args := [(22, 0)]) (rest := []) (g1 := (hc, r2.2, o)) (r1 := some (0, r2.1)) (by decide +kernel) rfl rfl rfl (st' := [(0, r2.1)]) rfl (S193 (Nat.le_trans (by decide) hd)  r1 _ q3) ?_
    rcases zI_s e with ⟨q4, e⟩ | ⟨q4, e⟩
    · refine zF_blk (m := []) (d := 1) (b := B199_9) (gs := [¬ r2.1 = 0]) (c' := (30, [some (22, 0)], [], (hc, r2.2, o))) K199_9 rfl ⟨q4, trivial⟩ ?_
      obtain ⟨q5, e⟩ := zG_s e
      refine zF_blk (m := []) (d := 0) (b := B199_2) (gs := []) (c' := (40, [some (22, 0)], [(0, (r2.2 13 0)), (0, 97), (1342393079, 0)], (hc, r2.2, o))) K199_2 rfl trivial ?_
      rcases zI_s e with ⟨q6, e⟩ | ⟨q6, e⟩
      · refine zF_blk (m := []) (d := 1) (b := B199_7) (gs := [0 ≤ (wadd 97 (r2.2 13 0)) ∧ (wadd 97 (r2.2 13 0)) < 209, (r2.2 15 (wadd 97 (r2.2 13 0))) ≤ 0]) (c' := (51, [some (22, 0)], [], (hc, r2.2, o))) K199_7 rfl ⟨q5, q6, trivial⟩ ?_
        obtain ⟨q7, e⟩ := zG_s e
        refine zF_blk (m := []) (d := 0) (b := B199_3) (gs := []) (c' := (61, [some (22, 0)], [(0, (r2.2 13 0)), (0, 97), (1342393079, 0)], (hc, r2.2, o))) K199_3 rfl trivial ?_
        obtain ⟨r3, q8, e⟩ := zB_s e
        refine zF_blk (m := []) (d := 0) (b := B199_4) (gs := [0 ≤ (wadd 97 (r2.2 13 0)) ∧ (wadd 97 (r2.2 13 0)) < 209, 0 ≤ 5 ∧ 5 < 209, 0 ≤ 5 ∧ 5 < 209]) (c' := (75, [some (22, 0)], [(22, 0)], (hc, (mset (mset r2.2 15 (wadd 97 (r2.2 13 0)) 1) 15 5 (wadd ((mset r2.2 15 (wadd 97 (r2.2 13 0)) 1) 15 5) 1)), o))) K199_4 rfl ⟨q7, by decide, by decide, trivial⟩ ?_
        refine zF_call (k := 176) (cl := 12) (n := 1) (i := .invokevirtual 162) (args := [(22, 0)]) (rest := []) (g1 := (hc, r3, o)) (r1 := none) (by decide +kernel) rfl rfl rfl (st' := []) rfl (S176 (Nat.le_trans (by decide) hd)  (mset (mset r2.2 15 (wadd 97 (r2.2 13 0)) 1) 15 5 (wadd ((mset r2.2 15 (wadd 97 (r2.2 13 0)) 1) 15 5) 1)) _ q8) ?_
        refine zF_blk (m := []) (d := 0) (b := B199_5) (gs := []) (c' := (79, [some (22, 0)], [(0, 1)], (hc, r3, o))) K199_5 rfl trivial ?_
        exact zF_rbM (by decide +kernel) (Or.inr rfl) e
      · refine zF_blk (m := []) (d := 0) (b := B199_7) (gs := [0 ≤ (wadd 97 (r2.2 13 0)) ∧ (wadd 97 (r2.2 13 0)) < 209, ¬ ((r2.2 15 (wadd 97 (r2.2 13 0))) ≤ 0)]) (c' := (45, [some (22, 0)], [], (hc, r2.2, o))) K199_7 rfl ⟨q5, q6, trivial⟩ ?_
        obtain ⟨r4, q9, e⟩ := zB_s e
        refine zF_blk (m := []) (d := 0) (b := B199_6) (gs := []) (c' := (47, [some (22, 0)], [(0, 3), (22, 0)], (hc, r2.2, o))) K199_6 rfl trivial ?_
        refine zF_call (k := 185) (cl := 12) (n := 2) (i := .invokevirtual 148) (args := [(22, 0), (0, 3)]) (rest := []) (g1 := (hc, r4.2, o)) (r1 := some (0, r4.1)) (by decide +kernel) rfl rfl rfl (st' := [(0, r4.1)]) rfl (S185 (Nat.le_trans (by decide) hd) 3 r2.2 _ q9) ?_
        obtain ⟨q10, e⟩ := zG_s e
        exact zF_rbM (by decide +kernel) q10 e
    · refine zF_blk (m := []) (d := 0) (b := B199_9) (gs := [¬ (¬ r2.1 = 0)]) (c' := (28, [some (22, 0)], [], (hc, r2.2, o))) K199_9 rfl ⟨q4, trivial⟩ ?_
      refine zF_blk (m := []) (d := 0) (b := B199_8) (gs := []) (c' := (29, [some (22, 0)], [(0, 0)], (hc, r2.2, o))) K199_8 rfl trivial ?_
      exact zF_rbM (by decide +kernel) (Or.inl rfl) e
  · refine zF_blk (m := []) (d := 0) (b := B199_11) (gs := [0 ≤ 5 ∧ 5 < 209, ¬ (¬ (h 15 5) = 8)]) (c' := (11, [some (22, 0)], [], (hc, h, o))) K199_11 rfl ⟨by decide, q1, trivial⟩ ?_
    obtain ⟨r5, q11, e⟩ := zB_s e
    refine zF_blk (m := []) (d := 0) (b := B199_10) (gs := []) (c' := (13, [some (22, 0)], [(0, 4), (22, 0)], (hc, h, o))) K199_10 rfl trivial ?_
    refine zF_call (k := 185) (cl := 12) (n := 2) (i := .invokevirtual 148) (args := [(22, 0), (0, 4)]) (rest := []) (g1 := (hc, r5.2, o)) (r1 := some (0, r5.1)) (by decide +kernel) rfl rfl rfl (st' := [(0, r5.1)]) rfl (S185 (Nat.le_trans (by decide) hd) 4 h _ q11) ?_
    obtain ⟨q12, e⟩ := zG_s e
    exact zF_rbM (by decide +kernel) q12 e
def B191_0 : List zRow := [(10, .iconst 0, 1, (0, 0, 0)), (11, .istore_n 1, 1, (0, 0, 0))]
theorem K191_0 : zRk 191 B191_0 = true := by decide +kernel
def B191_1 : List zRow := [(8, .iconst 0, 1, (0, 0, 0))]
theorem K191_1 : zRk 191 B191_1 = true := by decide +kernel
def B191_2 : List zRow := [(0, .aload_n 0, 1, (0, 0, 0)), (1, .getfield 107, 3, (12, 7, 0)), (4, .iconst 2, 1, (0, 0, 0)), (5, .if_icmp .eq 5, 3, (0, 0, 0))]
theorem K191_2 : zRk 191 B191_2 = true := by decide +kernel
def B191_3 : List zRow := [(38, .iconst 1, 1, (0, 0, 0))]
theorem K191_3 : zRk 191 B191_3 = true := by decide +kernel
def B191_4 : List zRow := [(18, .aload_n 0, 1, (0, 0, 0)), (19, .getfield 120, 3, (12, 12, 1)), (22, .iload_n 1, 1, (0, 0, 0))]
theorem K191_4 : zRk 191 B191_4 = true := by decide +kernel
def B191_5 : List zRow := [(32, .iinc 1 1, 3, (0, 0, 0)), (35, .goto (-23), 3, (0, 0, 0))]
theorem K191_5 : zRk 191 B191_5 = true := by decide +kernel
def B191_6 : List zRow := [(30, .iconst 0, 1, (0, 0, 0))]
theorem K191_6 : zRk 191 B191_6 = true := by decide +kernel
def B191_7 : List zRow := [(26, .lcmp, 1, (0, 0, 0)), (27, .ifCond .ne 5, 3, (0, 0, 0))]
theorem K191_7 : zRk 191 B191_7 = true := by decide +kernel
def B191_8 : List zRow := [(12, .iload_n 1, 1, (0, 0, 0)), (13, .bipush 20, 2, (0, 0, 0)), (15, .if_icmp .gt 23, 3, (0, 0, 0))]
theorem K191_8 : zRk 191 B191_8 = true := by decide +kernel
def F191_0 (h : zHM) : Nat → Int → Option Int
  | 0, _ => none
  | n + 1, v1 => if 20 < v1 then some 1 else (F182 v1).bind fun r1 => if ¬ (qcmp (h 12 0) r1) = 0 then (F191_0 h n) (wadd v1 1) else some 0
set_option maxRecDepth 100000 in
theorem T191_0 {spec : zRn zH2} {hc : zHC} {o : Int → Int} {d : Nat} (hd : 2 ≤ d) (h : zHM) : ∀ (n : Nat) (v1 : Int) (v : Int), F191_0 h n v1 = some v → zFin 0 (fun _ => 0) (zRu2 spec d) 191 (some (0, v)) (hc, h, o) (12, [some (22, 0), some (0, v1)], [], (hc, h, o)) := by
  intro n
  induction n with
  | zero => intro v1 v e; unfold F191_0 at e; cases e
  | succ n hk0 =>
    intro v1 v e
    unfold F191_0 at e
    rcases zI_s e with ⟨q1, e⟩ | ⟨q1, e⟩
    · refine zF_blk (m := []) (d := 1) (b := B191_8) (gs := [20 < v1]) (c' := (38, [some (22, 0), some (0, v1)], [], (hc, h, o))) K191_8 rfl ⟨q1, trivial⟩ ?_
      refine zF_blk (m := []) (d := 0) (b := B191_3) (gs := []) (c' := (39, [some (22, 0), some (0, v1)], [(0, 1)], (hc, h, o))) K191_3 rfl trivial ?_
      obtain rfl := Option.some.inj e
      exact zF_rb (by decide +kernel) (Or.inr rfl)
    · refine zF_blk (m := []) (d := 0) (b := B191_8) (gs := [¬ (20 < v1)]) (c' := (18, [some (22, 0), some (0, v1)], [], (hc, h, o))) K191_8 rfl ⟨q1, trivial⟩ ?_
      obtain ⟨r1, q2, e⟩ := zB_s e
      refine zF_blk (m := []) (d := 0) (b := B191_4) (gs := []) (c' := (23, [some (22, 0), some (0, v1)], [(0, v1), (1, (h 12 0))], (hc, h, o))) K191_4 rfl trivial ?_
      refine zF_call (k := 182) (cl := 12) (n := 1) (i := .invokestatic 138) (args := [(0, v1)]) (rest := [(1, (h 12 0))]) (g1 := (hc, h, o)) (r1 := some (1, r1)) (by decide +kernel) rfl rfl rfl (st' := [(1, r1), (1, (h 12 0))]) rfl (S182 (Nat.le_trans (by decide) hd) v1 h _ q2) ?_
      rcases zI_s e with ⟨q3, e⟩ | ⟨q3, e⟩
      · refine zF_blk (m := []) (d := 1) (b := B191_7) (gs := [¬ (qcmp (h 12 0) r1) = 0]) (c' := (32, [some (22, 0), some (0, v1)], [], (hc, h, o))) K191_7 rfl ⟨q3, trivial⟩ ?_
        refine zF_blk (m := []) (d := 0) (b := B191_5) (gs := []) (c' := (12, [some (22, 0), some (0, (wadd v1 1))], [], (hc, h, o))) K191_5 rfl trivial ?_
        exact hk0 (wadd v1 1) _ e
      · refine zF_blk (m := []) (d := 0) (b := B191_7) (gs := [¬ (¬ (qcmp (h 12 0) r1) = 0)]) (c' := (30, [some (22, 0), some (0, v1)], [], (hc, h, o))) K191_7 rfl ⟨q3, trivial⟩ ?_
        refine zF_blk (m := []) (d := 0) (b := B191_6) (gs := []) (c' := (31, [some (22, 0), some (0, v1)], [(0, 0)], (hc, h, o))) K191_6 rfl trivial ?_
        obtain rfl := Option.some.inj e
        exact zF_rb (by decide +kernel) (Or.inl rfl)
/-- EchoValeModel.isName()Z -/
def F191 (h : zHM) : Option Int := if (h 7 0) = 2 then F191_0 h zFu 0 else some 0
set_option maxRecDepth 100000 in
theorem S191 {spec : zRn zH2} {hc : zHC} {o : Int → Int} {d : Nat} (hd : 3 ≤ d) (h : zHM) (v : Int) (e : F191 h = some v) : zRu2 spec d 191 [(22, 0)] (hc, h, o) (some (0, v)) (hc, h, o) := by
  refine zF_in (D := 2) (mx := 2) (L := [some (22, 0), none]) (by decide +kernel) rfl rfl hd (fun d hd => ?_)
  unfold F191 at e
  rcases zI_s e with ⟨q1, e⟩ | ⟨q1, e⟩
  · refine zF_blk (m := []) (d := 1) (b := B191_2) (gs := [(h 7 0) = 2]) (c' := (10, [some (22, 0), none], [], (hc, h, o))) K191_2 rfl ⟨q1, trivial⟩ ?_
    refine zF_blk (m := []) (d := 0) (b := B191_0) (gs := []) (c' := (12, [some (22, 0), some (0, 0)], [], (hc, h, o))) K191_0 rfl trivial ?_
    exact T191_0 hd h zFu 0 _ e
  · refine zF_blk (m := []) (d := 0) (b := B191_2) (gs := [¬ ((h 7 0) = 2)]) (c' := (8, [some (22, 0), none], [], (hc, h, o))) K191_2 rfl ⟨q1, trivial⟩ ?_
    refine zF_blk (m := []) (d := 0) (b := B191_1) (gs := []) (c' := (9, [some (22, 0), none], [(0, 0)], (hc, h, o))) K191_1 rfl trivial ?_
    obtain rfl := Option.some.inj e
    exact zF_rb (by decide +kernel) (Or.inl rfl)
def B192_0 : List zRow := [(0, .iconst 0, 1, (0, 0, 0)), (1, .istore 5, 2, (0, 0, 0))]
theorem K192_0 : zRk 192 B192_0 = true := by decide +kernel
def B192_1 : List zRow := [(29, .iconst (-1), 1, (0, 0, 0))]
theorem K192_1 : zRk 192 B192_1 = true := by decide +kernel
def B192_2 : List zRow := [(23, .iinc 5 1, 3, (0, 0, 0)), (26, .goto (-23), 3, (0, 0, 0))]
theorem K192_2 : zRk 192 B192_2 = true := by decide +kernel
def B192_3 : List zRow := [(20, .iload 5, 2, (0, 0, 0))]
theorem K192_3 : zRk 192 B192_3 = true := by decide +kernel
def B192_4 : List zRow := [(9, .aload_n 0, 1, (0, 0, 0)), (10, .iload_n 1, 1, (0, 0, 0)), (11, .iload 5, 2, (0, 0, 0)), (13, .iadd, 1, (0, 0, 0)), (14, .laload, 1, (0, 0, 0)), (15, .lload_n 3, 1, (0, 0, 0)), (16, .lcmp, 1, (0, 0, 0)), (17, .ifCond .ne 6, 3, (0, 0, 0))]
theorem K192_4 : zRk 192 B192_4 = true := by decide +kernel
def B192_5 : List zRow := [(3, .iload 5, 2, (0, 0, 0)), (5, .iload_n 2, 1, (0, 0, 0)), (6, .if_icmp .ge 23, 3, (0, 0, 0))]
theorem K192_5 : zRk 192 B192_5 = true := by decide +kernel
def F192_0 (h : zHM) : Nat → Int → Int → Int → Int → Option Int
  | 0, _, _, _, _ => none
  | n + 1, v1, v2, v3, v5 => if v2 ≤ v5 then some (-1) else zG (0 ≤ (wadd v1 v5) ∧ (wadd v1 v5) < 12) (if ¬ (qcmp (h 20 (wadd v1 v5)) v3) = 0 then (F192_0 h n) v1 v2 v3 (wadd v5 1) else some v5)
set_option maxRecDepth 100000 in
theorem T192_0 {spec : zRn zH2} {hc : zHC} {o : Int → Int} {d : Nat} (hd : 0 ≤ d) (h : zHM) : ∀ (n : Nat) (v1 : Int) (v2 : Int) (v3 : Int) (v5 : Int) (v : Int), F192_0 h n v1 v2 v3 v5 = some v → zFin 0 (fun _ => 0) (zRu2 spec d) 192 (some (0, v)) (hc, h, o) (3, [some (1409300220, 0), some (0, v1), some (0, v2), some (1, v3), none, some (0, v5)], [], (hc, h, o)) := by
  intro n
  induction n with
  | zero => intro v1 v2 v3 v5 v e; unfold F192_0 at e; cases e
  | succ n hk0 =>
    intro v1 v2 v3 v5 v e
    unfold F192_0 at e
    rcases zI_s e with ⟨q1, e⟩ | ⟨q1, e⟩
    · refine zF_blk (m := []) (d := 1) (b := B192_5) (gs := [v2 ≤ v5]) (c' := (29, [some (1409300220, 0), some (0, v1), some (0, v2), some (1, v3), none, some (0, v5)], [], (hc, h, o))) K192_5 rfl ⟨q1, trivial⟩ ?_
      refine zF_blk (m := []) (d := 0) (b := B192_1) (gs := []) (c' := (30, [some (1409300220, 0), some (0, v1), some (0, v2), some (1, v3), none, some (0, v5)], [(0, (-1))], (hc, h, o))) K192_1 rfl trivial ?_
      obtain rfl := Option.some.inj e
      exact zF_ri (by decide +kernel)
    · refine zF_blk (m := []) (d := 0) (b := B192_5) (gs := [¬ (v2 ≤ v5)]) (c' := (9, [some (1409300220, 0), some (0, v1), some (0, v2), some (1, v3), none, some (0, v5)], [], (hc, h, o))) K192_5 rfl ⟨q1, trivial⟩ ?_
      obtain ⟨q2, e⟩ := zG_s e
      rcases zI_s e with ⟨q3, e⟩ | ⟨q3, e⟩
      · refine zF_blk (m := []) (d := 1) (b := B192_4) (gs := [0 ≤ (wadd v1 v5) ∧ (wadd v1 v5) < 12, ¬ (qcmp (h 20 (wadd v1 v5)) v3) = 0]) (c' := (23, [some (1409300220, 0), some (0, v1), some (0, v2), some (1, v3), none, some (0, v5)], [], (hc, h, o))) K192_4 rfl ⟨q2, q3, trivial⟩ ?_
        refine zF_blk (m := []) (d := 0) (b := B192_2) (gs := []) (c' := (3, [some (1409300220, 0), some (0, v1), some (0, v2), some (1, v3), none, some (0, (wadd v5 1))], [], (hc, h, o))) K192_2 rfl trivial ?_
        exact hk0 v1 v2 v3 (wadd v5 1) _ e
      · refine zF_blk (m := []) (d := 0) (b := B192_4) (gs := [0 ≤ (wadd v1 v5) ∧ (wadd v1 v5) < 12, ¬ (¬ (qcmp (h 20 (wadd v1 v5)) v3) = 0)]) (c' := (20, [some (1409300220, 0), some (0, v1), some (0, v2), some (1, v3), none, some (0, v5)], [], (hc, h, o))) K192_4 rfl ⟨q2, q3, trivial⟩ ?_
        refine zF_blk (m := []) (d := 0) (b := B192_3) (gs := []) (c' := (22, [some (1409300220, 0), some (0, v1), some (0, v2), some (1, v3), none, some (0, v5)], [(0, v5)], (hc, h, o))) K192_3 rfl trivial ?_
        obtain rfl := Option.some.inj e
        exact zF_ri (by decide +kernel)
/-- EchoValeModel.findIn([JIIJ)I -/
def F192 (v1 : Int) (v2 : Int) (v3 : Int) (h : zHM) : Option Int := F192_0 h zFu v1 v2 v3 0
set_option maxRecDepth 100000 in
theorem S192 {spec : zRn zH2} {hc : zHC} {o : Int → Int} {d : Nat} (hd : 1 ≤ d) (v1 : Int) (v2 : Int) (v3 : Int) (h : zHM) (v : Int) (e : F192 v1 v2 v3 h = some v) : zRu2 spec d 192 [(1409300220, 0), (0, v1), (0, v2), (1, v3)] (hc, h, o) (some (0, v)) (hc, h, o) := by
  refine zF_in (D := 0) (mx := 6) (L := [some (1409300220, 0), some (0, v1), some (0, v2), some (1, v3), none, none]) (by decide +kernel) rfl rfl hd (fun d hd => ?_)
  unfold F192 at e
  refine zF_blk (m := []) (d := 0) (b := B192_0) (gs := []) (c' := (3, [some (1409300220, 0), some (0, v1), some (0, v2), some (1, v3), none, some (0, 0)], [], (hc, h, o))) K192_0 rfl trivial ?_
  exact T192_0 hd h zFu v1 v2 v3 0 _ e
def B197_0 : List zRow := [(0, .aload_n 0, 1, (0, 0, 0))]
theorem K197_0 : zRk 197 B197_0 = true := by decide +kernel
def B197_1 : List zRow := [(13, .aload_n 0, 1, (0, 0, 0)), (14, .aload_n 0, 1, (0, 0, 0)), (15, .getfield 32, 3, (12, 20, 5505074)), (18, .bipush 6, 2, (0, 0, 0)), (20, .aload_n 0, 1, (0, 0, 0)), (21, .getfield 16, 3, (12, 15, 5243718)), (24, .iconst 3, 1, (0, 0, 0)), (25, .iaload, 1, (0, 0, 0)), (26, .aload_n 0, 1, (0, 0, 0)), (27, .getfield 120, 3, (12, 12, 1))]
theorem K197_1 : zRk 197 B197_1 = true := by decide +kernel
def B197_2 : List zRow := [(44, .aload_n 0, 1, (0, 0, 0)), (45, .iconst 3, 1, (0, 0, 0))]
theorem K197_2 : zRk 197 B197_2 = true := by decide +kernel
def B197_3 : List zRow := [(56, .iconst 0, 1, (0, 0, 0))]
theorem K197_3 : zRk 197 B197_3 = true := by decide +kernel
def B197_4 : List zRow := [(49, .ifCond .eq 7, 3, (0, 0, 0))]
theorem K197_4 : zRk 197 B197_4 = true := by decide +kernel
def B197_5 : List zRow := [(33, .putfield 155, 3, (12, 13, 0)), (36, .aload_n 0, 1, (0, 0, 0)), (37, .getfield 155, 3, (12, 13, 0)), (40, .iconst (-1), 1, (0, 0, 0)), (41, .if_icmp .ne 11, 3, (0, 0, 0))]
theorem K197_5 : zRk 197 B197_5 = true := by decide +kernel
def B197_6 : List zRow := [(7, .aload_n 0, 1, (0, 0, 0)), (8, .iconst 1, 1, (0, 0, 0))]
theorem K197_6 : zRk 197 B197_6 = true := by decide +kernel
def B197_7 : List zRow := [(4, .ifCond .ne 9, 3, (0, 0, 0))]
theorem K197_7 : zRk 197 B197_7 = true := by decide +kernel
def B197_8 : List zRow := [(52, .iconst 1, 1, (0, 0, 0)), (53, .goto 4, 3, (0, 0, 0))]
theorem K197_8 : zRk 197 B197_8 = true := by decide +kernel
def F197_0 (h : zHM) : Option (Int × zHM) := some (1, h)
set_option maxRecDepth 100000 in
theorem T197_0 {spec : zRn zH2} {hc : zHC} {o : Int → Int} {d : Nat} (hd : 3 ≤ d) (h : zHM) (v : (Int × zHM)) (e : F197_0 h = some v) : zFin 0 (fun _ => 0) (zRu2 spec d) 197 (some (0, v.1)) (hc, v.2, o) (52, [none], [], (hc, h, o)) := by
  unfold F197_0 at e
  refine zF_blk (m := []) (d := 0) (b := B197_8) (gs := []) (c' := (57, [none], [(0, 1)], (hc, h, o))) K197_8 rfl trivial ?_
  exact zF_rbM (by decide +kernel) (Or.inr rfl) e
/-- EchoValeModel.isOne()Z -/
def F197 (h : zHM) : Option (Int × zHM) := (F191 h).bind fun r1 => if ¬ r1 = 0 then (F192 6 (h 15 3) (h 12 0) h).bind fun r2 => if ¬ r2 = (-1) then F197_0 (mset h 13 0 r2) else (F185 3 (mset h 13 0 r2)).bind fun r3 => if r3.1 = 0 then some (0, r3.2) else F197_0 r3.2 else (F185 1 h).bind fun r4 => zG (r4.1 = 0 ∨ r4.1 = 1) (some (r4.1, r4.2))
set_option maxRecDepth 100000 in
theorem S197 {spec : zRn zH2} {hc : zHC} {o : Int → Int} {d : Nat} (hd : 4 ≤ d) (h : zHM) (v : (Int × zHM)) (e : F197 h = some v) : zRu2 spec d 197 [(22, 0)] (hc, h, o) (some (0, v.1)) (hc, v.2, o) := by
  refine zF_in (D := 3) (mx := 1) (L := [some (22, 0)]) (by decide +kernel) rfl rfl hd (fun d hd => ?_)
  unfold F197 at e
  obtain ⟨r1, q1, e⟩ := zB_s e
  refine zF_blk (m := []) (d := 0) (b := B197_0) (gs := []) (c' := (1, [some (22, 0)], [(22, 0)], (hc, h, o))) K197_0 rfl trivial ?_
  refine zF_call (k := 191) (cl := 12) (n := 1) (i := .invokevirtual 172) (args := [(22, 0)]) (rest := []) (g1 := (hc, h, o)) (r1 := some (0, r1)) (by decide +kernel) rfl rfl rfl (st' := [(0, r1)]) rfl (S191 (Nat.le_trans (by decide) hd)  h _ q1) ?_
  rcases zI_s e with ⟨q2, e⟩ | ⟨q2, e⟩
  · refine zF_blk (m := []) (d := 1) (b := B197_7) (gs := [¬ r1 = 0]) (c' := (13, [some (22, 0)], [], (hc, h, o))) K197_7 rfl ⟨q2, trivial⟩ ?_
    obtain ⟨r2, q3, e⟩ := zB_s e
    refine zF_blk (m := []) (d := 0) (b := B197_1) (gs := [0 ≤ 3 ∧ 3 < 209]) (c' := (30, [some (22, 0)], [(1, (h 12 0)), (0, (h 15 3)), (0, 6), (1409300220, 0), (22, 0)], (hc, h, o))) K197_1 rfl ⟨by decide, trivial⟩ ?_
    refine zF_call (k := 192) (cl := 12) (n := 4) (i := .invokestatic 176) (args := [(1409300220, 0), (0, 6), (0, (h 15 3)), (1, (h 12 0))]) (rest := [(22, 0)]) (g1 := (hc, h, o)) (r1 := some (0, r2)) (by decide +kernel) rfl rfl rfl (st' := [(0, r2), (22, 0)]) rfl (S192 (Nat.le_trans (by decide) hd) 6 (h 15 3) (h 12 0) h _ q3) ?_
    rcases zI_s e with ⟨q4, e⟩ | ⟨q4, e⟩
    · refine zF_blk (m := []) (d := 1) (b := B197_5) (gs := [¬ r2 = (-1)]) (c' := (52, [some (22, 0)], [], (hc, (mset h 13 0 r2), o))) K197_5 rfl ⟨q4, trivial⟩ ?_
      refine zF_blk (m := [false]) (d := 0) (b := []) (gs := []) (c' := (52, [none], [], (hc, (mset h 13 0 r2), o))) rfl rfl trivial ?_
      exact T197_0 hd (mset h 13 0 r2) _ e
    · refine zF_blk (m := []) (d := 0) (b := B197_5) (gs := [¬ (¬ r2 = (-1))]) (c' := (44, [some (22, 0)], [], (hc, (mset h 13 0 r2), o))) K197_5 rfl ⟨q4, trivial⟩ ?_
      obtain ⟨r3, q5, e⟩ := zB_s e
      refine zF_blk (m := []) (d := 0) (b := B197_2) (gs := []) (c' := (46, [some (22, 0)], [(0, 3), (22, 0)], (hc, (mset h 13 0 r2), o))) K197_2 rfl trivial ?_
      refine zF_call (k := 185) (cl := 12) (n := 2) (i := .invokevirtual 148) (args := [(22, 0), (0, 3)]) (rest := []) (g1 := (hc, r3.2, o)) (r1 := some (0, r3.1)) (by decide +kernel) rfl rfl rfl (st' := [(0, r3.1)]) rfl (S185 (Nat.le_trans (by decide) hd) 3 (mset h 13 0 r2) _ q5) ?_
      rcases zI_s e with ⟨q6, e⟩ | ⟨q6, e⟩
      · refine zF_blk (m := []) (d := 1) (b := B197_4) (gs := [r3.1 = 0]) (c' := (56, [some (22, 0)], [], (hc, r3.2, o))) K197_4 rfl ⟨q6, trivial⟩ ?_
        refine zF_blk (m := []) (d := 0) (b := B197_3) (gs := []) (c' := (57, [some (22, 0)], [(0, 0)], (hc, r3.2, o))) K197_3 rfl trivial ?_
        exact zF_rbM (by decide +kernel) (Or.inl rfl) e
      · refine zF_blk (m := []) (d := 0) (b := B197_4) (gs := [¬ (r3.1 = 0)]) (c' := (52, [some (22, 0)], [], (hc, r3.2, o))) K197_4 rfl ⟨q6, trivial⟩ ?_
        refine zF_blk (m := [false]) (d := 0) (b := []) (gs := []) (c' := (52, [none], [], (hc, r3.2, o))) rfl rfl trivial ?_
        exact T197_0 hd r3.2 _ e
  · refine zF_blk (m := []) (d := 0) (b := B197_7) (gs := [¬ (¬ r1 = 0)]) (c' := (7, [some (22, 0)], [], (hc, h, o))) K197_7 rfl ⟨q2, trivial⟩ ?_
    obtain ⟨r4, q7, e⟩ := zB_s e
    refine zF_blk (m := []) (d := 0) (b := B197_6) (gs := []) (c' := (9, [some (22, 0)], [(0, 1), (22, 0)], (hc, h, o))) K197_6 rfl trivial ?_
    refine zF_call (k := 185) (cl := 12) (n := 2) (i := .invokevirtual 148) (args := [(22, 0), (0, 1)]) (rest := []) (g1 := (hc, r4.2, o)) (r1 := some (0, r4.1)) (by decide +kernel) rfl rfl rfl (st' := [(0, r4.1)]) rfl (S185 (Nat.le_trans (by decide) hd) 1 h _ q7) ?_
    obtain ⟨q8, e⟩ := zG_s e
    exact zF_rbM (by decide +kernel) q8 e
def B195_0 : List zRow := [(0, .aload_n 0, 1, (0, 0, 0))]
theorem K195_0 : zRk 195 B195_0 = true := by decide +kernel
def B195_1 : List zRow := [(9, .aload_n 0, 1, (0, 0, 0))]
theorem K195_1 : zRk 195 B195_1 = true := by decide +kernel
def B195_2 : List zRow := [(13, .iconst 1, 1, (0, 0, 0))]
theorem K195_2 : zRk 195 B195_2 = true := by decide +kernel
def B195_3 : List zRow := [(7, .iconst 0, 1, (0, 0, 0))]
theorem K195_3 : zRk 195 B195_3 = true := by decide +kernel
def B195_4 : List zRow := [(4, .ifCond .ne 5, 3, (0, 0, 0))]
theorem K195_4 : zRk 195 B195_4 = true := by decide +kernel
/-- EchoValeModel.readCell()Z -/
def F195 (h : zHM) : Option (Int × zHM) := (F193 h).bind fun r1 => if ¬ r1.1 = 0 then (F176 r1.2).bind fun r2 => some (1, r2) else some (0, r1.2)
set_option maxRecDepth 100000 in
theorem S195 {spec : zRn zH2} {hc : zHC} {o : Int → Int} {d : Nat} (hd : 5 ≤ d) (h : zHM) (v : (Int × zHM)) (e : F195 h = some v) : zRu2 spec d 195 [(22, 0)] (hc, h, o) (some (0, v.1)) (hc, v.2, o) := by
  refine zF_in (D := 4) (mx := 1) (L := [some (22, 0)]) (by decide +kernel) rfl rfl hd (fun d hd => ?_)
  unfold F195 at e
  obtain ⟨r1, q1, e⟩ := zB_s e
  refine zF_blk (m := []) (d := 0) (b := B195_0) (gs := []) (c' := (1, [some (22, 0)], [(22, 0)], (hc, h, o))) K195_0 rfl trivial ?_
  refine zF_call (k := 193) (cl := 12) (n := 1) (i := .invokevirtual 183) (args := [(22, 0)]) (rest := []) (g1 := (hc, r1.2, o)) (r1 := some (0, r1.1)) (by decide +kernel) rfl rfl rfl (st' := [(0, r1.1)]) rfl (S193 (Nat.le_trans (by decide) hd)  h _ q1) ?_
  rcases zI_s e with ⟨q2, e⟩ | ⟨q2, e⟩
  · refine zF_blk (m := []) (d := 1) (b := B195_4) (gs := [¬ r1.1 = 0]) (c' := (9, [some (22, 0)], [], (hc, r1.2, o))) K195_4 rfl ⟨q2, trivial⟩ ?_
    obtain ⟨r2, q3, e⟩ := zB_s e
    refine zF_blk (m := []) (d := 0) (b := B195_1) (gs := []) (c' := (10, [some (22, 0)], [(22, 0)], (hc, r1.2, o))) K195_1 rfl trivial ?_
    refine zF_call (k := 176) (cl := 12) (n := 1) (i := .invokevirtual 162) (args := [(22, 0)]) (rest := []) (g1 := (hc, r2, o)) (r1 := none) (by decide +kernel) rfl rfl rfl (st' := []) rfl (S176 (Nat.le_trans (by decide) hd)  r1.2 _ q3) ?_
    refine zF_blk (m := []) (d := 0) (b := B195_2) (gs := []) (c' := (14, [some (22, 0)], [(0, 1)], (hc, r2, o))) K195_2 rfl trivial ?_
    exact zF_rbM (by decide +kernel) (Or.inr rfl) e
  · refine zF_blk (m := []) (d := 0) (b := B195_4) (gs := [¬ (¬ r1.1 = 0)]) (c' := (7, [some (22, 0)], [], (hc, r1.2, o))) K195_4 rfl ⟨q2, trivial⟩ ?_
    refine zF_blk (m := []) (d := 0) (b := B195_3) (gs := []) (c' := (8, [some (22, 0)], [(0, 0)], (hc, r1.2, o))) K195_3 rfl trivial ?_
    exact zF_rbM (by decide +kernel) (Or.inl rfl) e
