/-! Functions of the methods, by wip/gen/lift.py. -/
def B286_0 : List zRow := [(0, .iconst 4, 1, (0, 0, 0)), (1, .aload_n 0, 1, (0, 0, 0)), (2, .getfield 394, 3, (12, 46, 0))]
theorem K286_0 : zRk 286 B286_0 = true := by decide +kernel
def B286_1 : List zRow := [(5, .imul, 1, (0, 0, 0)), (6, .istore 5, 2, (0, 0, 0)), (8, .aload_n 0, 1, (0, 0, 0)), (9, .getfield 78, 3, (12, 45, 5243842)), (12, .iload 5, 2, (0, 0, 0)), (14, .iload_n 1, 1, (0, 0, 0)), (15, .iastore, 1, (0, 0, 0)), (16, .aload_n 0, 1, (0, 0, 0)), (17, .getfield 78, 3, (12, 45, 5243842)), (20, .iload 5, 2, (0, 0, 0)), (22, .iconst 1, 1, (0, 0, 0)), (23, .iadd, 1, (0, 0, 0)), (24, .iload_n 2, 1, (0, 0, 0)), (25, .iastore, 1, (0, 0, 0)), (26, .aload_n 0, 1, (0, 0, 0)), (27, .getfield 78, 3, (12, 45, 5243842)), (30, .iload 5, 2, (0, 0, 0)), (32, .iconst 2, 1, (0, 0, 0)), (33, .iadd, 1, (0, 0, 0)), (34, .iload_n 3, 1, (0, 0, 0)), (35, .iastore, 1, (0, 0, 0)), (36, .aload_n 0, 1, (0, 0, 0)), (37, .getfield 78, 3, (12, 45, 5243842)), (40, .iload 5, 2, (0, 0, 0)), (42, .iconst 3, 1, (0, 0, 0)), (43, .iadd, 1, (0, 0, 0)), (44, .iload 4, 2, (0, 0, 0)), (46, .iastore, 1, (0, 0, 0)), (47, .aload_n 0, 1, (0, 0, 0)), (48, .dup, 1, (0, 0, 0)), (49, .getfield 394, 3, (12, 46, 0)), (52, .iconst 1, 1, (0, 0, 0)), (53, .iadd, 1, (0, 0, 0)), (54, .putfield 394, 3, (12, 46, 0)), (57, .aload_n 0, 1, (0, 0, 0)), (58, .getfield 394, 3, (12, 46, 0)), (61, .iconst 1, 1, (0, 0, 0)), (62, .isub, 1, (0, 0, 0))]
theorem K286_1 : zRk 286 B286_1 = true := by decide +kernel
/-- EchoValeModel.saysOne(IIII)I -/
def F286 (v1 : Int) (v2 : Int) (v3 : Int) (v4 : Int) (h : zHM) : Option (Int × zHM) := zG (0 ≤ (wmul 4 (h 46 0)) ∧ (wmul 4 (h 46 0)) < 240) (zG (0 ≤ (wadd (wmul 4 (h 46 0)) 1) ∧ (wadd (wmul 4 (h 46 0)) 1) < 240) (zG (0 ≤ (wadd (wmul 4 (h 46 0)) 2) ∧ (wadd (wmul 4 (h 46 0)) 2) < 240) (zG (0 ≤ (wadd (wmul 4 (h 46 0)) 3) ∧ (wadd (wmul 4 (h 46 0)) 3) < 240) (some ((wsub (wadd (h 46 0) 1) 1), (mset (mset (mset (mset (mset h 45 (wmul 4 (h 46 0)) v1) 45 (wadd (wmul 4 (h 46 0)) 1) v2) 45 (wadd (wmul 4 (h 46 0)) 2) v3) 45 (wadd (wmul 4 (h 46 0)) 3) v4) 46 0 (wadd (h 46 0) 1)))))))
set_option maxRecDepth 100000 in
theorem S286 {spec : zRn zH2} {hc : zHC} {o : Int → Int} {d : Nat} (hd : 1 ≤ d) (v1 : Int) (v2 : Int) (v3 : Int) (v4 : Int) (h : zHM) (v : (Int × zHM)) (e : F286 v1 v2 v3 v4 h = some v) : zRu2 spec d 286 [(22, 0), (0, v1), (0, v2), (0, v3), (0, v4)] (hc, h, o) (some (0, v.1)) (hc, v.2, o) := by
  refine zF_in (D := 0) (mx := 6) (L := [some (22, 0), some (0, v1), some (0, v2), some (0, v3), some (0, v4), none]) (by decide +kernel) rfl rfl hd (fun d hd => ?_)
  unfold F286 at e
  obtain ⟨q1, e⟩ := zG_s e
  obtain ⟨q2, e⟩ := zG_s e
  obtain ⟨q3, e⟩ := zG_s e
  obtain ⟨q4, e⟩ := zG_s e
  refine zF_blk (m := []) (d := 0) (b := B286_0) (gs := []) (c' := (5, [some (22, 0), some (0, v1), some (0, v2), some (0, v3), some (0, v4), none], [(0, (h 46 0)), (0, 4)], (hc, h, o))) K286_0 rfl trivial ?_
  refine zF_blk (m := []) (d := 0) (b := B286_1) (gs := [0 ≤ (wmul 4 (h 46 0)) ∧ (wmul 4 (h 46 0)) < 240, 0 ≤ (wadd (wmul 4 (h 46 0)) 1) ∧ (wadd (wmul 4 (h 46 0)) 1) < 240, 0 ≤ (wadd (wmul 4 (h 46 0)) 2) ∧ (wadd (wmul 4 (h 46 0)) 2) < 240, 0 ≤ (wadd (wmul 4 (h 46 0)) 3) ∧ (wadd (wmul 4 (h 46 0)) 3) < 240]) (c' := (63, [some (22, 0), some (0, v1), some (0, v2), some (0, v3), some (0, v4), some (0, (wmul 4 (h 46 0)))], [(0, (wsub (wadd (h 46 0) 1) 1))], (hc, (mset (mset (mset (mset (mset h 45 (wmul 4 (h 46 0)) v1) 45 (wadd (wmul 4 (h 46 0)) 1) v2) 45 (wadd (wmul 4 (h 46 0)) 2) v3) 45 (wadd (wmul 4 (h 46 0)) 3) v4) 46 0 (wadd (h 46 0) 1)), o))) K286_1 rfl ⟨q1, q2, q3, q4, trivial⟩ ?_
  exact zF_riM (by decide +kernel) e
def B288_0 : List zRow := [(0, .aload_n 0, 1, (0, 0, 0)), (1, .bipush 60, 2, (0, 0, 0))]
theorem K288_0 : zRk 288 B288_0 = true := by decide +kernel
def B288_1 : List zRow := [(9, .aload_n 0, 1, (0, 0, 0)), (10, .bipush 61, 2, (0, 0, 0))]
theorem K288_1 : zRk 288 B288_1 = true := by decide +kernel
def B288_2 : List zRow := [(18, .aload_n 0, 1, (0, 0, 0)), (19, .bipush 62, 2, (0, 0, 0))]
theorem K288_2 : zRk 288 B288_2 = true := by decide +kernel
def B288_3 : List zRow := [(27, .aload_n 0, 1, (0, 0, 0)), (28, .iconst 1, 1, (0, 0, 0))]
theorem K288_3 : zRk 288 B288_3 = true := by decide +kernel
def B288_4 : List zRow := [(24, .ifCond .ne 9, 3, (0, 0, 0))]
theorem K288_4 : zRk 288 B288_4 = true := by decide +kernel
def B288_5 : List zRow := [(15, .ifCond .ne 18, 3, (0, 0, 0))]
theorem K288_5 : zRk 288 B288_5 = true := by decide +kernel
def B288_6 : List zRow := [(6, .ifCond .ne 27, 3, (0, 0, 0))]
theorem K288_6 : zRk 288 B288_6 = true := by decide +kernel
def B288_7 : List zRow := [(33, .aload_n 0, 1, (0, 0, 0)), (34, .getfield 117, 3, (12, 9, 0)), (37, .istore_n 2, 1, (0, 0, 0)), (38, .aload_n 0, 1, (0, 0, 0))]
theorem K288_7 : zRk 288 B288_7 = true := by decide +kernel
def B288_8 : List zRow := [(42, .aload_n 0, 1, (0, 0, 0)), (43, .iconst 0, 1, (0, 0, 0)), (44, .sipush 999, 3, (0, 0, 0))]
theorem K288_8 : zRk 288 B288_8 = true := by decide +kernel
def B288_9 : List zRow := [(55, .aload_n 0, 1, (0, 0, 0)), (56, .aload_n 0, 1, (0, 0, 0)), (57, .bipush 50, 2, (0, 0, 0)), (59, .iload_n 1, 1, (0, 0, 0))]
theorem K288_9 : zRk 288 B288_9 = true := by decide +kernel
def B288_10 : List zRow := [(60, .iadd, 1, (0, 0, 0)), (61, .iconst 0, 1, (0, 0, 0)), (62, .aload_n 0, 1, (0, 0, 0)), (63, .getfield 155, 3, (12, 13, 0)), (66, .iload_n 2, 1, (0, 0, 0))]
theorem K288_10 : zRk 288 B288_10 = true := by decide +kernel
def B288_11 : List zRow := [(70, .putfield 400, 3, (12, 49, 0)), (73, .iconst 1, 1, (0, 0, 0))]
theorem K288_11 : zRk 288 B288_11 = true := by decide +kernel
def B288_12 : List zRow := [(53, .iconst 0, 1, (0, 0, 0))]
theorem K288_12 : zRk 288 B288_12 = true := by decide +kernel
def B288_13 : List zRow := [(50, .ifCond .ne 5, 3, (0, 0, 0))]
theorem K288_13 : zRk 288 B288_13 = true := by decide +kernel
def F288_0 (v1 : Int) (h : zHM) : Option (Int × zHM) := (F176 h).bind fun r1 => (F186 0 999 r1).bind fun r2 => if ¬ r2.1 = 0 then (F286 (wadd 50 v1) 0 (r2.2 13 0) (h 9 0) r2.2).bind fun r3 => some (1, (mset r3.2 49 0 r3.1)) else some (0, r2.2)
set_option maxRecDepth 100000 in
theorem T288_0 {spec : zRn zH2} {hc : zHC} {o : Int → Int} {d : Nat} (hd : 3 ≤ d) (v1 : Int) (h : zHM) (v : (Int × zHM)) (e : F288_0 v1 h = some v) : zFin 0 (fun _ => 0) (zRu2 spec d) 288 (some (0, v.1)) (hc, v.2, o) (33, [some (22, 0), some (0, v1), none], [], (hc, h, o)) := by
  unfold F288_0 at e
  obtain ⟨r1, q1, e⟩ := zB_s e
  refine zF_blk (m := []) (d := 0) (b := B288_7) (gs := []) (c' := (39, [some (22, 0), some (0, v1), some (0, (h 9 0))], [(22, 0)], (hc, h, o))) K288_7 rfl trivial ?_
  refine zF_call (k := 176) (cl := 12) (n := 1) (i := .invokevirtual 162) (args := [(22, 0)]) (rest := []) (g1 := (hc, r1, o)) (r1 := none) (by decide +kernel) rfl rfl rfl (st' := []) rfl (S176 (Nat.le_trans (by decide) hd)  h _ q1) ?_
  obtain ⟨r2, q2, e⟩ := zB_s e
  refine zF_blk (m := []) (d := 0) (b := B288_8) (gs := []) (c' := (47, [some (22, 0), some (0, v1), some (0, (h 9 0))], [(0, 999), (0, 0), (22, 0)], (hc, r1, o))) K288_8 rfl trivial ?_
  refine zF_call (k := 186) (cl := 12) (n := 3) (i := .invokevirtual 180) (args := [(22, 0), (0, 0), (0, 999)]) (rest := []) (g1 := (hc, r2.2, o)) (r1 := some (0, r2.1)) (by decide +kernel) rfl rfl rfl (st' := [(0, r2.1)]) rfl (S186 (Nat.le_trans (by decide) hd) 0 999 r1 _ q2) ?_
  rcases zI_s e with ⟨q3, e⟩ | ⟨q3, e⟩
  · refine zF_blk (m := []) (d := 1) (b := B288_13) (gs := [¬ r2.1 = 0]) (c' := (55, [some (22, 0), some (0, v1), some (0, (h 9 0))], [], (hc, r2.2, o))) K288_13 rfl ⟨q3, trivial⟩ ?_
    refine zF_blk (m := []) (d := 0) (b := B288_9) (gs := []) (c' := (60, [some (22, 0), some (0, v1), some (0, (h 9 0))], [(0, v1), (0, 50), (22, 0), (22, 0)], (hc, r2.2, o))) K288_9 rfl trivial ?_
    obtain ⟨r3, q4, e⟩ := zB_s e
    refine zF_blk (m := []) (d := 0) (b := B288_10) (gs := []) (c' := (67, [some (22, 0), some (0, v1), some (0, (h 9 0))], [(0, (h 9 0)), (0, (r2.2 13 0)), (0, 0), (0, (wadd 50 v1)), (22, 0), (22, 0)], (hc, r2.2, o))) K288_10 rfl trivial ?_
    refine zF_call (k := 286) (cl := 12) (n := 5) (i := .invokevirtual 403) (args := [(22, 0), (0, (wadd 50 v1)), (0, 0), (0, (r2.2 13 0)), (0, (h 9 0))]) (rest := [(22, 0)]) (g1 := (hc, r3.2, o)) (r1 := some (0, r3.1)) (by decide +kernel) rfl rfl rfl (st' := [(0, r3.1), (22, 0)]) rfl (S286 (Nat.le_trans (by decide) hd) (wadd 50 v1) 0 (r2.2 13 0) (h 9 0) r2.2 _ q4) ?_
    refine zF_blk (m := []) (d := 0) (b := B288_11) (gs := []) (c' := (74, [some (22, 0), some (0, v1), some (0, (h 9 0))], [(0, 1)], (hc, (mset r3.2 49 0 r3.1), o))) K288_11 rfl trivial ?_
    exact zF_rbM (by decide +kernel) (Or.inr rfl) e
  · refine zF_blk (m := []) (d := 0) (b := B288_13) (gs := [¬ (¬ r2.1 = 0)]) (c' := (53, [some (22, 0), some (0, v1), some (0, (h 9 0))], [], (hc, r2.2, o))) K288_13 rfl ⟨q3, trivial⟩ ?_
    refine zF_blk (m := []) (d := 0) (b := B288_12) (gs := []) (c' := (54, [some (22, 0), some (0, v1), some (0, (h 9 0))], [(0, 0)], (hc, r2.2, o))) K288_12 rfl trivial ?_
    exact zF_rbM (by decide +kernel) (Or.inl rfl) e
/-- EchoValeModel.readCompare(I)Z -/
def F288 (v1 : Int) (h : zHM) : Option (Int × zHM) := (F202 60 h).bind fun r1 => if ¬ r1 = 0 then F288_0 v1 h else (F202 61 h).bind fun r2 => if ¬ r2 = 0 then F288_0 v1 h else (F202 62 h).bind fun r3 => if ¬ r3 = 0 then F288_0 v1 h else (F185 1 h).bind fun r4 => zG (r4.1 = 0 ∨ r4.1 = 1) (some (r4.1, r4.2))
set_option maxRecDepth 100000 in
theorem S288 {spec : zRn zH2} {hc : zHC} {o : Int → Int} {d : Nat} (hd : 4 ≤ d) (v1 : Int) (h : zHM) (v : (Int × zHM)) (e : F288 v1 h = some v) : zRu2 spec d 288 [(22, 0), (0, v1)] (hc, h, o) (some (0, v.1)) (hc, v.2, o) := by
  refine zF_in (D := 3) (mx := 3) (L := [some (22, 0), some (0, v1), none]) (by decide +kernel) rfl rfl hd (fun d hd => ?_)
  unfold F288 at e
  obtain ⟨r1, q1, e⟩ := zB_s e
  refine zF_blk (m := []) (d := 0) (b := B288_0) (gs := []) (c' := (3, [some (22, 0), some (0, v1), none], [(0, 60), (22, 0)], (hc, h, o))) K288_0 rfl trivial ?_
  refine zF_call (k := 202) (cl := 12) (n := 2) (i := .invokevirtual 165) (args := [(22, 0), (0, 60)]) (rest := []) (g1 := (hc, h, o)) (r1 := some (0, r1)) (by decide +kernel) rfl rfl rfl (st' := [(0, r1)]) rfl (S202 (Nat.le_trans (by decide) hd) 60 h _ q1) ?_
  rcases zI_s e with ⟨q2, e⟩ | ⟨q2, e⟩
  · refine zF_blk (m := []) (d := 1) (b := B288_6) (gs := [¬ r1 = 0]) (c' := (33, [some (22, 0), some (0, v1), none], [], (hc, h, o))) K288_6 rfl ⟨q2, trivial⟩ ?_
    exact T288_0 hd v1 h _ e
  · refine zF_blk (m := []) (d := 0) (b := B288_6) (gs := [¬ (¬ r1 = 0)]) (c' := (9, [some (22, 0), some (0, v1), none], [], (hc, h, o))) K288_6 rfl ⟨q2, trivial⟩ ?_
    obtain ⟨r2, q3, e⟩ := zB_s e
    refine zF_blk (m := []) (d := 0) (b := B288_1) (gs := []) (c' := (12, [some (22, 0), some (0, v1), none], [(0, 61), (22, 0)], (hc, h, o))) K288_1 rfl trivial ?_
    refine zF_call (k := 202) (cl := 12) (n := 2) (i := .invokevirtual 165) (args := [(22, 0), (0, 61)]) (rest := []) (g1 := (hc, h, o)) (r1 := some (0, r2)) (by decide +kernel) rfl rfl rfl (st' := [(0, r2)]) rfl (S202 (Nat.le_trans (by decide) hd) 61 h _ q3) ?_
    rcases zI_s e with ⟨q4, e⟩ | ⟨q4, e⟩
    · refine zF_blk (m := []) (d := 1) (b := B288_5) (gs := [¬ r2 = 0]) (c' := (33, [some (22, 0), some (0, v1), none], [], (hc, h, o))) K288_5 rfl ⟨q4, trivial⟩ ?_
      exact T288_0 hd v1 h _ e
    · refine zF_blk (m := []) (d := 0) (b := B288_5) (gs := [¬ (¬ r2 = 0)]) (c' := (18, [some (22, 0), some (0, v1), none], [], (hc, h, o))) K288_5 rfl ⟨q4, trivial⟩ ?_
      obtain ⟨r3, q5, e⟩ := zB_s e
      refine zF_blk (m := []) (d := 0) (b := B288_2) (gs := []) (c' := (21, [some (22, 0), some (0, v1), none], [(0, 62), (22, 0)], (hc, h, o))) K288_2 rfl trivial ?_
      refine zF_call (k := 202) (cl := 12) (n := 2) (i := .invokevirtual 165) (args := [(22, 0), (0, 62)]) (rest := []) (g1 := (hc, h, o)) (r1 := some (0, r3)) (by decide +kernel) rfl rfl rfl (st' := [(0, r3)]) rfl (S202 (Nat.le_trans (by decide) hd) 62 h _ q5) ?_
      rcases zI_s e with ⟨q6, e⟩ | ⟨q6, e⟩
      · refine zF_blk (m := []) (d := 1) (b := B288_4) (gs := [¬ r3 = 0]) (c' := (33, [some (22, 0), some (0, v1), none], [], (hc, h, o))) K288_4 rfl ⟨q6, trivial⟩ ?_
        exact T288_0 hd v1 h _ e
      · refine zF_blk (m := []) (d := 0) (b := B288_4) (gs := [¬ (¬ r3 = 0)]) (c' := (27, [some (22, 0), some (0, v1), none], [], (hc, h, o))) K288_4 rfl ⟨q6, trivial⟩ ?_
        obtain ⟨r4, q7, e⟩ := zB_s e
        refine zF_blk (m := []) (d := 0) (b := B288_3) (gs := []) (c' := (29, [some (22, 0), some (0, v1), none], [(0, 1), (22, 0)], (hc, h, o))) K288_3 rfl trivial ?_
        refine zF_call (k := 185) (cl := 12) (n := 2) (i := .invokevirtual 148) (args := [(22, 0), (0, 1)]) (rest := []) (g1 := (hc, r4.2, o)) (r1 := some (0, r4.1)) (by decide +kernel) rfl rfl rfl (st' := [(0, r4.1)]) rfl (S185 (Nat.le_trans (by decide) hd) 1 h _ q7) ?_
        obtain ⟨q8, e⟩ := zG_s e
        exact zF_rbM (by decide +kernel) q8 e
def B287_0 : List zRow := [(0, .aload_n 0, 1, (0, 0, 0))]
theorem K287_0 : zRk 287 B287_0 = true := by decide +kernel
def B287_1 : List zRow := [(13, .aload_n 0, 1, (0, 0, 0)), (14, .getfield 28, 3, (12, 19, 5505074)), (17, .bipush 6, 2, (0, 0, 0)), (19, .aload_n 0, 1, (0, 0, 0)), (20, .getfield 13, 3, (12, 14, 5251442)), (23, .iconst 3, 1, (0, 0, 0)), (24, .iaload, 1, (0, 0, 0)), (25, .aload_n 0, 1, (0, 0, 0)), (26, .getfield 120, 3, (12, 12, 1))]
theorem K287_1 : zRk 287 B287_1 = true := by decide +kernel
def B287_2 : List zRow := [(44, .aload_n 0, 1, (0, 0, 0)), (45, .aload_n 0, 1, (0, 0, 0)), (46, .bipush 50, 2, (0, 0, 0)), (48, .iload_n 1, 1, (0, 0, 0))]
theorem K287_2 : zRk 287 B287_2 = true := by decide +kernel
def B287_3 : List zRow := [(49, .iadd, 1, (0, 0, 0)), (50, .iload_n 2, 1, (0, 0, 0)), (51, .iconst 0, 1, (0, 0, 0)), (52, .iconst 0, 1, (0, 0, 0))]
theorem K287_3 : zRk 287 B287_3 = true := by decide +kernel
def B287_4 : List zRow := [(56, .putfield 400, 3, (12, 49, 0)), (59, .aload_n 0, 1, (0, 0, 0))]
theorem K287_4 : zRk 287 B287_4 = true := by decide +kernel
def B287_5 : List zRow := [(63, .iconst 1, 1, (0, 0, 0))]
theorem K287_5 : zRk 287 B287_5 = true := by decide +kernel
def B287_6 : List zRow := [(38, .aload_n 0, 1, (0, 0, 0)), (39, .iconst 3, 1, (0, 0, 0))]
theorem K287_6 : zRk 287 B287_6 = true := by decide +kernel
def B287_7 : List zRow := [(32, .istore_n 2, 1, (0, 0, 0)), (33, .iload_n 2, 1, (0, 0, 0)), (34, .iconst (-1), 1, (0, 0, 0)), (35, .if_icmp .ne 9, 3, (0, 0, 0))]
theorem K287_7 : zRk 287 B287_7 = true := by decide +kernel
def B287_8 : List zRow := [(7, .aload_n 0, 1, (0, 0, 0)), (8, .iconst 1, 1, (0, 0, 0))]
theorem K287_8 : zRk 287 B287_8 = true := by decide +kernel
def B287_9 : List zRow := [(4, .ifCond .ne 9, 3, (0, 0, 0))]
theorem K287_9 : zRk 287 B287_9 = true := by decide +kernel
/-- EchoValeModel.readOf(I)Z -/
def F287 (v1 : Int) (h : zHM) : Option (Int × zHM) := (F191 h).bind fun r1 => if ¬ r1 = 0 then (F192b 6 (h 14 3) (h 12 0) h).bind fun r2 => if ¬ r2 = (-1) then (F286 (wadd 50 v1) r2 0 0 h).bind fun r3 => (F176 (mset r3.2 49 0 r3.1)).bind fun r4 => some (1, r4) else (F185 3 h).bind fun r5 => zG (r5.1 = 0 ∨ r5.1 = 1) (some (r5.1, r5.2)) else (F185 1 h).bind fun r6 => zG (r6.1 = 0 ∨ r6.1 = 1) (some (r6.1, r6.2))
set_option maxRecDepth 100000 in
theorem S287 {spec : zRn zH2} {hc : zHC} {o : Int → Int} {d : Nat} (hd : 4 ≤ d) (v1 : Int) (h : zHM) (v : (Int × zHM)) (e : F287 v1 h = some v) : zRu2 spec d 287 [(22, 0), (0, v1)] (hc, h, o) (some (0, v.1)) (hc, v.2, o) := by
  refine zF_in (D := 3) (mx := 3) (L := [some (22, 0), some (0, v1), none]) (by decide +kernel) rfl rfl hd (fun d hd => ?_)
  unfold F287 at e
  obtain ⟨r1, q1, e⟩ := zB_s e
  refine zF_blk (m := []) (d := 0) (b := B287_0) (gs := []) (c' := (1, [some (22, 0), some (0, v1), none], [(22, 0)], (hc, h, o))) K287_0 rfl trivial ?_
  refine zF_call (k := 191) (cl := 12) (n := 1) (i := .invokevirtual 172) (args := [(22, 0)]) (rest := []) (g1 := (hc, h, o)) (r1 := some (0, r1)) (by decide +kernel) rfl rfl rfl (st' := [(0, r1)]) rfl (S191 (Nat.le_trans (by decide) hd)  h _ q1) ?_
  rcases zI_s e with ⟨q2, e⟩ | ⟨q2, e⟩
  · refine zF_blk (m := []) (d := 1) (b := B287_9) (gs := [¬ r1 = 0]) (c' := (13, [some (22, 0), some (0, v1), none], [], (hc, h, o))) K287_9 rfl ⟨q2, trivial⟩ ?_
    obtain ⟨r2, q3, e⟩ := zB_s e
    refine zF_blk (m := []) (d := 0) (b := B287_1) (gs := [0 ≤ 3 ∧ 3 < 2140]) (c' := (29, [some (22, 0), some (0, v1), none], [(1, (h 12 0)), (0, (h 14 3)), (0, 6), (1409300219, 0)], (hc, h, o))) K287_1 rfl ⟨by decide, trivial⟩ ?_
    refine zF_call (k := 192) (cl := 12) (n := 4) (i := .invokestatic 176) (args := [(1409300219, 0), (0, 6), (0, (h 14 3)), (1, (h 12 0))]) (rest := []) (g1 := (hc, h, o)) (r1 := some (0, r2)) (by decide +kernel) rfl rfl rfl (st' := [(0, r2)]) rfl (S192b (Nat.le_trans (by decide) hd) 6 (h 14 3) (h 12 0) h _ q3) ?_
    rcases zI_s e with ⟨q4, e⟩ | ⟨q4, e⟩
    · refine zF_blk (m := []) (d := 1) (b := B287_7) (gs := [¬ r2 = (-1)]) (c' := (44, [some (22, 0), some (0, v1), some (0, r2)], [], (hc, h, o))) K287_7 rfl ⟨q4, trivial⟩ ?_
      refine zF_blk (m := []) (d := 0) (b := B287_2) (gs := []) (c' := (49, [some (22, 0), some (0, v1), some (0, r2)], [(0, v1), (0, 50), (22, 0), (22, 0)], (hc, h, o))) K287_2 rfl trivial ?_
      obtain ⟨r3, q5, e⟩ := zB_s e
      refine zF_blk (m := []) (d := 0) (b := B287_3) (gs := []) (c' := (53, [some (22, 0), some (0, v1), some (0, r2)], [(0, 0), (0, 0), (0, r2), (0, (wadd 50 v1)), (22, 0), (22, 0)], (hc, h, o))) K287_3 rfl trivial ?_
      refine zF_call (k := 286) (cl := 12) (n := 5) (i := .invokevirtual 403) (args := [(22, 0), (0, (wadd 50 v1)), (0, r2), (0, 0), (0, 0)]) (rest := [(22, 0)]) (g1 := (hc, r3.2, o)) (r1 := some (0, r3.1)) (by decide +kernel) rfl rfl rfl (st' := [(0, r3.1), (22, 0)]) rfl (S286 (Nat.le_trans (by decide) hd) (wadd 50 v1) r2 0 0 h _ q5) ?_
      obtain ⟨r4, q6, e⟩ := zB_s e
      refine zF_blk (m := []) (d := 0) (b := B287_4) (gs := []) (c' := (60, [some (22, 0), some (0, v1), some (0, r2)], [(22, 0)], (hc, (mset r3.2 49 0 r3.1), o))) K287_4 rfl trivial ?_
      refine zF_call (k := 176) (cl := 12) (n := 1) (i := .invokevirtual 162) (args := [(22, 0)]) (rest := []) (g1 := (hc, r4, o)) (r1 := none) (by decide +kernel) rfl rfl rfl (st' := []) rfl (S176 (Nat.le_trans (by decide) hd)  (mset r3.2 49 0 r3.1) _ q6) ?_
      refine zF_blk (m := []) (d := 0) (b := B287_5) (gs := []) (c' := (64, [some (22, 0), some (0, v1), some (0, r2)], [(0, 1)], (hc, r4, o))) K287_5 rfl trivial ?_
      exact zF_rbM (by decide +kernel) (Or.inr rfl) e
    · refine zF_blk (m := []) (d := 0) (b := B287_7) (gs := [¬ (¬ r2 = (-1))]) (c' := (38, [some (22, 0), some (0, v1), some (0, r2)], [], (hc, h, o))) K287_7 rfl ⟨q4, trivial⟩ ?_
      obtain ⟨r5, q7, e⟩ := zB_s e
      refine zF_blk (m := []) (d := 0) (b := B287_6) (gs := []) (c' := (40, [some (22, 0), some (0, v1), some (0, r2)], [(0, 3), (22, 0)], (hc, h, o))) K287_6 rfl trivial ?_
      refine zF_call (k := 185) (cl := 12) (n := 2) (i := .invokevirtual 148) (args := [(22, 0), (0, 3)]) (rest := []) (g1 := (hc, r5.2, o)) (r1 := some (0, r5.1)) (by decide +kernel) rfl rfl rfl (st' := [(0, r5.1)]) rfl (S185 (Nat.le_trans (by decide) hd) 3 h _ q7) ?_
      obtain ⟨q8, e⟩ := zG_s e
      exact zF_rbM (by decide +kernel) q8 e
  · refine zF_blk (m := []) (d := 0) (b := B287_9) (gs := [¬ (¬ r1 = 0)]) (c' := (7, [some (22, 0), some (0, v1), none], [], (hc, h, o))) K287_9 rfl ⟨q2, trivial⟩ ?_
    obtain ⟨r6, q9, e⟩ := zB_s e
    refine zF_blk (m := []) (d := 0) (b := B287_8) (gs := []) (c' := (9, [some (22, 0), some (0, v1), none], [(0, 1), (22, 0)], (hc, h, o))) K287_8 rfl trivial ?_
    refine zF_call (k := 185) (cl := 12) (n := 2) (i := .invokevirtual 148) (args := [(22, 0), (0, 1)]) (rest := []) (g1 := (hc, r6.2, o)) (r1 := some (0, r6.1)) (by decide +kernel) rfl rfl rfl (st' := [(0, r6.1)]) rfl (S185 (Nat.le_trans (by decide) hd) 1 h _ q9) ?_
    obtain ⟨q10, e⟩ := zG_s e
    exact zF_rbM (by decide +kernel) q10 e
def B285_0 : List zRow := [(0, .aload_n 0, 1, (0, 0, 0))]
theorem K285_0 : zRk 285 B285_0 = true := by decide +kernel
def B285_1 : List zRow := [(9, .aload_n 0, 1, (0, 0, 0)), (10, .aload_n 0, 1, (0, 0, 0)), (11, .iconst 1, 1, (0, 0, 0)), (12, .aload_n 0, 1, (0, 0, 0)), (13, .getfield 400, 3, (12, 49, 0)), (16, .iconst 0, 1, (0, 0, 0)), (17, .iconst 0, 1, (0, 0, 0))]
theorem K285_1 : zRk 285 B285_1 = true := by decide +kernel
def B285_2 : List zRow := [(21, .putfield 400, 3, (12, 49, 0)), (24, .iconst 1, 1, (0, 0, 0))]
theorem K285_2 : zRk 285 B285_2 = true := by decide +kernel
def B285_3 : List zRow := [(7, .iconst 0, 1, (0, 0, 0))]
theorem K285_3 : zRk 285 B285_3 = true := by decide +kernel
def B285_4 : List zRow := [(4, .ifCond .ne 5, 3, (0, 0, 0))]
theorem K285_4 : zRk 285 B285_4 = true := by decide +kernel
/-- EchoValeModel.readNot()Z -/
def F285 (kR : zHM → Option (Int × zHM)) (h : zHM) : Option (Int × zHM) := (kR h).bind fun r1 => if ¬ r1.1 = 0 then (F286 1 (r1.2 49 0) 0 0 r1.2).bind fun r2 => some (1, (mset r2.2 49 0 r2.1)) else some (0, r1.2)
set_option maxRecDepth 100000 in
theorem S285 {spec : zRn zH2} {hc : zHC} {o : Int → Int} {d : Nat} {DR : Nat} (hd : DR + 2 ≤ d) (kR : zHM → Option (Int × zHM)) (hkR : ∀ (d' : Nat), DR ≤ d' → ∀ (h : zHM) (v : (Int × zHM)), kR h = some v → zRu2 spec d' 283 [(22, 0)] (hc, h, o) (some (0, v.1)) (hc, v.2, o)) (h : zHM) (v : (Int × zHM)) (e : F285 kR h = some v) : zRu2 spec d 285 [(22, 0)] (hc, h, o) (some (0, v.1)) (hc, v.2, o) := by
  refine zF_in (D := DR + 1) (mx := 1) (L := [some (22, 0)]) (by decide +kernel) rfl rfl hd (fun d hd => ?_)
  unfold F285 at e
  obtain ⟨r1, q1, e⟩ := zB_s e
  refine zF_blk (m := []) (d := 0) (b := B285_0) (gs := []) (c' := (1, [some (22, 0)], [(22, 0)], (hc, h, o))) K285_0 rfl trivial ?_
  refine zF_call (k := 283) (cl := 12) (n := 1) (i := .invokevirtual 407) (args := [(22, 0)]) (rest := []) (g1 := (hc, r1.2, o)) (r1 := some (0, r1.1)) (by decide +kernel) rfl rfl rfl (st' := [(0, r1.1)]) rfl (hkR _ (by omega)  h _ q1) ?_
  rcases zI_s e with ⟨q2, e⟩ | ⟨q2, e⟩
  · refine zF_blk (m := []) (d := 1) (b := B285_4) (gs := [¬ r1.1 = 0]) (c' := (9, [some (22, 0)], [], (hc, r1.2, o))) K285_4 rfl ⟨q2, trivial⟩ ?_
    obtain ⟨r2, q3, e⟩ := zB_s e
    refine zF_blk (m := []) (d := 0) (b := B285_1) (gs := []) (c' := (18, [some (22, 0)], [(0, 0), (0, 0), (0, (r1.2 49 0)), (0, 1), (22, 0), (22, 0)], (hc, r1.2, o))) K285_1 rfl trivial ?_
    refine zF_call (k := 286) (cl := 12) (n := 5) (i := .invokevirtual 403) (args := [(22, 0), (0, 1), (0, (r1.2 49 0)), (0, 0), (0, 0)]) (rest := [(22, 0)]) (g1 := (hc, r2.2, o)) (r1 := some (0, r2.1)) (by decide +kernel) rfl rfl rfl (st' := [(0, r2.1), (22, 0)]) rfl (S286 (by omega) 1 (r1.2 49 0) 0 0 r1.2 _ q3) ?_
    refine zF_blk (m := []) (d := 0) (b := B285_2) (gs := []) (c' := (25, [some (22, 0)], [(0, 1)], (hc, (mset r2.2 49 0 r2.1), o))) K285_2 rfl trivial ?_
    exact zF_rbM (by decide +kernel) (Or.inr rfl) e
  · refine zF_blk (m := []) (d := 0) (b := B285_4) (gs := [¬ (¬ r1.1 = 0)]) (c' := (7, [some (22, 0)], [], (hc, r1.2, o))) K285_4 rfl ⟨q2, trivial⟩ ?_
    refine zF_blk (m := []) (d := 0) (b := B285_3) (gs := []) (c' := (8, [some (22, 0)], [(0, 0)], (hc, r1.2, o))) K285_3 rfl trivial ?_
    exact zF_rbM (by decide +kernel) (Or.inl rfl) e
def B282b_0 : List zRow := [(0, .aload_n 0, 1, (0, 0, 0))]
theorem K282b_0 : zRk 282 B282b_0 = true := by decide +kernel
def B282b_1 : List zRow := [(9, .aload_n 0, 1, (0, 0, 0)), (10, .getfield 400, 3, (12, 49, 0)), (13, .istore_n 1, 1, (0, 0, 0))]
theorem K282b_1 : zRk 282 B282b_1 = true := by decide +kernel
def B282b_2 : List zRow := [(7, .iconst 0, 1, (0, 0, 0))]
theorem K282b_2 : zRk 282 B282b_2 = true := by decide +kernel
def B282b_3 : List zRow := [(4, .ifCond .ne 5, 3, (0, 0, 0))]
theorem K282b_3 : zRk 282 B282b_3 = true := by decide +kernel
def B282b_4 : List zRow := [(14, .aload_n 0, 1, (0, 0, 0)), (15, .bipush 11, 2, (0, 0, 0))]
theorem K282b_4 : zRk 282 B282b_4 = true := by decide +kernel
def B282b_5 : List zRow := [(51, .aload_n 0, 1, (0, 0, 0)), (52, .iload_n 1, 1, (0, 0, 0)), (53, .putfield 400, 3, (12, 49, 0)), (56, .iconst 1, 1, (0, 0, 0))]
theorem K282b_5 : zRk 282 B282b_5 = true := by decide +kernel
def B282b_6 : List zRow := [(23, .aload_n 0, 1, (0, 0, 0))]
theorem K282b_6 : zRk 282 B282b_6 = true := by decide +kernel
def B282b_7 : List zRow := [(27, .aload_n 0, 1, (0, 0, 0))]
theorem K282b_7 : zRk 282 B282b_7 = true := by decide +kernel
def B282b_8 : List zRow := [(36, .aload_n 0, 1, (0, 0, 0)), (37, .iconst 2, 1, (0, 0, 0)), (38, .iload_n 1, 1, (0, 0, 0)), (39, .aload_n 0, 1, (0, 0, 0)), (40, .getfield 400, 3, (12, 49, 0)), (43, .iconst 0, 1, (0, 0, 0))]
theorem K282b_8 : zRk 282 B282b_8 = true := by decide +kernel
def B282b_9 : List zRow := [(47, .istore_n 1, 1, (0, 0, 0)), (48, .goto (-34), 3, (0, 0, 0))]
theorem K282b_9 : zRk 282 B282b_9 = true := by decide +kernel
def B282b_10 : List zRow := [(34, .iconst 0, 1, (0, 0, 0))]
theorem K282b_10 : zRk 282 B282b_10 = true := by decide +kernel
def B282b_11 : List zRow := [(31, .ifCond .ne 5, 3, (0, 0, 0))]
theorem K282b_11 : zRk 282 B282b_11 = true := by decide +kernel
def B282b_12 : List zRow := [(20, .ifCond .eq 31, 3, (0, 0, 0))]
theorem K282b_12 : zRk 282 B282b_12 = true := by decide +kernel
def F282b_0 (kR : zHM → Option (Int × zHM)) : Nat → Int → zHM → Option (Int × zHM)
  | 0, _, _ => none
  | n + 1, v1, h => (F181 11 h).bind fun r1 => if r1 = 0 then some (1, (mset h 49 0 v1)) else (F176 h).bind fun r2 => (kR r2).bind fun r3 => if ¬ r3.1 = 0 then (F286 2 v1 (r3.2 49 0) 0 r3.2).bind fun r4 => (F282b_0 kR n) r4.1 r4.2 else some (0, r3.2)
set_option maxRecDepth 100000 in
theorem T282b_0 {spec : zRn zH2} {hc : zHC} {o : Int → Int} {d : Nat} {DR : Nat} (hd : DR + 3 ≤ d) (kR : zHM → Option (Int × zHM)) (hkR : ∀ (d' : Nat), DR ≤ d' → ∀ (h : zHM) (v : (Int × zHM)), kR h = some v → zRu2 spec d' 283 [(22, 0)] (hc, h, o) (some (0, v.1)) (hc, v.2, o)) : ∀ (n : Nat) (v1 : Int) (h : zHM) (v : (Int × zHM)), F282b_0 kR n v1 h = some v → zFin 0 (fun _ => 0) (zRu2 spec d) 282 (some (0, v.1)) (hc, v.2, o) (14, [some (22, 0), some (0, v1)], [], (hc, h, o)) := by
  intro n
  induction n with
  | zero => intro v1 h v e; unfold F282b_0 at e; cases e
  | succ n hk0 =>
    intro v1 h v e
    unfold F282b_0 at e
    obtain ⟨r1, q1, e⟩ := zB_s e
    refine zF_blk (m := []) (d := 0) (b := B282b_4) (gs := []) (c' := (17, [some (22, 0), some (0, v1)], [(0, 11), (22, 0)], (hc, h, o))) K282b_4 rfl trivial ?_
    refine zF_call (k := 181) (cl := 12) (n := 2) (i := .invokevirtual 199) (args := [(22, 0), (0, 11)]) (rest := []) (g1 := (hc, h, o)) (r1 := some (0, r1)) (by decide +kernel) rfl rfl rfl (st' := [(0, r1)]) rfl (S181 (by omega) 11 h _ q1) ?_
    rcases zI_s e with ⟨q2, e⟩ | ⟨q2, e⟩
    · refine zF_blk (m := []) (d := 1) (b := B282b_12) (gs := [r1 = 0]) (c' := (51, [some (22, 0), some (0, v1)], [], (hc, h, o))) K282b_12 rfl ⟨q2, trivial⟩ ?_
      refine zF_blk (m := []) (d := 0) (b := B282b_5) (gs := []) (c' := (57, [some (22, 0), some (0, v1)], [(0, 1)], (hc, (mset h 49 0 v1), o))) K282b_5 rfl trivial ?_
      exact zF_rbM (by decide +kernel) (Or.inr rfl) e
    · refine zF_blk (m := []) (d := 0) (b := B282b_12) (gs := [¬ (r1 = 0)]) (c' := (23, [some (22, 0), some (0, v1)], [], (hc, h, o))) K282b_12 rfl ⟨q2, trivial⟩ ?_
      obtain ⟨r2, q3, e⟩ := zB_s e
      refine zF_blk (m := []) (d := 0) (b := B282b_6) (gs := []) (c' := (24, [some (22, 0), some (0, v1)], [(22, 0)], (hc, h, o))) K282b_6 rfl trivial ?_
      refine zF_call (k := 176) (cl := 12) (n := 1) (i := .invokevirtual 162) (args := [(22, 0)]) (rest := []) (g1 := (hc, r2, o)) (r1 := none) (by decide +kernel) rfl rfl rfl (st' := []) rfl (S176 (by omega)  h _ q3) ?_
      obtain ⟨r3, q4, e⟩ := zB_s e
      refine zF_blk (m := []) (d := 0) (b := B282b_7) (gs := []) (c' := (28, [some (22, 0), some (0, v1)], [(22, 0)], (hc, r2, o))) K282b_7 rfl trivial ?_
      refine zF_call (k := 283) (cl := 12) (n := 1) (i := .invokevirtual 407) (args := [(22, 0)]) (rest := []) (g1 := (hc, r3.2, o)) (r1 := some (0, r3.1)) (by decide +kernel) rfl rfl rfl (st' := [(0, r3.1)]) rfl (hkR _ (by omega)  r2 _ q4) ?_
      rcases zI_s e with ⟨q5, e⟩ | ⟨q5, e⟩
      · refine zF_blk (m := []) (d := 1) (b := B282b_11) (gs := [¬ r3.1 = 0]) (c' := (36, [some (22, 0), some (0, v1)], [], (hc, r3.2, o))) K282b_11 rfl ⟨q5, trivial⟩ ?_
        obtain ⟨r4, q6, e⟩ := zB_s e
        refine zF_blk (m := []) (d := 0) (b := B282b_8) (gs := []) (c' := (44, [some (22, 0), some (0, v1)], [(0, 0), (0, (r3.2 49 0)), (0, v1), (0, 2), (22, 0)], (hc, r3.2, o))) K282b_8 rfl trivial ?_
        refine zF_call (k := 286) (cl := 12) (n := 5) (i := .invokevirtual 403) (args := [(22, 0), (0, 2), (0, v1), (0, (r3.2 49 0)), (0, 0)]) (rest := []) (g1 := (hc, r4.2, o)) (r1 := some (0, r4.1)) (by decide +kernel) rfl rfl rfl (st' := [(0, r4.1)]) rfl (S286 (by omega) 2 v1 (r3.2 49 0) 0 r3.2 _ q6) ?_
        refine zF_blk (m := []) (d := 0) (b := B282b_9) (gs := []) (c' := (14, [some (22, 0), some (0, r4.1)], [], (hc, r4.2, o))) K282b_9 rfl trivial ?_
        exact hk0 r4.1 r4.2 _ e
      · refine zF_blk (m := []) (d := 0) (b := B282b_11) (gs := [¬ (¬ r3.1 = 0)]) (c' := (34, [some (22, 0), some (0, v1)], [], (hc, r3.2, o))) K282b_11 rfl ⟨q5, trivial⟩ ?_
        refine zF_blk (m := []) (d := 0) (b := B282b_10) (gs := []) (c' := (35, [some (22, 0), some (0, v1)], [(0, 0)], (hc, r3.2, o))) K282b_10 rfl trivial ?_
        exact zF_rbM (by decide +kernel) (Or.inl rfl) e
/-- EchoValeModel.readAnd()Z -/
def F282b (kR : zHM → Option (Int × zHM)) (h : zHM) : Option (Int × zHM) := (kR h).bind fun r1 => if ¬ r1.1 = 0 then F282b_0 kR zFu (r1.2 49 0) r1.2 else some (0, r1.2)
set_option maxRecDepth 100000 in
theorem S282b {spec : zRn zH2} {hc : zHC} {o : Int → Int} {d : Nat} {DR : Nat} (hd : DR + 4 ≤ d) (kR : zHM → Option (Int × zHM)) (hkR : ∀ (d' : Nat), DR ≤ d' → ∀ (h : zHM) (v : (Int × zHM)), kR h = some v → zRu2 spec d' 283 [(22, 0)] (hc, h, o) (some (0, v.1)) (hc, v.2, o)) (h : zHM) (v : (Int × zHM)) (e : F282b kR h = some v) : zRu2 spec d 282 [(22, 0)] (hc, h, o) (some (0, v.1)) (hc, v.2, o) := by
  refine zF_in (D := DR + 3) (mx := 2) (L := [some (22, 0), none]) (by decide +kernel) rfl rfl hd (fun d hd => ?_)
  unfold F282b at e
  obtain ⟨r1, q1, e⟩ := zB_s e
  refine zF_blk (m := []) (d := 0) (b := B282b_0) (gs := []) (c' := (1, [some (22, 0), none], [(22, 0)], (hc, h, o))) K282b_0 rfl trivial ?_
  refine zF_call (k := 283) (cl := 12) (n := 1) (i := .invokevirtual 407) (args := [(22, 0)]) (rest := []) (g1 := (hc, r1.2, o)) (r1 := some (0, r1.1)) (by decide +kernel) rfl rfl rfl (st' := [(0, r1.1)]) rfl (hkR _ (by omega)  h _ q1) ?_
  rcases zI_s e with ⟨q2, e⟩ | ⟨q2, e⟩
  · refine zF_blk (m := []) (d := 1) (b := B282b_3) (gs := [¬ r1.1 = 0]) (c' := (9, [some (22, 0), none], [], (hc, r1.2, o))) K282b_3 rfl ⟨q2, trivial⟩ ?_
    refine zF_blk (m := []) (d := 0) (b := B282b_1) (gs := []) (c' := (14, [some (22, 0), some (0, (r1.2 49 0))], [], (hc, r1.2, o))) K282b_1 rfl trivial ?_
    exact T282b_0 hd kR hkR zFu (r1.2 49 0) r1.2 _ e
  · refine zF_blk (m := []) (d := 0) (b := B282b_3) (gs := [¬ (¬ r1.1 = 0)]) (c' := (7, [some (22, 0), none], [], (hc, r1.2, o))) K282b_3 rfl ⟨q2, trivial⟩ ?_
    refine zF_blk (m := []) (d := 0) (b := B282b_2) (gs := []) (c' := (8, [some (22, 0), none], [(0, 0)], (hc, r1.2, o))) K282b_2 rfl trivial ?_
    exact zF_rbM (by decide +kernel) (Or.inl rfl) e
