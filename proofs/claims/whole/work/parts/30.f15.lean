/-! Functions of the methods, by wip/gen/lift.py. -/
def B288_0 : List zRow := [(0, .aload_n 0, 1, (0, 0, 0)), (1, .bipush 60, 2, (0, 0, 0))]
theorem K288_0 : zRk 288 B288_0 = true := by decide +kernel
def B288_1 : List zRow := [(9, .aload_n 0, 1, (0, 0, 0)), (10, .bipush 61, 2, (0, 0, 0))]
theorem K288_1 : zRk 288 B288_1 = true := by decide +kernel
def B288_2 : List zRow := [(18, .aload_n 0, 1, (0, 0, 0)), (19, .bipush 62, 2, (0, 0, 0))]
theorem K288_2 : zRk 288 B288_2 = true := by decide +kernel
def B288_3 : List zRow := [(27, .aload_n 0, 1, (0, 0, 0)), (28, .iconst 1, 1, (0, 0, 0))]
theorem K288_3 : zRk 288 B288_3 = true := by decide +kernel
def B288_4 : List zRow := [(24, .ifCond .ne 9, 3, (0, 0, 0))]
theorem K288_4 : zRk 288 B288_4 = true := by decide +kernel
def B288_5 : List zRow := [(15, .ifCond .ne 18, 3, (0, 0, 0))]
theorem K288_5 : zRk 288 B288_5 = true := by decide +kernel
def B288_6 : List zRow := [(6, .ifCond .ne 27, 3, (0, 0, 0))]
theorem K288_6 : zRk 288 B288_6 = true := by decide +kernel
def B288_7 : List zRow := [(33, .aload_n 0, 1, (0, 0, 0)), (34, .getfield 117, 3, (12, 9, 0)), (37, .istore_n 2, 1, (0, 0, 0)), (38, .aload_n 0, 1, (0, 0, 0))]
theorem K288_7 : zRk 288 B288_7 = true := by decide +kernel
def B288_8 : List zRow := [(42, .aload_n 0, 1, (0, 0, 0)), (43, .iconst 0, 1, (0, 0, 0)), (44, .sipush 999, 3, (0, 0, 0))]
theorem K288_8 : zRk 288 B288_8 = true := by decide +kernel
def B288_9 : List zRow := [(55, .aload_n 0, 1, (0, 0, 0)), (56, .aload_n 0, 1, (0, 0, 0)), (57, .bipush 50, 2, (0, 0, 0)), (59, .iload_n 1, 1, (0, 0, 0))]
theorem K288_9 : zRk 288 B288_9 = true := by decide +kernel
def B288_10 : List zRow := [(60, .iadd, 1, (0, 0, 0)), (61, .iconst 0, 1, (0, 0, 0)), (62, .aload_n 0, 1, (0, 0, 0)), (63, .getfield 155, 3, (12, 13, 0)), (66, .iload_n 2, 1, (0, 0, 0))]
theorem K288_10 : zRk 288 B288_10 = true := by decide +kernel
def B288_11 : List zRow := [(70, .putfield 400, 3, (12, 49, 0)), (73, .iconst 1, 1, (0, 0, 0))]
theorem K288_11 : zRk 288 B288_11 = true := by decide +kernel
def B288_12 : List zRow := [(53, .iconst 0, 1, (0, 0, 0))]
theorem K288_12 : zRk 288 B288_12 = true := by decide +kernel
def B288_13 : List zRow := [(50, .ifCond .ne 5, 3, (0, 0, 0))]
theorem K288_13 : zRk 288 B288_13 = true := by decide +kernel
def F288_0 (v1 : Int) (h : zHM) : Option (Int × zHM) := (F176 h).bind fun r1 => (F186 0 999 r1).bind fun r2 => if ¬ r2.1 = 0 then (F286 (wadd 50 v1) 0 (r2.2 13 0) (h 9 0) r2.2).bind fun r3 => some (1, (mset r3.2 49 0 r3.1)) else some (0, r2.2)
set_option maxRecDepth 100000 in
theorem T288_0 {spec : zRn zH2} {hc : zHC} {o : Int → Int} {d : Nat} (hd : 3 ≤ d) (v1 : Int) (h : zHM) (v : (Int × zHM)) (e : F288_0 v1 h = some v) : zFin 0 (fun _ => 0) (zRu2 spec d) 288 (some (0, v.1)) (hc, v.2, o) (33, [some (22, 0), some (0, v1), none], [], (hc, h, o)) := by
  unfold F288_0 at e
  obtain ⟨r1, q1, e⟩ := zB_s e
  refine zF_blk (m := []) (d := 0) (b := B288_7) (gs := []) (c' := (39, [some (22, 0), some (0, v1), some (0, (h 9 0))], [(22, 0)], (hc, h, o))) K288_7 rfl trivial ?_
  refine zF_call (k := 176) (cl := 12) (n := 1) (i := .invokevirtual 162) (args := [(22, 0)]) (rest := []) (g1 := (hc, r1, o)) (r1 := none) (by decide +kernel) rfl rfl rfl (st' := []) rfl (S176 (Nat.le_trans (by decide) hd)  h _ q1) ?_
  obtain ⟨r2, q2, e⟩ := zB_s e
  refine zF_blk (m := []) (d := 0) (b := B288_8) (gs := []) (c' := (47, [some (22, 0), some (0, v1), some (0, (h 9 0))], [(0, 999), (0, 0), (22, 0)], (hc, r1, o))) K288_8 rfl trivial ?_
  refine zF_call (k := 186) (cl := 12) (n := 3) (i := .invokevirtual 180) (args := [(22, 0), (0, 0), (0, 999)]) (rest := []) (g1 := (hc, r2.2, o)) (r1 := some (0, r2.1)) (by decide +kernel) rfl rfl rfl (st' := [(0, r2.1)]) rfl (S186 (Nat.le_trans (by decide) hd) 0 999 r1 _ q2) ?_
  rcases zI_s e with ⟨q3, e⟩ | ⟨q3, e⟩
  · refine zF_blk (m := []) (d := 1) (b := B288_13) (gs := [¬ r2.1 = 0]) (c' := (55, [some (22, 0), some (0, v1), some (0, (h 9 0))], [], (hc, r2.2, o))) K288_13 rfl ⟨q3, trivial⟩ ?_
    refine zF_blk (m := []) (d := 0) (b := B288_9) (gs := []) (c' := (60, [some (22, 0), some (0, v1), some (0, (h 9 0))], [(0, v1), (0, 50), (22, 0), (22, 0)], (hc, r2.2, o))) K288_9 rfl trivial ?_
    obtain ⟨r3, q4, e⟩ := zB_s e
    refine zF_blk (m := []) (d := 0) (b := B288_10) (gs := []) (c' := (67, [some (22, 0), some (0, v1), some (0, (h 9 0))], [(0, (h 9 0)), (0, (r2.2 13 0)), (0, 0), (0, (wadd 50 v1)), (22, 0), (22, 0)], (hc, r2.2, o))) K288_10 rfl trivial ?_
    refine zF_call (k := 286) (cl := 12) (n := 5) (i := .invokevirtual 403) (args := [(22, 0), (0, (wadd 50 v1)), (0, 0), (0, (r2.2 13 0)), (0, (h 9 0))]) (rest := [(22, 0)]) (g1 := (hc, r3.2, o)) (r1 := some (0, r3.1)) (by decide +kernel) rfl rfl rfl (st' := [(0, r3.1), (22, 0)]) rfl (S286 (Nat.le_trans (by decide) hd) (wadd 50 v1) 0 (r2.2 13 0) (h 9 0) r2.2 _ q4) ?_
    refine zF_blk (m := []) (d := 0) (b := B288_11) (gs := []) (c' := (74, [some (22, 0), some (0, v1), some (0, (h 9 0))], [(0, 1)], (hc, (mset r3.2 49 0 r3.1), o))) K288_11 rfl trivial ?_
    exact zF_rbM (by decide +kernel) (Or.inr rfl) e
  · refine zF_blk (m := []) (d := 0) (b := B288_13) (gs := [¬ (¬ r2.1 = 0)]) (c' := (53, [some (22, 0), some (0, v1), some (0, (h 9 0))], [], (hc, r2.2, o))) K288_13 rfl ⟨q3, trivial⟩ ?_
    refine zF_blk (m := []) (d := 0) (b := B288_12) (gs := []) (c' := (54, [some (22, 0), some (0, v1), some (0, (h 9 0))], [(0, 0)], (hc, r2.2, o))) K288_12 rfl trivial ?_
    exact zF_rbM (by decide +kernel) (Or.inl rfl) e
/-- EchoValeModel.readCompare(I)Z -/
def F288 (v1 : Int) (h : zHM) : Option (Int × zHM) := (F202 60 h).bind fun r1 => if ¬ r1 = 0 then F288_0 v1 h else (F202 61 h).bind fun r2 => if ¬ r2 = 0 then F288_0 v1 h else (F202 62 h).bind fun r3 => if ¬ r3 = 0 then F288_0 v1 h else (F185 1 h).bind fun r4 => zG (r4.1 = 0 ∨ r4.1 = 1) (some (r4.1, r4.2))
set_option maxRecDepth 100000 in
theorem S288 {spec : zRn zH2} {hc : zHC} {o : Int → Int} {d : Nat} (hd : 4 ≤ d) (v1 : Int) (h : zHM) (v : (Int × zHM)) (e : F288 v1 h = some v) : zRu2 spec d 288 [(22, 0), (0, v1)] (hc, h, o) (some (0, v.1)) (hc, v.2, o) := by
  refine zF_in (D := 3) (mx := 3) (L := [some (22, 0), some (0, v1), none]) (by decide +kernel) rfl rfl hd (fun d hd => ?_)
  unfold F288 at e
  obtain ⟨r1, q1, e⟩ := zB_s e
  refine zF_blk (m := []) (d := 0) (b := B288_0) (gs := []) (c' := (3, [some (22, 0), some (0, v1), none], [(0, 60), (22, 0)], (hc, h, o))) K288_0 rfl trivial ?_
  refine zF_call (k := 202) (cl := 12) (n := 2) (i := .invokevirtual 165) (args := [(22, 0), (0, 60)]) (rest := []) (g1 := (hc, h, o)) (r1 := some (0, r1)) (by decide +kernel) rfl rfl rfl (st' := [(0, r1)]) rfl (S202 (Nat.le_trans (by decide) hd) 60 h _ q1) ?_
  rcases zI_s e with ⟨q2, e⟩ | ⟨q2, e⟩
  · refine zF_blk (m := []) (d := 1) (b := B288_6) (gs := [¬ r1 = 0]) (c' := (33, [some (22, 0), some (0, v1), none], [], (hc, h, o))) K288_6 rfl ⟨q2, trivial⟩ ?_
    exact T288_0 hd v1 h _ e
  · refine zF_blk (m := []) (d := 0) (b := B288_6) (gs := [¬ (¬ r1 = 0)]) (c' := (9, [some (22, 0), some (0, v1), none], [], (hc, h, o))) K288_6 rfl ⟨q2, trivial⟩ ?_
    obtain ⟨r2, q3, e⟩ := zB_s e
    refine zF_blk (m := []) (d := 0) (b := B288_1) (gs := []) (c' := (12, [some (22, 0), some (0, v1), none], [(0, 61), (22, 0)], (hc, h, o))) K288_1 rfl trivial ?_
    refine zF_call (k := 202) (cl := 12) (n := 2) (i := .invokevirtual 165) (args := [(22, 0), (0, 61)]) (rest := []) (g1 := (hc, h, o)) (r1 := some (0, r2)) (by decide +kernel) rfl rfl rfl (st' := [(0, r2)]) rfl (S202 (Nat.le_trans (by decide) hd) 61 h _ q3) ?_
    rcases zI_s e with ⟨q4, e⟩ | ⟨q4, e⟩
    · refine zF_blk (m := []) (d := 1) (b := B288_5) (gs := [¬ r2 = 0]) (c' := (33, [some (22, 0), some (0, v1), none], [], (hc, h, o))) K288_5 rfl ⟨q4, trivial⟩ ?_
      exact T288_0 hd v1 h _ e
    · refine zF_blk (m := []) (d := 0) (b := B288_5) (gs := [¬ (¬ r2 = 0)]) (c' := (18, [some (22, 0), some (0, v1), none], [], (hc, h, o))) K288_5 rfl ⟨q4, trivial⟩ ?_
      obtain ⟨r3, q5, e⟩ := zB_s e
      refine zF_blk (m := []) (d := 0) (b := B288_2) (gs := []) (c' := (21, [some (22, 0), some (0, v1), none], [(0, 62), (22, 0)], (hc, h, o))) K288_2 rfl trivial ?_
      refine zF_call (k := 202) (cl := 12) (n := 2) (i := .invokevirtual 165) (args := [(22, 0), (0, 62)]) (rest := []) (g1 := (hc, h, o)) (r1 := some (0, r3)) (by decide +kernel) rfl rfl rfl (st' := [(0, r3)]) rfl (S202 (Nat.le_trans (by decide) hd) 62 h _ q5) ?_
      rcases zI_s e with ⟨q6, e⟩ | ⟨q6, e⟩
      · refine zF_blk (m := []) (d := 1) (b := B288_4) (gs := [¬ r3 = 0]) (c' := (33, [some (22, 0), some (0, v1), none], [], (hc, h, o))) K288_4 rfl ⟨q6, trivial⟩ ?_
        exact T288_0 hd v1 h _ e
      · refine zF_blk (m := []) (d := 0) (b := B288_4) (gs := [¬ (¬ r3 = 0)]) (c' := (27, [some (22, 0), some (0, v1), none], [], (hc, h, o))) K288_4 rfl ⟨q6, trivial⟩ ?_
        obtain ⟨r4, q7, e⟩ := zB_s e
        refine zF_blk (m := []) (d := 0) (b := B288_3) (gs := []) (c' := (29, [some (22, 0), some (0, v1), none], [(0, 1), (22, 0)], (hc, h, o))) K288_3 rfl trivial ?_
        refine zF_call (k := 185) (cl := 12) (n := 2) (i := .invokevirtual 148) (args := [(22, 0), (0, 1)]) (rest := []) (g1 := (hc, r4.2, o)) (r1 := some (0, r4.1)) (by decide +kernel) rfl rfl rfl (st' := [(0, r4.1)]) rfl (S185 (Nat.le_trans (by decide) hd) 1 h _ q7) ?_
        obtain ⟨q8, e⟩ := zG_s e
        exact zF_rbM (by decide +kernel) q8 e
def B287_0 : List zRow := [(0, .aload_n 0, 1, (0, 0, 0))]
theorem K287_0 : zRk 287 B287_0 = true := by decide +kernel
def B287_1 : List zRow := [(13, .aload_n 0, 1, (0, 0, 0)), (14, .getfield 28, 3, (12, 19, 5505074)), (17, .bipush 6, 2, (0, 0, 0)), (19, .aload_n 0, 1, (0, 0, 0)), (20, .getfield 13, 3, (12, 14, 5251442)), (23, .iconst 3, 1, (0, 0, 0)), (24, .iaload, 1, (0, 0, 0)), (25, .aload_n 0, 1, (0, 0, 0)), (26, .getfield 120, 3, (12, 12, 1))]
theorem K287_1 : zRk 287 B287_1 = true := by decide +kernel
def B287_2 : List zRow := [(44, .aload_n 0, 1, (0, 0, 0)), (45, .aload_n 0, 1, (0, 0, 0)), (46, .bipush 50, 2, (0, 0, 0)), (48, .iload_n 1, 1, (0, 0, 0))]
theorem K287_2 : zRk 287 B287_2 = true := by decide +kernel
def B287_3 : List zRow := [(49, .iadd, 1, (0, 0, 0)), (50, .iload_n 2, 1, (0, 0, 0)), (51, .iconst 0, 1, (0, 0, 0)), (52, .iconst 0, 1, (0, 0, 0))]
theorem K287_3 : zRk 287 B287_3 = true := by decide +kernel
def B287_4 : List zRow := [(56, .putfield 400, 3, (12, 49, 0)), (59, .aload_n 0, 1, (0, 0, 0))]
theorem K287_4 : zRk 287 B287_4 = true := by decide +kernel
def B287_5 : List zRow := [(63, .iconst 1, 1, (0, 0, 0))]
theorem K287_5 : zRk 287 B287_5 = true := by decide +kernel
def B287_6 : List zRow := [(38, .aload_n 0, 1, (0, 0, 0)), (39, .iconst 3, 1, (0, 0, 0))]
theorem K287_6 : zRk 287 B287_6 = true := by decide +kernel
def B287_7 : List zRow := [(32, .istore_n 2, 1, (0, 0, 0)), (33, .iload_n 2, 1, (0, 0, 0)), (34, .iconst (-1), 1, (0, 0, 0)), (35, .if_icmp .ne 9, 3, (0, 0, 0))]
theorem K287_7 : zRk 287 B287_7 = true := by decide +kernel
def B287_8 : List zRow := [(7, .aload_n 0, 1, (0, 0, 0)), (8, .iconst 1, 1, (0, 0, 0))]
theorem K287_8 : zRk 287 B287_8 = true := by decide +kernel
def B287_9 : List zRow := [(4, .ifCond .ne 9, 3, (0, 0, 0))]
theorem K287_9 : zRk 287 B287_9 = true := by decide +kernel
/-- EchoValeModel.readOf(I)Z -/
def F287 (v1 : Int) (h : zHM) : Option (Int × zHM) := (F191 h).bind fun r1 => if ¬ r1 = 0 then (F192b 6 (h 14 3) (h 12 0) h).bind fun r2 => if ¬ r2 = (-1) then (F286 (wadd 50 v1) r2 0 0 h).bind fun r3 => (F176 (mset r3.2 49 0 r3.1)).bind fun r4 => some (1, r4) else (F185 3 h).bind fun r5 => zG (r5.1 = 0 ∨ r5.1 = 1) (some (r5.1, r5.2)) else (F185 1 h).bind fun r6 => zG (r6.1 = 0 ∨ r6.1 = 1) (some (r6.1, r6.2))
set_option maxRecDepth 100000 in
theorem S287 {spec : zRn zH2} {hc : zHC} {o : Int → Int} {d : Nat} (hd : 4 ≤ d) (v1 : Int) (h : zHM) (v : (Int × zHM)) (e : F287 v1 h = some v) : zRu2 spec d 287 [(22, 0), (0, v1)] (hc, h, o) (some (0, v.1)) (hc, v.2, o) := by
  refine zF_in (D := 3) (mx := 3) (L := [some (22, 0), some (0, v1), none]) (by decide +kernel) rfl rfl hd (fun d hd => ?_)
  unfold F287 at e
  obtain ⟨r1, q1, e⟩ := zB_s e
  refine zF_blk (m := []) (d := 0) (b := B287_0) (gs := []) (c' := (1, [some (22, 0), some (0, v1), none], [(22, 0)], (hc, h, o))) K287_0 rfl trivial ?_
  refine zF_call (k := 191) (cl := 12) (n := 1) (i := .invokevirtual 172) (args := [(22, 0)]) (rest := []) (g1 := (hc, h, o)) (r1 := some (0, r1)) (by decide +kernel) rfl rfl rfl (st' := [(0, r1)]) rfl (S191 (Nat.le_trans (by decide) hd)  h _ q1) ?_
  rcases zI_s e with ⟨q2, e⟩ | ⟨q2, e⟩
  · refine zF_blk (m := []) (d := 1) (b := B287_9) (gs := [¬ r1 = 0]) (c' := (13, [some (22, 0), some (0, v1), none], [], (hc, h, o))) K287_9 rfl ⟨q2, trivial⟩ ?_
    obtain ⟨r2, q3, e⟩ := zB_s e
    refine zF_blk (m := []) (d := 0) (b := B287_1) (gs := [0 ≤ 3 ∧ 3 < 2140]) (c' := (29, [some (22, 0), some (0, v1), none], [(1, (h 12 0)), (0, (h 14 3)), (0, 6), (1409300219, 0)], (hc, h, o))) K287_1 rfl ⟨by decide, trivial⟩ ?_
    refine zF_call (k := 192) (cl := 12) (n := 4) (i := .invokestatic 176) (args := [(1409300219, 0), (0, 6), (0, (h 14 3)), (1, (h 12 0))]) (rest := []) (g1 := (hc, h, o)) (r1 := some (0, r2)) (by decide +kernel) rfl rfl rfl (st' := [(0, r2)]) rfl (S192b (Nat.le_trans (by decide) hd) 6 (h 14 3) (h 12 0) h _ q3) ?_
    rcases zI_s e with ⟨q4, e⟩ | ⟨q4, e⟩
    · refine zF_blk (m := []) (d := 1) (b := B287_7) (gs := [¬ r2 = (-1)]) (c' := (44, [some (22, 0), some (0, v1), some (0, r2)], [], (hc, h, o))) K287_7 rfl ⟨q4, trivial⟩ ?_
      refine zF_blk (m := []) (d := 0) (b := B287_2) (gs := []) (c' := (49, [some (22, 0), some (0, v1), some (0, r2)], [(0, v1), (0, 50), (22, 0), (22, 0)], (hc, h, o))) K287_2 rfl trivial ?_
      obtain ⟨r3, q5, e⟩ := zB_s e
      refine zF_blk (m := []) (d := 0) (b := B287_3) (gs := []) (c' := (53, [some (22, 0), some (0, v1), some (0, r2)], [(0, 0), (0, 0), (0, r2), (0, (wadd 50 v1)), (22, 0), (22, 0)], (hc, h, o))) K287_3 rfl trivial ?_
      refine zF_call (k := 286) (cl := 12) (n := 5) (i := .invokevirtual 403) (args := [(22, 0), (0, (wadd 50 v1)), (0, r2), (0, 0), (0, 0)]) (rest := [(22, 0)]) (g1 := (hc, r3.2, o)) (r1 := some (0, r3.1)) (by decide +kernel) rfl rfl rfl (st' := [(0, r3.1), (22, 0)]) rfl (S286 (Nat.le_trans (by decide) hd) (wadd 50 v1) r2 0 0 h _ q5) ?_
      obtain ⟨r4, q6, e⟩ := zB_s e
      refine zF_blk (m := []) (d := 0) (b := B287_4) (gs := []) (c' := (60, [some (22, 0), some (0, v1), some (0, r2)], [(22, 0)], (hc, (mset r3.2 49 0 r3.1), o))) K287_4 rfl trivial ?_
      refine zF_call (k := 176) (cl := 12) (n := 1) (i := .invokevirtual 162) (args := [(22, 0)]) (rest := []) (g1 := (hc, r4, o)) (r1 := none) (by decide +kernel) rfl rfl rfl (st' := []) rfl (S176 (Nat.le_trans (by decide) hd)  (mset r3.2 49 0 r3.1) _ q6) ?_
      refine zF_blk (m := []) (d := 0) (b := B287_5) (gs := []) (c' := (64, [some (22, 0), some (0, v1), some (0, r2)], [(0, 1)], (hc, r4, o))) K287_5 rfl trivial ?_
      exact zF_rbM (by decide +kernel) (Or.inr rfl) e
    · refine zF_blk (m := []) (d := 0) (b := B287_7) (gs := [¬ (¬ r2 = (-1))]) (c' := (38, [some (22, 0), some (0, v1), some (0, r2)], [], (hc, h, o))) K287_7 rfl ⟨q4, trivial⟩ ?_
      obtain ⟨r5, q7, e⟩ := zB_s e
      refine zF_blk (m := []) (d := 0) (b := B287_6) (gs := []) (c' := (40, [some (22, 0), some (0, v1), some (0, r2)], [(0, 3), (22, 0)], (hc, h, o))) K287_6 rfl trivial ?_
      refine zF_call (k := 185) (cl := 12) (n := 2) (i := .invokevirtual 148) (args := [(22, 0), (0, 3)]) (rest := []) (g1 := (hc, r5.2, o)) (r1 := some (0, r5.1)) (by decide +kernel) rfl rfl rfl (st' := [(0, r5.1)]) rfl (S185 (Nat.le_trans (by decide) hd) 3 h _ q7) ?_
      obtain ⟨q8, e⟩ := zG_s e
      exact zF_rbM (by decide +kernel) q8 e
  · refine zF_blk (m := []) (d := 0) (b := B287_9) (gs := [¬ (¬ r1 = 0)]) (c' := (7, [some (22, 0), some (0, v1), none], [], (hc, h, o))) K287_9 rfl ⟨q2, trivial⟩ ?_
    obtain ⟨r6, q9, e⟩ := zB_s e
    refine zF_blk (m := []) (d := 0) (b := B287_8) (gs := []) (c' := (9, [some (22, 0), some (0, v1), none], [(0, 1), (22, 0)], (hc, h, o))) K287_8 rfl trivial ?_
    refine zF_call (k := 185) (cl := 12) (n := 2) (i := .invokevirtual 148) (args := [(22, 0), (0, 1)]) (rest := []) (g1 := (hc, r6.2, o)) (r1 := some (0, r6.1)) (by decide +kernel) rfl rfl rfl (st' := [(0, r6.1)]) rfl (S185 (Nat.le_trans (by decide) hd) 1 h _ q9) ?_
    obtain ⟨q10, e⟩ := zG_s e
    exact zF_rbM (by decide +kernel) q10 e
def B285_0 : List zRow := [(0, .aload_n 0, 1, (0, 0, 0))]
theorem K285_0 : zRk 285 B285_0 = true := by decide +kernel
def B285_1 : List zRow := [(9, .aload_n 0, 1, (0, 0, 0)), (10, .aload_n 0, 1, (0, 0, 0)), (11, .iconst 1, 1, (0, 0, 0)), (12, .aload_n 0, 1, (0, 0, 0)), (13, .getfield 400, 3, (12, 49, 0)), (16, .iconst 0, 1, (0, 0, 0)), (17, .iconst 0, 1, (0, 0, 0))]
theorem K285_1 : zRk 285 B285_1 = true := by decide +kernel
def B285_2 : List zRow := [(21, .putfield 400, 3, (12, 49, 0)), (24, .iconst 1, 1, (0, 0, 0))]
theorem K285_2 : zRk 285 B285_2 = true := by decide +kernel
def B285_3 : List zRow := [(7, .iconst 0, 1, (0, 0, 0))]
theorem K285_3 : zRk 285 B285_3 = true := by decide +kernel
def B285_4 : List zRow := [(4, .ifCond .ne 5, 3, (0, 0, 0))]
theorem K285_4 : zRk 285 B285_4 = true := by decide +kernel
/-- EchoValeModel.readNot()Z -/
def F285 (kR : zHM → Option (Int × zHM)) (h : zHM) : Option (Int × zHM) := (kR h).bind fun r1 => if ¬ r1.1 = 0 then (F286 1 (r1.2 49 0) 0 0 r1.2).bind fun r2 => some (1, (mset r2.2 49 0 r2.1)) else some (0, r1.2)
set_option maxRecDepth 100000 in
theorem S285 {spec : zRn zH2} {hc : zHC} {o : Int → Int} {d : Nat} {DR : Nat} (hd : DR + 2 ≤ d) (kR : zHM → Option (Int × zHM)) (hkR : ∀ (d' : Nat), DR ≤ d' → ∀ (h : zHM) (v : (Int × zHM)), kR h = some v → zRu2 spec d' 283 [(22, 0)] (hc, h, o) (some (0, v.1)) (hc, v.2, o)) (h : zHM) (v : (Int × zHM)) (e : F285 kR h = some v) : zRu2 spec d 285 [(22, 0)] (hc, h, o) (some (0, v.1)) (hc, v.2, o) := by
  refine zF_in (D := DR + 1) (mx := 1) (L := [some (22, 0)]) (by decide +kernel) rfl rfl hd (fun d hd => ?_)
  unfold F285 at e
  obtain ⟨r1, q1, e⟩ := zB_s e
  refine zF_blk (m := []) (d := 0) (b := B285_0) (gs := []) (c' := (1, [some (22, 0)], [(22, 0)], (hc, h, o))) K285_0 rfl trivial ?_
  refine zF_call (k := 283) (cl := 12) (n := 1) (i := .invokevirtual 407) (args := [(22, 0)]) (rest := []) (g1 := (hc, r1.2, o)) (r1 := some (0, r1.1)) (by decide +kernel) rfl rfl rfl (st' := [(0, r1.1)]) rfl (hkR _ (by omega)  h _ q1) ?_
  rcases zI_s e with ⟨q2, e⟩ | ⟨q2, e⟩
  · refine zF_blk (m := []) (d := 1) (b := B285_4) (gs := [¬ r1.1 = 0]) (c' := (9, [some (22, 0)], [], (hc, r1.2, o))) K285_4 rfl ⟨q2, trivial⟩ ?_
    obtain ⟨r2, q3, e⟩ := zB_s e
    refine zF_blk (m := []) (d := 0) (b := B285_1) (gs := []) (c' := (18, [some (22, 0)], [(0, 0), (0, 0), (0, (r1.2 49 0)), (0, 1), (22, 0), (22, 0)], (hc, r1.2, o))) K285_1 rfl trivial ?_
    refine zF_call (k := 286) (cl := 12) (n := 5) (i := .invokevirtual 403) (args := [(22, 0), (0, 1), (0, (r1.2 49 0)), (0, 0), (0, 0)]) (rest := [(22, 0)]) (g1 := (hc, r2.2, o)) (r1 := some (0, r2.1)) (by decide +kernel) rfl rfl rfl (st' := [(0, r2.1), (22, 0)]) rfl (S286 (by omega) 1 (r1.2 49 0) 0 0 r1.2 _ q3) ?_
    refine zF_blk (m := []) (d := 0) (b := B285_2) (gs := []) (c' := (25, [some (22, 0)], [(0, 1)], (hc, (mset r2.2 49 0 r2.1), o))) K285_2 rfl trivial ?_
    exact zF_rbM (by decide +kernel) (Or.inr rfl) e
  · refine zF_blk (m := []) (d := 0) (b := B285_4) (gs := [¬ (¬ r1.1 = 0)]) (c' := (7, [some (22, 0)], [], (hc, r1.2, o))) K285_4 rfl ⟨q2, trivial⟩ ?_
    refine zF_blk (m := []) (d := 0) (b := B285_3) (gs := []) (c' := (8, [some (22, 0)], [(0, 0)], (hc, r1.2, o))) K285_3 rfl trivial ?_
    exact zF_rbM (by decide +kernel) (Or.inl rfl) e
def B282b_0 : List zRow := [(0, .aload_n 0, 1, (0, 0, 0))]
theorem K282b_0 : zRk 282 B282b_0 = true := by decide +kernel
def B282b_1 : List zRow := [(9, .aload_n 0, 1, (0, 0, 0)), (10, .getfield 400, 3, (12, 49, 0)), (13, .istore_n 1, 1, (0, 0, 0))]
theorem K282b_1 : zRk 282 B282b_1 = true := by decide +kernel
def B282b_2 : List zRow := [(7, .iconst 0, 1, (0, 0, 0))]
theorem K282b_2 : zRk 282 B282b_2 = true := by decide +kernel
def B282b_3 : List zRow := [(4, .ifCond .ne 5, 3, (0, 0, 0))]
theorem K282b_3 : zRk 282 B282b_3 = true := by decide +kernel
def B282b_4 : List zRow := [(14, .aload_n 0, 1, (0, 0, 0)), (15, .bipush 11, 2, (0, 0, 0))]
theorem K282b_4 : zRk 282 B282b_4 = true := by decide +kernel
def B282b_5 : List zRow := [(51, .aload_n 0, 1, (0, 0, 0)), (52, .iload_n 1, 1, (0, 0, 0)), (53, .putfield 400, 3, (12, 49, 0)), (56, .iconst 1, 1, (0, 0, 0))]
theorem K282b_5 : zRk 282 B282b_5 = true := by decide +kernel
def B282b_6 : List zRow := [(23, .aload_n 0, 1, (0, 0, 0))]
theorem K282b_6 : zRk 282 B282b_6 = true := by decide +kernel
def B282b_7 : List zRow := [(27, .aload_n 0, 1, (0, 0, 0))]
theorem K282b_7 : zRk 282 B282b_7 = true := by decide +kernel
def B282b_8 : List zRow := [(36, .aload_n 0, 1, (0, 0, 0)), (37, .iconst 2, 1, (0, 0, 0)), (38, .iload_n 1, 1, (0, 0, 0)), (39, .aload_n 0, 1, (0, 0, 0)), (40, .getfield 400, 3, (12, 49, 0)), (43, .iconst 0, 1, (0, 0, 0))]
theorem K282b_8 : zRk 282 B282b_8 = true := by decide +kernel
def B282b_9 : List zRow := [(47, .istore_n 1, 1, (0, 0, 0)), (48, .goto (-34), 3, (0, 0, 0))]
theorem K282b_9 : zRk 282 B282b_9 = true := by decide +kernel
def B282b_10 : List zRow := [(34, .iconst 0, 1, (0, 0, 0))]
theorem K282b_10 : zRk 282 B282b_10 = true := by decide +kernel
def B282b_11 : List zRow := [(31, .ifCond .ne 5, 3, (0, 0, 0))]
theorem K282b_11 : zRk 282 B282b_11 = true := by decide +kernel
def B282b_12 : List zRow := [(20, .ifCond .eq 31, 3, (0, 0, 0))]
theorem K282b_12 : zRk 282 B282b_12 = true := by decide +kernel
def F282b_0 (kR : zHM → Option (Int × zHM)) : Nat → Int → zHM → Option (Int × zHM)
  | 0, _, _ => none
  | n + 1, v1, h => (F181 11 h).bind fun r1 => if r1 = 0 then some (1, (mset h 49 0 v1)) else (F176 h).bind fun r2 => (kR r2).bind fun r3 => if ¬ r3.1 = 0 then (F286 2 v1 (r3.2 49 0) 0 r3.2).bind fun r4 => (F282b_0 kR n) r4.1 r4.2 else some (0, r3.2)
set_option maxRecDepth 100000 in
theorem T282b_0 {spec : zRn zH2} {hc : zHC} {o : Int → Int} {d : Nat} {DR : Nat} (hd : DR + 3 ≤ d) (kR : zHM → Option (Int × zHM)) (hkR : ∀ (d' : Nat), DR ≤ d' → ∀ (h : zHM) (v : (Int × zHM)), kR h = some v → zRu2 spec d' 283 [(22, 0)] (hc, h, o) (some (0, v.1)) (hc, v.2, o)) : ∀ (n : Nat) (v1 : Int) (h : zHM) (v : (Int × zHM)), F282b_0 kR n v1 h = some v → zFin 0 (fun _ => 0) (zRu2 spec d) 282 (some (0, v.1)) (hc, v.2, o) (14, [some (22, 0), some (0, v1)], [], (hc, h, o)) := by
  intro n
  induction n with
  | zero => intro v1 h v e; unfold F282b_0 at e; cases e
  | succ n hk0 =>
    intro v1 h v e
    unfold F282b_0 at e
    obtain ⟨r1, q1, e⟩ := zB_s e
    refine zF_blk (m := []) (d := 0) (b := B282b_4) (gs := []) (c' := (17, [some (22, 0), some (0, v1)], [(0, 11), (22, 0)], (hc, h, o))) K282b_4 rfl trivial ?_
    refine zF_call (k := 181) (cl := 12) (n := 2) (i := .invokevirtual 199) (args := [(22, 0), (0, 11)]) (rest := []) (g1 := (hc, h, o)) (r1 := some (0, r1)) (by decide +kernel) rfl rfl rfl (st' := [(0, r1)]) rfl (S181 (by omega) 11 h _ q1) ?_
    rcases zI_s e with ⟨q2, e⟩ | ⟨q2, e⟩
    · refine zF_blk (m := []) (d := 1) (b := B282b_12) (gs := [r1 = 0]) (c' := (51, [some (22, 0), some (0, v1)], [], (hc, h, o))) K282b_12 rfl ⟨q2, trivial⟩ ?_
      refine zF_blk (m := []) (d := 0) (b := B282b_5) (gs := []) (c' := (57, [some (22, 0), some (0, v1)], [(0, 1)], (hc, (mset h 49 0 v1), o))) K282b_5 rfl trivial ?_
      exact zF_rbM (by decide +kernel) (Or.inr rfl) e
    · refine zF_blk (m := []) (d := 0) (b := B282b_12) (gs := [¬ (r1 = 0)]) (c' := (23, [some (22, 0), some (0, v1)], [], (hc, h, o))) K282b_12 rfl ⟨q2, trivial⟩ ?_
      obtain ⟨r2, q3, e⟩ := zB_s e
      refine zF_blk (m := []) (d := 0) (b := B282b_6) (gs := []) (c' := (24, [some (22, 0), some (0, v1)], [(22, 0)], (hc, h, o))) K282b_6 rfl trivial ?_
      refine zF_call (k := 176) (cl := 12) (n := 1) (i := .invokevirtual 162) (args := [(22, 0)]) (rest := []) (g1 := (hc, r2, o)) (r1 := none) (by decide +kernel) rfl rfl rfl (st' := []) rfl (S176 (by omega)  h _ q3) ?_
      obtain ⟨r3, q4, e⟩ := zB_s e
      refine zF_blk (m := []) (d := 0) (b := B282b_7) (gs := []) (c' := (28, [some (22, 0), some (0, v1)], [(22, 0)], (hc, r2, o))) K282b_7 rfl trivial ?_
      refine zF_call (k := 283) (cl := 12) (n := 1) (i := .invokevirtual 407) (args := [(22, 0)]) (rest := []) (g1 := (hc, r3.2, o)) (r1 := some (0, r3.1)) (by decide +kernel) rfl rfl rfl (st' := [(0, r3.1)]) rfl (hkR _ (by omega)  r2 _ q4) ?_
      rcases zI_s e with ⟨q5, e⟩ | ⟨q5, e⟩
      · refine zF_blk (m := []) (d := 1) (b := B282b_11) (gs := [¬ r3.1 = 0]) (c' := (36, [some (22, 0), some (0, v1)], [], (hc, r3.2, o))) K282b_11 rfl ⟨q5, trivial⟩ ?_
        obtain ⟨r4, q6, e⟩ := zB_s e
        refine zF_blk (m := []) (d := 0) (b := B282b_8) (gs := []) (c' := (44, [some (22, 0), some (0, v1)], [(0, 0), (0, (r3.2 49 0)), (0, v1), (0, 2), (22, 0)], (hc, r3.2, o))) K282b_8 rfl trivial ?_
        refine zF_call (k := 286) (cl := 12) (n := 5) (i := .invokevirtual 403) (args := [(22, 0), (0, 2), (0, v1), (0, (r3.2 49 0)), (0, 0)]) (rest := []) (g1 := (hc, r4.2, o)) (r1 := some (0, r4.1)) (by decide +kernel) rfl rfl rfl (st' := [(0, r4.1)]) rfl (S286 (by omega) 2 v1 (r3.2 49 0) 0 r3.2 _ q6) ?_
        refine zF_blk (m := []) (d := 0) (b := B282b_9) (gs := []) (c' := (14, [some (22, 0), some (0, r4.1)], [], (hc, r4.2, o))) K282b_9 rfl trivial ?_
        exact hk0 r4.1 r4.2 _ e
      · refine zF_blk (m := []) (d := 0) (b := B282b_11) (gs := [¬ (¬ r3.1 = 0)]) (c' := (34, [some (22, 0), some (0, v1)], [], (hc, r3.2, o))) K282b_11 rfl ⟨q5, trivial⟩ ?_
        refine zF_blk (m := []) (d := 0) (b := B282b_10) (gs := []) (c' := (35, [some (22, 0), some (0, v1)], [(0, 0)], (hc, r3.2, o))) K282b_10 rfl trivial ?_
        exact zF_rbM (by decide +kernel) (Or.inl rfl) e
/-- EchoValeModel.readAnd()Z -/
def F282b (kR : zHM → Option (Int × zHM)) (h : zHM) : Option (Int × zHM) := (kR h).bind fun r1 => if ¬ r1.1 = 0 then F282b_0 kR zFu (r1.2 49 0) r1.2 else some (0, r1.2)
set_option maxRecDepth 100000 in
theorem S282b {spec : zRn zH2} {hc : zHC} {o : Int → Int} {d : Nat} {DR : Nat} (hd : DR + 4 ≤ d) (kR : zHM → Option (Int × zHM)) (hkR : ∀ (d' : Nat), DR ≤ d' → ∀ (h : zHM) (v : (Int × zHM)), kR h = some v → zRu2 spec d' 283 [(22, 0)] (hc, h, o) (some (0, v.1)) (hc, v.2, o)) (h : zHM) (v : (Int × zHM)) (e : F282b kR h = some v) : zRu2 spec d 282 [(22, 0)] (hc, h, o) (some (0, v.1)) (hc, v.2, o) := by
  refine zF_in (D := DR + 3) (mx := 2) (L := [some (22, 0), none]) (by decide +kernel) rfl rfl hd (fun d hd => ?_)
  unfold F282b at e
  obtain ⟨r1, q1, e⟩ := zB_s e
  refine zF_blk (m := []) (d := 0) (b := B282b_0) (gs := []) (c' := (1, [some (22, 0), none], [(22, 0)], (hc, h, o))) K282b_0 rfl trivial ?_
  refine zF_call (k := 283) (cl := 12) (n := 1) (i := .invokevirtual 407) (args := [(22, 0)]) (rest := []) (g1 := (hc, r1.2, o)) (r1 := some (0, r1.1)) (by decide +kernel) rfl rfl rfl (st' := [(0, r1.1)]) rfl (hkR _ (by omega)  h _ q1) ?_
  rcases zI_s e with ⟨q2, e⟩ | ⟨q2, e⟩
  · refine zF_blk (m := []) (d := 1) (b := B282b_3) (gs := [¬ r1.1 = 0]) (c' := (9, [some (22, 0), none], [], (hc, r1.2, o))) K282b_3 rfl ⟨q2, trivial⟩ ?_
    refine zF_blk (m := []) (d := 0) (b := B282b_1) (gs := []) (c' := (14, [some (22, 0), some (0, (r1.2 49 0))], [], (hc, r1.2, o))) K282b_1 rfl trivial ?_
    exact T282b_0 hd kR hkR zFu (r1.2 49 0) r1.2 _ e
  · refine zF_blk (m := []) (d := 0) (b := B282b_3) (gs := [¬ (¬ r1.1 = 0)]) (c' := (7, [some (22, 0), none], [], (hc, r1.2, o))) K282b_3 rfl ⟨q2, trivial⟩ ?_
    refine zF_blk (m := []) (d := 0) (b := B282b_2) (gs := []) (c' := (8, [some (22, 0), none], [(0, 0)], (hc, r1.2, o))) K282b_2 rfl trivial ?_
    exact zF_rbM (by decide +kernel) (Or.inl rfl) e
def B281b_0 : List zRow := [(0, .aload_n 0, 1, (0, 0, 0))]
theorem K281b_0 : zRk 281 B281b_0 = true := by decide +kernel
def B281b_1 : List zRow := [(9, .aload_n 0, 1, (0, 0, 0)), (10, .getfield 400, 3, (12, 49, 0)), (13, .istore_n 1, 1, (0, 0, 0))]
theorem K281b_1 : zRk 281 B281b_1 = true := by decide +kernel
def B281b_2 : List zRow := [(7, .iconst 0, 1, (0, 0, 0))]
theorem K281b_2 : zRk 281 B281b_2 = true := by decide +kernel
def B281b_3 : List zRow := [(4, .ifCond .ne 5, 3, (0, 0, 0))]
theorem K281b_3 : zRk 281 B281b_3 = true := by decide +kernel
def B281b_4 : List zRow := [(14, .aload_n 0, 1, (0, 0, 0)), (15, .bipush 10, 2, (0, 0, 0))]
theorem K281b_4 : zRk 281 B281b_4 = true := by decide +kernel
def B281b_5 : List zRow := [(51, .aload_n 0, 1, (0, 0, 0)), (52, .iload_n 1, 1, (0, 0, 0)), (53, .putfield 400, 3, (12, 49, 0)), (56, .iconst 1, 1, (0, 0, 0))]
theorem K281b_5 : zRk 281 B281b_5 = true := by decide +kernel
def B281b_6 : List zRow := [(23, .aload_n 0, 1, (0, 0, 0))]
theorem K281b_6 : zRk 281 B281b_6 = true := by decide +kernel
def B281b_7 : List zRow := [(27, .aload_n 0, 1, (0, 0, 0))]
theorem K281b_7 : zRk 281 B281b_7 = true := by decide +kernel
def B281b_8 : List zRow := [(36, .aload_n 0, 1, (0, 0, 0)), (37, .iconst 3, 1, (0, 0, 0)), (38, .iload_n 1, 1, (0, 0, 0)), (39, .aload_n 0, 1, (0, 0, 0)), (40, .getfield 400, 3, (12, 49, 0)), (43, .iconst 0, 1, (0, 0, 0))]
theorem K281b_8 : zRk 281 B281b_8 = true := by decide +kernel
def B281b_9 : List zRow := [(47, .istore_n 1, 1, (0, 0, 0)), (48, .goto (-34), 3, (0, 0, 0))]
theorem K281b_9 : zRk 281 B281b_9 = true := by decide +kernel
def B281b_10 : List zRow := [(34, .iconst 0, 1, (0, 0, 0))]
theorem K281b_10 : zRk 281 B281b_10 = true := by decide +kernel
def B281b_11 : List zRow := [(31, .ifCond .ne 5, 3, (0, 0, 0))]
theorem K281b_11 : zRk 281 B281b_11 = true := by decide +kernel
def B281b_12 : List zRow := [(20, .ifCond .eq 31, 3, (0, 0, 0))]
theorem K281b_12 : zRk 281 B281b_12 = true := by decide +kernel
def F281b_0 (kR : zHM → Option (Int × zHM)) : Nat → Int → zHM → Option (Int × zHM)
  | 0, _, _ => none
  | n + 1, v1, h => (F181 10 h).bind fun r1 => if r1 = 0 then some (1, (mset h 49 0 v1)) else (F176 h).bind fun r2 => (F282b kR r2).bind fun r3 => if ¬ r3.1 = 0 then (F286 3 v1 (r3.2 49 0) 0 r3.2).bind fun r4 => (F281b_0 kR n) r4.1 r4.2 else some (0, r3.2)
set_option maxRecDepth 100000 in
theorem T281b_0 {spec : zRn zH2} {hc : zHC} {o : Int → Int} {d : Nat} {DR : Nat} (hd : DR + 4 ≤ d) (kR : zHM → Option (Int × zHM)) (hkR : ∀ (d' : Nat), DR ≤ d' → ∀ (h : zHM) (v : (Int × zHM)), kR h = some v → zRu2 spec d' 283 [(22, 0)] (hc, h, o) (some (0, v.1)) (hc, v.2, o)) : ∀ (n : Nat) (v1 : Int) (h : zHM) (v : (Int × zHM)), F281b_0 kR n v1 h = some v → zFin 0 (fun _ => 0) (zRu2 spec d) 281 (some (0, v.1)) (hc, v.2, o) (14, [some (22, 0), some (0, v1)], [], (hc, h, o)) := by
  intro n
  induction n with
  | zero => intro v1 h v e; unfold F281b_0 at e; cases e
  | succ n hk0 =>
    intro v1 h v e
    unfold F281b_0 at e
    obtain ⟨r1, q1, e⟩ := zB_s e
    refine zF_blk (m := []) (d := 0) (b := B281b_4) (gs := []) (c' := (17, [some (22, 0), some (0, v1)], [(0, 10), (22, 0)], (hc, h, o))) K281b_4 rfl trivial ?_
    refine zF_call (k := 181) (cl := 12) (n := 2) (i := .invokevirtual 199) (args := [(22, 0), (0, 10)]) (rest := []) (g1 := (hc, h, o)) (r1 := some (0, r1)) (by decide +kernel) rfl rfl rfl (st' := [(0, r1)]) rfl (S181 (by omega) 10 h _ q1) ?_
    rcases zI_s e with ⟨q2, e⟩ | ⟨q2, e⟩
    · refine zF_blk (m := []) (d := 1) (b := B281b_12) (gs := [r1 = 0]) (c' := (51, [some (22, 0), some (0, v1)], [], (hc, h, o))) K281b_12 rfl ⟨q2, trivial⟩ ?_
      refine zF_blk (m := []) (d := 0) (b := B281b_5) (gs := []) (c' := (57, [some (22, 0), some (0, v1)], [(0, 1)], (hc, (mset h 49 0 v1), o))) K281b_5 rfl trivial ?_
      exact zF_rbM (by decide +kernel) (Or.inr rfl) e
    · refine zF_blk (m := []) (d := 0) (b := B281b_12) (gs := [¬ (r1 = 0)]) (c' := (23, [some (22, 0), some (0, v1)], [], (hc, h, o))) K281b_12 rfl ⟨q2, trivial⟩ ?_
      obtain ⟨r2, q3, e⟩ := zB_s e
      refine zF_blk (m := []) (d := 0) (b := B281b_6) (gs := []) (c' := (24, [some (22, 0), some (0, v1)], [(22, 0)], (hc, h, o))) K281b_6 rfl trivial ?_
      refine zF_call (k := 176) (cl := 12) (n := 1) (i := .invokevirtual 162) (args := [(22, 0)]) (rest := []) (g1 := (hc, r2, o)) (r1 := none) (by decide +kernel) rfl rfl rfl (st' := []) rfl (S176 (by omega)  h _ q3) ?_
      obtain ⟨r3, q4, e⟩ := zB_s e
      refine zF_blk (m := []) (d := 0) (b := B281b_7) (gs := []) (c' := (28, [some (22, 0), some (0, v1)], [(22, 0)], (hc, r2, o))) K281b_7 rfl trivial ?_
      refine zF_call (k := 282) (cl := 12) (n := 1) (i := .invokevirtual 397) (args := [(22, 0)]) (rest := []) (g1 := (hc, r3.2, o)) (r1 := some (0, r3.1)) (by decide +kernel) rfl rfl rfl (st' := [(0, r3.1)]) rfl (S282b (by omega) kR hkR  r2 _ q4) ?_
      rcases zI_s e with ⟨q5, e⟩ | ⟨q5, e⟩
      · refine zF_blk (m := []) (d := 1) (b := B281b_11) (gs := [¬ r3.1 = 0]) (c' := (36, [some (22, 0), some (0, v1)], [], (hc, r3.2, o))) K281b_11 rfl ⟨q5, trivial⟩ ?_
        obtain ⟨r4, q6, e⟩ := zB_s e
        refine zF_blk (m := []) (d := 0) (b := B281b_8) (gs := []) (c' := (44, [some (22, 0), some (0, v1)], [(0, 0), (0, (r3.2 49 0)), (0, v1), (0, 3), (22, 0)], (hc, r3.2, o))) K281b_8 rfl trivial ?_
        refine zF_call (k := 286) (cl := 12) (n := 5) (i := .invokevirtual 403) (args := [(22, 0), (0, 3), (0, v1), (0, (r3.2 49 0)), (0, 0)]) (rest := []) (g1 := (hc, r4.2, o)) (r1 := some (0, r4.1)) (by decide +kernel) rfl rfl rfl (st' := [(0, r4.1)]) rfl (S286 (by omega) 3 v1 (r3.2 49 0) 0 r3.2 _ q6) ?_
        refine zF_blk (m := []) (d := 0) (b := B281b_9) (gs := []) (c' := (14, [some (22, 0), some (0, r4.1)], [], (hc, r4.2, o))) K281b_9 rfl trivial ?_
        exact hk0 r4.1 r4.2 _ e
      · refine zF_blk (m := []) (d := 0) (b := B281b_11) (gs := [¬ (¬ r3.1 = 0)]) (c' := (34, [some (22, 0), some (0, v1)], [], (hc, r3.2, o))) K281b_11 rfl ⟨q5, trivial⟩ ?_
        refine zF_blk (m := []) (d := 0) (b := B281b_10) (gs := []) (c' := (35, [some (22, 0), some (0, v1)], [(0, 0)], (hc, r3.2, o))) K281b_10 rfl trivial ?_
        exact zF_rbM (by decide +kernel) (Or.inl rfl) e
/-- EchoValeModel.readOr()Z -/
def F281b (kR : zHM → Option (Int × zHM)) (h : zHM) : Option (Int × zHM) := (F282b kR h).bind fun r1 => if ¬ r1.1 = 0 then F281b_0 kR zFu (r1.2 49 0) r1.2 else some (0, r1.2)
set_option maxRecDepth 100000 in
theorem S281b {spec : zRn zH2} {hc : zHC} {o : Int → Int} {d : Nat} {DR : Nat} (hd : DR + 5 ≤ d) (kR : zHM → Option (Int × zHM)) (hkR : ∀ (d' : Nat), DR ≤ d' → ∀ (h : zHM) (v : (Int × zHM)), kR h = some v → zRu2 spec d' 283 [(22, 0)] (hc, h, o) (some (0, v.1)) (hc, v.2, o)) (h : zHM) (v : (Int × zHM)) (e : F281b kR h = some v) : zRu2 spec d 281 [(22, 0)] (hc, h, o) (some (0, v.1)) (hc, v.2, o) := by
  refine zF_in (D := DR + 4) (mx := 2) (L := [some (22, 0), none]) (by decide +kernel) rfl rfl hd (fun d hd => ?_)
  unfold F281b at e
  obtain ⟨r1, q1, e⟩ := zB_s e
  refine zF_blk (m := []) (d := 0) (b := B281b_0) (gs := []) (c' := (1, [some (22, 0), none], [(22, 0)], (hc, h, o))) K281b_0 rfl trivial ?_
  refine zF_call (k := 282) (cl := 12) (n := 1) (i := .invokevirtual 397) (args := [(22, 0)]) (rest := []) (g1 := (hc, r1.2, o)) (r1 := some (0, r1.1)) (by decide +kernel) rfl rfl rfl (st' := [(0, r1.1)]) rfl (S282b (by omega) kR hkR  h _ q1) ?_
  rcases zI_s e with ⟨q2, e⟩ | ⟨q2, e⟩
  · refine zF_blk (m := []) (d := 1) (b := B281b_3) (gs := [¬ r1.1 = 0]) (c' := (9, [some (22, 0), none], [], (hc, r1.2, o))) K281b_3 rfl ⟨q2, trivial⟩ ?_
    refine zF_blk (m := []) (d := 0) (b := B281b_1) (gs := []) (c' := (14, [some (22, 0), some (0, (r1.2 49 0))], [], (hc, r1.2, o))) K281b_1 rfl trivial ?_
    exact T281b_0 hd kR hkR zFu (r1.2 49 0) r1.2 _ e
  · refine zF_blk (m := []) (d := 0) (b := B281b_3) (gs := [¬ (¬ r1.1 = 0)]) (c' := (7, [some (22, 0), none], [], (hc, r1.2, o))) K281b_3 rfl ⟨q2, trivial⟩ ?_
    refine zF_blk (m := []) (d := 0) (b := B281b_2) (gs := []) (c' := (8, [some (22, 0), none], [(0, 0)], (hc, r1.2, o))) K281b_2 rfl trivial ?_
    exact zF_rbM (by decide +kernel) (Or.inl rfl) e
def B284_0 : List zRow := [(0, .aload_n 0, 1, (0, 0, 0))]
theorem K284_0 : zRk 284 B284_0 = true := by decide +kernel
def B284_1 : List zRow := [(9, .aload_n 0, 1, (0, 0, 0)), (10, .bipush 41, 2, (0, 0, 0))]
theorem K284_1 : zRk 284 B284_1 = true := by decide +kernel
def B284_2 : List zRow := [(24, .aload_n 0, 1, (0, 0, 0))]
theorem K284_2 : zRk 284 B284_2 = true := by decide +kernel
def B284_3 : List zRow := [(28, .iconst 1, 1, (0, 0, 0))]
theorem K284_3 : zRk 284 B284_3 = true := by decide +kernel
def B284_4 : List zRow := [(18, .aload_n 0, 1, (0, 0, 0)), (19, .iconst 1, 1, (0, 0, 0))]
theorem K284_4 : zRk 284 B284_4 = true := by decide +kernel
def B284_5 : List zRow := [(15, .ifCond .ne 9, 3, (0, 0, 0))]
theorem K284_5 : zRk 284 B284_5 = true := by decide +kernel
def B284_6 : List zRow := [(7, .iconst 0, 1, (0, 0, 0))]
theorem K284_6 : zRk 284 B284_6 = true := by decide +kernel
def B284_7 : List zRow := [(4, .ifCond .ne 5, 3, (0, 0, 0))]
theorem K284_7 : zRk 284 B284_7 = true := by decide +kernel
/-- EchoValeModel.readBracket()Z -/
def F284 (kR : zHM → Option (Int × zHM)) (h : zHM) : Option (Int × zHM) := (F281b kR h).bind fun r1 => if ¬ r1.1 = 0 then (F202 41 r1.2).bind fun r2 => if ¬ r2 = 0 then (F176 r1.2).bind fun r3 => some (1, r3) else (F185 1 r1.2).bind fun r4 => zG (r4.1 = 0 ∨ r4.1 = 1) (some (r4.1, r4.2)) else some (0, r1.2)
set_option maxRecDepth 100000 in
theorem S284 {spec : zRn zH2} {hc : zHC} {o : Int → Int} {d : Nat} {DR : Nat} (hd : DR + 6 ≤ d) (kR : zHM → Option (Int × zHM)) (hkR : ∀ (d' : Nat), DR ≤ d' → ∀ (h : zHM) (v : (Int × zHM)), kR h = some v → zRu2 spec d' 283 [(22, 0)] (hc, h, o) (some (0, v.1)) (hc, v.2, o)) (h : zHM) (v : (Int × zHM)) (e : F284 kR h = some v) : zRu2 spec d 284 [(22, 0)] (hc, h, o) (some (0, v.1)) (hc, v.2, o) := by
  refine zF_in (D := DR + 5) (mx := 1) (L := [some (22, 0)]) (by decide +kernel) rfl rfl hd (fun d hd => ?_)
  unfold F284 at e
  obtain ⟨r1, q1, e⟩ := zB_s e
  refine zF_blk (m := []) (d := 0) (b := B284_0) (gs := []) (c' := (1, [some (22, 0)], [(22, 0)], (hc, h, o))) K284_0 rfl trivial ?_
  refine zF_call (k := 281) (cl := 12) (n := 1) (i := .invokevirtual 428) (args := [(22, 0)]) (rest := []) (g1 := (hc, r1.2, o)) (r1 := some (0, r1.1)) (by decide +kernel) rfl rfl rfl (st' := [(0, r1.1)]) rfl (S281b (by omega) kR hkR  h _ q1) ?_
  rcases zI_s e with ⟨q2, e⟩ | ⟨q2, e⟩
  · refine zF_blk (m := []) (d := 1) (b := B284_7) (gs := [¬ r1.1 = 0]) (c' := (9, [some (22, 0)], [], (hc, r1.2, o))) K284_7 rfl ⟨q2, trivial⟩ ?_
    obtain ⟨r2, q3, e⟩ := zB_s e
    refine zF_blk (m := []) (d := 0) (b := B284_1) (gs := []) (c' := (12, [some (22, 0)], [(0, 41), (22, 0)], (hc, r1.2, o))) K284_1 rfl trivial ?_
    refine zF_call (k := 202) (cl := 12) (n := 2) (i := .invokevirtual 165) (args := [(22, 0), (0, 41)]) (rest := []) (g1 := (hc, r1.2, o)) (r1 := some (0, r2)) (by decide +kernel) rfl rfl rfl (st' := [(0, r2)]) rfl (S202 (by omega) 41 r1.2 _ q3) ?_
    rcases zI_s e with ⟨q4, e⟩ | ⟨q4, e⟩
    · refine zF_blk (m := []) (d := 1) (b := B284_5) (gs := [¬ r2 = 0]) (c' := (24, [some (22, 0)], [], (hc, r1.2, o))) K284_5 rfl ⟨q4, trivial⟩ ?_
      obtain ⟨r3, q5, e⟩ := zB_s e
      refine zF_blk (m := []) (d := 0) (b := B284_2) (gs := []) (c' := (25, [some (22, 0)], [(22, 0)], (hc, r1.2, o))) K284_2 rfl trivial ?_
      refine zF_call (k := 176) (cl := 12) (n := 1) (i := .invokevirtual 162) (args := [(22, 0)]) (rest := []) (g1 := (hc, r3, o)) (r1 := none) (by decide +kernel) rfl rfl rfl (st' := []) rfl (S176 (by omega)  r1.2 _ q5) ?_
      refine zF_blk (m := []) (d := 0) (b := B284_3) (gs := []) (c' := (29, [some (22, 0)], [(0, 1)], (hc, r3, o))) K284_3 rfl trivial ?_
      exact zF_rbM (by decide +kernel) (Or.inr rfl) e
    · refine zF_blk (m := []) (d := 0) (b := B284_5) (gs := [¬ (¬ r2 = 0)]) (c' := (18, [some (22, 0)], [], (hc, r1.2, o))) K284_5 rfl ⟨q4, trivial⟩ ?_
      obtain ⟨r4, q6, e⟩ := zB_s e
      refine zF_blk (m := []) (d := 0) (b := B284_4) (gs := []) (c' := (20, [some (22, 0)], [(0, 1), (22, 0)], (hc, r1.2, o))) K284_4 rfl trivial ?_
      refine zF_call (k := 185) (cl := 12) (n := 2) (i := .invokevirtual 148) (args := [(22, 0), (0, 1)]) (rest := []) (g1 := (hc, r4.2, o)) (r1 := some (0, r4.1)) (by decide +kernel) rfl rfl rfl (st' := [(0, r4.1)]) rfl (S185 (by omega) 1 r1.2 _ q6) ?_
      obtain ⟨q7, e⟩ := zG_s e
      exact zF_rbM (by decide +kernel) q7 e
  · refine zF_blk (m := []) (d := 0) (b := B284_7) (gs := [¬ (¬ r1.1 = 0)]) (c' := (7, [some (22, 0)], [], (hc, r1.2, o))) K284_7 rfl ⟨q2, trivial⟩ ?_
    refine zF_blk (m := []) (d := 0) (b := B284_6) (gs := []) (c' := (8, [some (22, 0)], [(0, 0)], (hc, r1.2, o))) K284_6 rfl trivial ?_
    exact zF_rbM (by decide +kernel) (Or.inl rfl) e
def B283_0 : List zRow := [(0, .aload_n 0, 1, (0, 0, 0)), (1, .bipush 40, 2, (0, 0, 0))]
theorem K283_0 : zRk 283 B283_0 = true := by decide +kernel
def B283_1 : List zRow := [(6, .istore_n 1, 1, (0, 0, 0)), (7, .bipush 12, 2, (0, 0, 0)), (9, .istore_n 2, 1, (0, 0, 0))]
theorem K283_1 : zRk 283 B283_1 = true := by decide +kernel
def B283_2 : List zRow := [(16, .aload_n 0, 1, (0, 0, 0)), (17, .iload_n 2, 1, (0, 0, 0))]
theorem K283_2 : zRk 283 B283_2 = true := by decide +kernel
def B283_3 : List zRow := [(24, .iinc 2 1, 3, (0, 0, 0)), (27, .goto (-17), 3, (0, 0, 0))]
theorem K283_3 : zRk 283 B283_3 = true := by decide +kernel
def B283_4 : List zRow := [(21, .ifCond .ne 9, 3, (0, 0, 0))]
theorem K283_4 : zRk 283 B283_4 = true := by decide +kernel
def B283_5 : List zRow := [(10, .iload_n 2, 1, (0, 0, 0)), (11, .bipush 20, 2, (0, 0, 0)), (13, .if_icmp .gt 17, 3, (0, 0, 0))]
theorem K283_5 : zRk 283 B283_5 = true := by decide +kernel
def B283_6 : List zRow := [(40, .aload_n 0, 1, (0, 0, 0)), (41, .iconst 1, 1, (0, 0, 0))]
theorem K283_6 : zRk 283 B283_6 = true := by decide +kernel
def B283_7 : List zRow := [(34, .iload_n 2, 1, (0, 0, 0)), (35, .bipush 20, 2, (0, 0, 0)), (37, .if_icmp .le 9, 3, (0, 0, 0))]
theorem K283_7 : zRk 283 B283_7 = true := by decide +kernel
def B283_8 : List zRow := [(30, .iload_n 1, 1, (0, 0, 0)), (31, .ifCond .ne 15, 3, (0, 0, 0))]
theorem K283_8 : zRk 283 B283_8 = true := by decide +kernel
def B283_9 : List zRow := [(70, .aload_n 0, 1, (0, 0, 0)), (71, .dup, 1, (0, 0, 0)), (72, .getfield 410, 3, (12, 47, 0)), (75, .iconst 1, 1, (0, 0, 0)), (76, .iadd, 1, (0, 0, 0)), (77, .putfield 410, 3, (12, 47, 0)), (80, .aload_n 0, 1, (0, 0, 0)), (81, .dup, 1, (0, 0, 0)), (82, .getfield 413, 3, (12, 48, 0)), (85, .iconst 1, 1, (0, 0, 0)), (86, .iadd, 1, (0, 0, 0)), (87, .putfield 413, 3, (12, 48, 0)), (90, .aload_n 0, 1, (0, 0, 0))]
theorem K283_9 : zRk 283 B283_9 = true := by decide +kernel
def B283_10 : List zRow := [(160, .aload_n 0, 1, (0, 0, 0)), (161, .iload_n 2, 1, (0, 0, 0))]
theorem K283_10 : zRk 283 B283_10 = true := by decide +kernel
def B283_11 : List zRow := [(152, .aload_n 0, 1, (0, 0, 0)), (153, .iload_n 2, 1, (0, 0, 0))]
theorem K283_11 : zRk 283 B283_11 = true := by decide +kernel
def B283_12 : List zRow := [(157, .goto 8, 3, (0, 0, 0))]
theorem K283_12 : zRk 283 B283_12 = true := by decide +kernel
def B283_13 : List zRow := [(146, .iload_n 2, 1, (0, 0, 0)), (147, .bipush 17, 2, (0, 0, 0)), (149, .if_icmp .ge 11, 3, (0, 0, 0))]
theorem K283_13 : zRk 283 B283_13 = true := by decide +kernel
def B283_14 : List zRow := [(128, .aload_n 0, 1, (0, 0, 0)), (129, .aload_n 0, 1, (0, 0, 0)), (130, .bipush 50, 2, (0, 0, 0)), (132, .iload_n 2, 1, (0, 0, 0))]
theorem K283_14 : zRk 283 B283_14 = true := by decide +kernel
def B283_15 : List zRow := [(133, .iadd, 1, (0, 0, 0)), (134, .iconst 0, 1, (0, 0, 0)), (135, .iconst 0, 1, (0, 0, 0)), (136, .iconst 0, 1, (0, 0, 0))]
theorem K283_15 : zRk 283 B283_15 = true := by decide +kernel
def B283_16 : List zRow := [(140, .putfield 400, 3, (12, 49, 0)), (143, .goto 23, 3, (0, 0, 0))]
theorem K283_16 : zRk 283 B283_16 = true := by decide +kernel
def B283_17 : List zRow := [(122, .iload_n 2, 1, (0, 0, 0)), (123, .bipush 15, 2, (0, 0, 0)), (125, .if_icmp .ge 21, 3, (0, 0, 0))]
theorem K283_17 : zRk 283 B283_17 = true := by decide +kernel
def B283_18 : List zRow := [(114, .aload_n 0, 1, (0, 0, 0))]
theorem K283_18 : zRk 283 B283_18 = true := by decide +kernel
def B283_19 : List zRow := [(118, .istore_n 3, 1, (0, 0, 0)), (119, .goto 47, 3, (0, 0, 0))]
theorem K283_19 : zRk 283 B283_19 = true := by decide +kernel
def B283_20 : List zRow := [(108, .iload_n 2, 1, (0, 0, 0)), (109, .bipush 12, 2, (0, 0, 0)), (111, .if_icmp .ne 11, 3, (0, 0, 0))]
theorem K283_20 : zRk 283 B283_20 = true := by decide +kernel
def B283_21 : List zRow := [(100, .aload_n 0, 1, (0, 0, 0))]
theorem K283_21 : zRk 283 B283_21 = true := by decide +kernel
def B283_22 : List zRow := [(104, .istore_n 3, 1, (0, 0, 0)), (105, .goto 61, 3, (0, 0, 0))]
theorem K283_22 : zRk 283 B283_22 = true := by decide +kernel
def B283_23 : List zRow := [(94, .iconst 1, 1, (0, 0, 0)), (95, .istore_n 3, 1, (0, 0, 0)), (96, .iload_n 1, 1, (0, 0, 0)), (97, .ifCond .eq 11, 3, (0, 0, 0))]
theorem K283_23 : zRk 283 B283_23 = true := by decide +kernel
def B283_24 : List zRow := [(55, .aload_n 0, 1, (0, 0, 0)), (56, .getfield 413, 3, (12, 48, 0)), (59, .bipush 8, 2, (0, 0, 0)), (61, .if_icmp .ne 9, 3, (0, 0, 0))]
theorem K283_24 : zRk 283 B283_24 = true := by decide +kernel
def B283_25 : List zRow := [(46, .aload_n 0, 1, (0, 0, 0)), (47, .getfield 410, 3, (12, 47, 0)), (50, .bipush 20, 2, (0, 0, 0)), (52, .if_icmp .eq 12, 3, (0, 0, 0))]
theorem K283_25 : zRk 283 B283_25 = true := by decide +kernel
def B283_26 : List zRow := [(166, .aload_n 0, 1, (0, 0, 0)), (167, .dup, 1, (0, 0, 0)), (168, .getfield 413, 3, (12, 48, 0)), (171, .iconst 1, 1, (0, 0, 0)), (172, .isub, 1, (0, 0, 0)), (173, .putfield 413, 3, (12, 48, 0)), (176, .iload_n 3, 1, (0, 0, 0))]
theorem K283_26 : zRk 283 B283_26 = true := by decide +kernel
def B283_27 : List zRow := [(165, .istore_n 3, 1, (0, 0, 0))]
theorem K283_27 : zRk 283 B283_27 = true := by decide +kernel
def B283_28 : List zRow := [(64, .aload_n 0, 1, (0, 0, 0)), (65, .iconst 4, 1, (0, 0, 0))]
theorem K283_28 : zRk 283 B283_28 = true := by decide +kernel
def F283_3 (kR : zHM → Option (Int × zHM)) (h : zHM) : Option (Int × zHM) := (F185 4 h).bind fun r1 => zG (r1.1 = 0 ∨ r1.1 = 1) (some (r1.1, r1.2))
set_option maxRecDepth 100000 in
theorem T283_3 {spec : zRn zH2} {hc : zHC} {o : Int → Int} {d : Nat} {DR : Nat} (hd : DR + 6 ≤ d) (kR : zHM → Option (Int × zHM)) (hkR : ∀ (d' : Nat), DR ≤ d' → ∀ (h : zHM) (v : (Int × zHM)), kR h = some v → zRu2 spec d' 283 [(22, 0)] (hc, h, o) (some (0, v.1)) (hc, v.2, o)) (h : zHM) (v : (Int × zHM)) (e : F283_3 kR h = some v) : zFin 0 (fun _ => 0) (zRu2 spec d) 283 (some (0, v.1)) (hc, v.2, o) (64, [some (22, 0), none, none, none], [], (hc, h, o)) := by
  unfold F283_3 at e
  obtain ⟨r1, q1, e⟩ := zB_s e
  refine zF_blk (m := []) (d := 0) (b := B283_28) (gs := []) (c' := (66, [some (22, 0), none, none, none], [(0, 4), (22, 0)], (hc, h, o))) K283_28 rfl trivial ?_
  refine zF_call (k := 185) (cl := 12) (n := 2) (i := .invokevirtual 148) (args := [(22, 0), (0, 4)]) (rest := []) (g1 := (hc, r1.2, o)) (r1 := some (0, r1.1)) (by decide +kernel) rfl rfl rfl (st' := [(0, r1.1)]) rfl (S185 (by omega) 4 h _ q1) ?_
  obtain ⟨q2, e⟩ := zG_s e
  exact zF_rbM (by decide +kernel) q2 e
def F283_5 (kR : zHM → Option (Int × zHM)) (v3 : Int) (h : zHM) : Option (Int × zHM) := zG (v3 = 0 ∨ v3 = 1) (some (v3, (mset h 48 0 (wsub (h 48 0) 1))))
set_option maxRecDepth 100000 in
theorem T283_5 {spec : zRn zH2} {hc : zHC} {o : Int → Int} {d : Nat} {DR : Nat} (hd : DR + 6 ≤ d) (kR : zHM → Option (Int × zHM)) (hkR : ∀ (d' : Nat), DR ≤ d' → ∀ (h : zHM) (v : (Int × zHM)), kR h = some v → zRu2 spec d' 283 [(22, 0)] (hc, h, o) (some (0, v.1)) (hc, v.2, o)) (v3 : Int) (h : zHM) (v : (Int × zHM)) (e : F283_5 kR v3 h = some v) : zFin 0 (fun _ => 0) (zRu2 spec d) 283 (some (0, v.1)) (hc, v.2, o) (166, [some (22, 0), none, none, some (0, v3)], [], (hc, h, o)) := by
  unfold F283_5 at e
  obtain ⟨q1, e⟩ := zG_s e
  refine zF_blk (m := []) (d := 0) (b := B283_26) (gs := []) (c' := (177, [some (22, 0), none, none, some (0, v3)], [(0, v3)], (hc, (mset h 48 0 (wsub (h 48 0) 1)), o))) K283_26 rfl trivial ?_
  exact zF_rbM (by decide +kernel) q1 e
def F283_4 (kR : zHM → Option (Int × zHM)) (s0 : Int) (h : zHM) : Option (Int × zHM) := F283_5 kR s0 h
set_option maxRecDepth 100000 in
theorem T283_4 {spec : zRn zH2} {hc : zHC} {o : Int → Int} {d : Nat} {DR : Nat} (hd : DR + 6 ≤ d) (kR : zHM → Option (Int × zHM)) (hkR : ∀ (d' : Nat), DR ≤ d' → ∀ (h : zHM) (v : (Int × zHM)), kR h = some v → zRu2 spec d' 283 [(22, 0)] (hc, h, o) (some (0, v.1)) (hc, v.2, o)) (s0 : Int) (h : zHM) (v : (Int × zHM)) (e : F283_4 kR s0 h = some v) : zFin 0 (fun _ => 0) (zRu2 spec d) 283 (some (0, v.1)) (hc, v.2, o) (165, [some (22, 0), none, none, none], [(0, s0)], (hc, h, o)) := by
  unfold F283_4 at e
  refine zF_blk (m := []) (d := 0) (b := B283_27) (gs := []) (c' := (166, [some (22, 0), none, none, some (0, s0)], [], (hc, h, o))) K283_27 rfl trivial ?_
  exact T283_5 hd kR hkR s0 h _ e
def F283_2 (kR : zHM → Option (Int × zHM)) (v1 : Int) (v2 : Int) (h : zHM) : Option (Int × zHM) := if (h 47 0) = 20 then F283_3 kR h else if ¬ (h 48 0) = 8 then (F176 (mset (mset h 47 0 (wadd (h 47 0) 1)) 48 0 (wadd ((mset h 47 0 (wadd (h 47 0) 1)) 48 0) 1))).bind fun r1 => if v1 = 0 then if ¬ v2 = 12 then if 15 ≤ v2 then if 17 ≤ v2 then (F288 v2 r1).bind fun r2 => F283_4 kR r2.1 r2.2 else (F287 v2 r1).bind fun r3 => F283_4 kR r3.1 r3.2 else (F286 (wadd 50 v2) 0 0 0 r1).bind fun r4 => F283_5 kR 1 (mset r4.2 49 0 r4.1) else (F285 kR r1).bind fun r5 => F283_5 kR r5.1 r5.2 else (F284 kR r1).bind fun r6 => F283_5 kR r6.1 r6.2 else F283_3 kR h
set_option maxRecDepth 100000 in
theorem T283_2 {spec : zRn zH2} {hc : zHC} {o : Int → Int} {d : Nat} {DR : Nat} (hd : DR + 6 ≤ d) (kR : zHM → Option (Int × zHM)) (hkR : ∀ (d' : Nat), DR ≤ d' → ∀ (h : zHM) (v : (Int × zHM)), kR h = some v → zRu2 spec d' 283 [(22, 0)] (hc, h, o) (some (0, v.1)) (hc, v.2, o)) (v1 : Int) (v2 : Int) (h : zHM) (v : (Int × zHM)) (e : F283_2 kR v1 v2 h = some v) : zFin 0 (fun _ => 0) (zRu2 spec d) 283 (some (0, v.1)) (hc, v.2, o) (46, [some (22, 0), some (0, v1), some (0, v2), none], [], (hc, h, o)) := by
  unfold F283_2 at e
  rcases zI_s e with ⟨q1, e⟩ | ⟨q1, e⟩
  · refine zF_blk (m := []) (d := 1) (b := B283_25) (gs := [(h 47 0) = 20]) (c' := (64, [some (22, 0), some (0, v1), some (0, v2), none], [], (hc, h, o))) K283_25 rfl ⟨q1, trivial⟩ ?_
    refine zF_blk (m := [true, false, false, false]) (d := 0) (b := []) (gs := []) (c' := (64, [some (22, 0), none, none, none], [], (hc, h, o))) rfl rfl trivial ?_
    exact T283_3 hd kR hkR h _ e
  · refine zF_blk (m := []) (d := 0) (b := B283_25) (gs := [¬ ((h 47 0) = 20)]) (c' := (55, [some (22, 0), some (0, v1), some (0, v2), none], [], (hc, h, o))) K283_25 rfl ⟨q1, trivial⟩ ?_
    rcases zI_s e with ⟨q2, e⟩ | ⟨q2, e⟩
    · refine zF_blk (m := []) (d := 1) (b := B283_24) (gs := [¬ (h 48 0) = 8]) (c' := (70, [some (22, 0), some (0, v1), some (0, v2), none], [], (hc, h, o))) K283_24 rfl ⟨q2, trivial⟩ ?_
      obtain ⟨r1, q3, e⟩ := zB_s e
      refine zF_blk (m := []) (d := 0) (b := B283_9) (gs := []) (c' := (91, [some (22, 0), some (0, v1), some (0, v2), none], [(22, 0)], (hc, (mset (mset h 47 0 (wadd (h 47 0) 1)) 48 0 (wadd ((mset h 47 0 (wadd (h 47 0) 1)) 48 0) 1)), o))) K283_9 rfl trivial ?_
      refine zF_call (k := 176) (cl := 12) (n := 1) (i := .invokevirtual 162) (args := [(22, 0)]) (rest := []) (g1 := (hc, r1, o)) (r1 := none) (by decide +kernel) rfl rfl rfl (st' := []) rfl (S176 (by omega)  (mset (mset h 47 0 (wadd (h 47 0) 1)) 48 0 (wadd ((mset h 47 0 (wadd (h 47 0) 1)) 48 0) 1)) _ q3) ?_
      rcases zI_s e with ⟨q4, e⟩ | ⟨q4, e⟩
      · refine zF_blk (m := []) (d := 1) (b := B283_23) (gs := [v1 = 0]) (c' := (108, [some (22, 0), some (0, v1), some (0, v2), some (0, 1)], [], (hc, r1, o))) K283_23 rfl ⟨q4, trivial⟩ ?_
        rcases zI_s e with ⟨q5, e⟩ | ⟨q5, e⟩
        · refine zF_blk (m := []) (d := 1) (b := B283_20) (gs := [¬ v2 = 12]) (c' := (122, [some (22, 0), some (0, v1), some (0, v2), some (0, 1)], [], (hc, r1, o))) K283_20 rfl ⟨q5, trivial⟩ ?_
          rcases zI_s e with ⟨q6, e⟩ | ⟨q6, e⟩
          · refine zF_blk (m := []) (d := 1) (b := B283_17) (gs := [15 ≤ v2]) (c' := (146, [some (22, 0), some (0, v1), some (0, v2), some (0, 1)], [], (hc, r1, o))) K283_17 rfl ⟨q6, trivial⟩ ?_
            rcases zI_s e with ⟨q7, e⟩ | ⟨q7, e⟩
            · refine zF_blk (m := []) (d := 1) (b := B283_13) (gs := [17 ≤ v2]) (c' := (160, [some (22, 0), some (0, v1), some (0, v2), some (0, 1)], [], (hc, r1, o))) K283_13 rfl ⟨q7, trivial⟩ ?_
              obtain ⟨r2, q8, e⟩ := zB_s e
              refine zF_blk (m := []) (d := 0) (b := B283_10) (gs := []) (c' := (162, [some (22, 0), some (0, v1), some (0, v2), some (0, 1)], [(0, v2), (22, 0)], (hc, r1, o))) K283_10 rfl trivial ?_
              refine zF_call (k := 288) (cl := 12) (n := 2) (i := .invokevirtual 425) (args := [(22, 0), (0, v2)]) (rest := []) (g1 := (hc, r2.2, o)) (r1 := some (0, r2.1)) (by decide +kernel) rfl rfl rfl (st' := [(0, r2.1)]) rfl (S288 (by omega) v2 r1 _ q8) ?_
              refine zF_blk (m := [true, false, false, false]) (d := 0) (b := []) (gs := []) (c' := (165, [some (22, 0), none, none, none], [(0, r2.1)], (hc, r2.2, o))) rfl rfl trivial ?_
              exact T283_4 hd kR hkR r2.1 r2.2 _ e
            · refine zF_blk (m := []) (d := 0) (b := B283_13) (gs := [¬ (17 ≤ v2)]) (c' := (152, [some (22, 0), some (0, v1), some (0, v2), some (0, 1)], [], (hc, r1, o))) K283_13 rfl ⟨q7, trivial⟩ ?_
              obtain ⟨r3, q9, e⟩ := zB_s e
              refine zF_blk (m := []) (d := 0) (b := B283_11) (gs := []) (c' := (154, [some (22, 0), some (0, v1), some (0, v2), some (0, 1)], [(0, v2), (22, 0)], (hc, r1, o))) K283_11 rfl trivial ?_
              refine zF_call (k := 287) (cl := 12) (n := 2) (i := .invokevirtual 422) (args := [(22, 0), (0, v2)]) (rest := []) (g1 := (hc, r3.2, o)) (r1 := some (0, r3.1)) (by decide +kernel) rfl rfl rfl (st' := [(0, r3.1)]) rfl (S287 (by omega) v2 r1 _ q9) ?_
              refine zF_blk (m := []) (d := 0) (b := B283_12) (gs := []) (c' := (165, [some (22, 0), some (0, v1), some (0, v2), some (0, 1)], [(0, r3.1)], (hc, r3.2, o))) K283_12 rfl trivial ?_
              refine zF_blk (m := [true, false, false, false]) (d := 0) (b := []) (gs := []) (c' := (165, [some (22, 0), none, none, none], [(0, r3.1)], (hc, r3.2, o))) rfl rfl trivial ?_
              exact T283_4 hd kR hkR r3.1 r3.2 _ e
          · refine zF_blk (m := []) (d := 0) (b := B283_17) (gs := [¬ (15 ≤ v2)]) (c' := (128, [some (22, 0), some (0, v1), some (0, v2), some (0, 1)], [], (hc, r1, o))) K283_17 rfl ⟨q6, trivial⟩ ?_
            refine zF_blk (m := []) (d := 0) (b := B283_14) (gs := []) (c' := (133, [some (22, 0), some (0, v1), some (0, v2), some (0, 1)], [(0, v2), (0, 50), (22, 0), (22, 0)], (hc, r1, o))) K283_14 rfl trivial ?_
            obtain ⟨r4, q10, e⟩ := zB_s e
            refine zF_blk (m := []) (d := 0) (b := B283_15) (gs := []) (c' := (137, [some (22, 0), some (0, v1), some (0, v2), some (0, 1)], [(0, 0), (0, 0), (0, 0), (0, (wadd 50 v2)), (22, 0), (22, 0)], (hc, r1, o))) K283_15 rfl trivial ?_
            refine zF_call (k := 286) (cl := 12) (n := 5) (i := .invokevirtual 403) (args := [(22, 0), (0, (wadd 50 v2)), (0, 0), (0, 0), (0, 0)]) (rest := [(22, 0)]) (g1 := (hc, r4.2, o)) (r1 := some (0, r4.1)) (by decide +kernel) rfl rfl rfl (st' := [(0, r4.1), (22, 0)]) rfl (S286 (by omega) (wadd 50 v2) 0 0 0 r1 _ q10) ?_
            refine zF_blk (m := []) (d := 0) (b := B283_16) (gs := []) (c' := (166, [some (22, 0), some (0, v1), some (0, v2), some (0, 1)], [], (hc, (mset r4.2 49 0 r4.1), o))) K283_16 rfl trivial ?_
            refine zF_blk (m := [true, false, false, true]) (d := 0) (b := []) (gs := []) (c' := (166, [some (22, 0), none, none, some (0, 1)], [], (hc, (mset r4.2 49 0 r4.1), o))) rfl rfl trivial ?_
            exact T283_5 hd kR hkR 1 (mset r4.2 49 0 r4.1) _ e
        · refine zF_blk (m := []) (d := 0) (b := B283_20) (gs := [¬ (¬ v2 = 12)]) (c' := (114, [some (22, 0), some (0, v1), some (0, v2), some (0, 1)], [], (hc, r1, o))) K283_20 rfl ⟨q5, trivial⟩ ?_
          obtain ⟨r5, q11, e⟩ := zB_s e
          refine zF_blk (m := []) (d := 0) (b := B283_18) (gs := []) (c' := (115, [some (22, 0), some (0, v1), some (0, v2), some (0, 1)], [(22, 0)], (hc, r1, o))) K283_18 rfl trivial ?_
          refine zF_call (k := 285) (cl := 12) (n := 1) (i := .invokevirtual 419) (args := [(22, 0)]) (rest := []) (g1 := (hc, r5.2, o)) (r1 := some (0, r5.1)) (by decide +kernel) rfl rfl rfl (st' := [(0, r5.1)]) rfl (S285 (by omega) kR hkR  r1 _ q11) ?_
          refine zF_blk (m := []) (d := 0) (b := B283_19) (gs := []) (c' := (166, [some (22, 0), some (0, v1), some (0, v2), some (0, r5.1)], [], (hc, r5.2, o))) K283_19 rfl trivial ?_
          refine zF_blk (m := [true, false, false, true]) (d := 0) (b := []) (gs := []) (c' := (166, [some (22, 0), none, none, some (0, r5.1)], [], (hc, r5.2, o))) rfl rfl trivial ?_
          exact T283_5 hd kR hkR r5.1 r5.2 _ e
      · refine zF_blk (m := []) (d := 0) (b := B283_23) (gs := [¬ (v1 = 0)]) (c' := (100, [some (22, 0), some (0, v1), some (0, v2), some (0, 1)], [], (hc, r1, o))) K283_23 rfl ⟨q4, trivial⟩ ?_
        obtain ⟨r6, q12, e⟩ := zB_s e
        refine zF_blk (m := []) (d := 0) (b := B283_21) (gs := []) (c' := (101, [some (22, 0), some (0, v1), some (0, v2), some (0, 1)], [(22, 0)], (hc, r1, o))) K283_21 rfl trivial ?_
        refine zF_call (k := 284) (cl := 12) (n := 1) (i := .invokevirtual 416) (args := [(22, 0)]) (rest := []) (g1 := (hc, r6.2, o)) (r1 := some (0, r6.1)) (by decide +kernel) rfl rfl rfl (st' := [(0, r6.1)]) rfl (S284 (by omega) kR hkR  r1 _ q12) ?_
        refine zF_blk (m := []) (d := 0) (b := B283_22) (gs := []) (c' := (166, [some (22, 0), some (0, v1), some (0, v2), some (0, r6.1)], [], (hc, r6.2, o))) K283_22 rfl trivial ?_
        refine zF_blk (m := [true, false, false, true]) (d := 0) (b := []) (gs := []) (c' := (166, [some (22, 0), none, none, some (0, r6.1)], [], (hc, r6.2, o))) rfl rfl trivial ?_
        exact T283_5 hd kR hkR r6.1 r6.2 _ e
    · refine zF_blk (m := []) (d := 0) (b := B283_24) (gs := [¬ (¬ (h 48 0) = 8)]) (c' := (64, [some (22, 0), some (0, v1), some (0, v2), none], [], (hc, h, o))) K283_24 rfl ⟨q2, trivial⟩ ?_
      refine zF_blk (m := [true, false, false, false]) (d := 0) (b := []) (gs := []) (c' := (64, [some (22, 0), none, none, none], [], (hc, h, o))) rfl rfl trivial ?_
      exact T283_3 hd kR hkR h _ e
def F283_1 (kR : zHM → Option (Int × zHM)) (v1 : Int) (v2 : Int) (h : zHM) : Option (Int × zHM) := if ¬ v1 = 0 then F283_2 kR v1 v2 h else if v2 ≤ 20 then F283_2 kR v1 v2 h else (F185 1 h).bind fun r1 => zG (r1.1 = 0 ∨ r1.1 = 1) (some (r1.1, r1.2))
set_option maxRecDepth 100000 in
theorem T283_1 {spec : zRn zH2} {hc : zHC} {o : Int → Int} {d : Nat} {DR : Nat} (hd : DR + 6 ≤ d) (kR : zHM → Option (Int × zHM)) (hkR : ∀ (d' : Nat), DR ≤ d' → ∀ (h : zHM) (v : (Int × zHM)), kR h = some v → zRu2 spec d' 283 [(22, 0)] (hc, h, o) (some (0, v.1)) (hc, v.2, o)) (v1 : Int) (v2 : Int) (h : zHM) (v : (Int × zHM)) (e : F283_1 kR v1 v2 h = some v) : zFin 0 (fun _ => 0) (zRu2 spec d) 283 (some (0, v.1)) (hc, v.2, o) (30, [some (22, 0), some (0, v1), some (0, v2), none], [], (hc, h, o)) := by
  unfold F283_1 at e
  rcases zI_s e with ⟨q1, e⟩ | ⟨q1, e⟩
  · refine zF_blk (m := []) (d := 1) (b := B283_8) (gs := [¬ v1 = 0]) (c' := (46, [some (22, 0), some (0, v1), some (0, v2), none], [], (hc, h, o))) K283_8 rfl ⟨q1, trivial⟩ ?_
    exact T283_2 hd kR hkR v1 v2 h _ e
  · refine zF_blk (m := []) (d := 0) (b := B283_8) (gs := [¬ (¬ v1 = 0)]) (c' := (34, [some (22, 0), some (0, v1), some (0, v2), none], [], (hc, h, o))) K283_8 rfl ⟨q1, trivial⟩ ?_
    rcases zI_s e with ⟨q2, e⟩ | ⟨q2, e⟩
    · refine zF_blk (m := []) (d := 1) (b := B283_7) (gs := [v2 ≤ 20]) (c' := (46, [some (22, 0), some (0, v1), some (0, v2), none], [], (hc, h, o))) K283_7 rfl ⟨q2, trivial⟩ ?_
      exact T283_2 hd kR hkR v1 v2 h _ e
    · refine zF_blk (m := []) (d := 0) (b := B283_7) (gs := [¬ (v2 ≤ 20)]) (c' := (40, [some (22, 0), some (0, v1), some (0, v2), none], [], (hc, h, o))) K283_7 rfl ⟨q2, trivial⟩ ?_
      obtain ⟨r1, q3, e⟩ := zB_s e
      refine zF_blk (m := []) (d := 0) (b := B283_6) (gs := []) (c' := (42, [some (22, 0), some (0, v1), some (0, v2), none], [(0, 1), (22, 0)], (hc, h, o))) K283_6 rfl trivial ?_
      refine zF_call (k := 185) (cl := 12) (n := 2) (i := .invokevirtual 148) (args := [(22, 0), (0, 1)]) (rest := []) (g1 := (hc, r1.2, o)) (r1 := some (0, r1.1)) (by decide +kernel) rfl rfl rfl (st' := [(0, r1.1)]) rfl (S185 (by omega) 1 h _ q3) ?_
      obtain ⟨q4, e⟩ := zG_s e
      exact zF_rbM (by decide +kernel) q4 e
def F283_0 (kR : zHM → Option (Int × zHM)) : Nat → Int → Int → zHM → Option (Int × zHM)
  | 0, _, _, _ => none
  | n + 1, v1, v2, h => if 20 < v2 then F283_1 kR v1 v2 h else (F181 v2 h).bind fun r1 => if ¬ r1 = 0 then F283_1 kR v1 v2 h else (F283_0 kR n) v1 (wadd v2 1) h
set_option maxRecDepth 100000 in
theorem T283_0 {spec : zRn zH2} {hc : zHC} {o : Int → Int} {d : Nat} {DR : Nat} (hd : DR + 6 ≤ d) (kR : zHM → Option (Int × zHM)) (hkR : ∀ (d' : Nat), DR ≤ d' → ∀ (h : zHM) (v : (Int × zHM)), kR h = some v → zRu2 spec d' 283 [(22, 0)] (hc, h, o) (some (0, v.1)) (hc, v.2, o)) : ∀ (n : Nat) (v1 : Int) (v2 : Int) (h : zHM) (v : (Int × zHM)), F283_0 kR n v1 v2 h = some v → zFin 0 (fun _ => 0) (zRu2 spec d) 283 (some (0, v.1)) (hc, v.2, o) (10, [some (22, 0), some (0, v1), some (0, v2), none], [], (hc, h, o)) := by
  intro n
  induction n with
  | zero => intro v1 v2 h v e; unfold F283_0 at e; cases e
  | succ n hk0 =>
    intro v1 v2 h v e
    unfold F283_0 at e
    rcases zI_s e with ⟨q1, e⟩ | ⟨q1, e⟩
    · refine zF_blk (m := []) (d := 1) (b := B283_5) (gs := [20 < v2]) (c' := (30, [some (22, 0), some (0, v1), some (0, v2), none], [], (hc, h, o))) K283_5 rfl ⟨q1, trivial⟩ ?_
      exact T283_1 hd kR hkR v1 v2 h _ e
    · refine zF_blk (m := []) (d := 0) (b := B283_5) (gs := [¬ (20 < v2)]) (c' := (16, [some (22, 0), some (0, v1), some (0, v2), none], [], (hc, h, o))) K283_5 rfl ⟨q1, trivial⟩ ?_
      obtain ⟨r1, q2, e⟩ := zB_s e
      refine zF_blk (m := []) (d := 0) (b := B283_2) (gs := []) (c' := (18, [some (22, 0), some (0, v1), some (0, v2), none], [(0, v2), (22, 0)], (hc, h, o))) K283_2 rfl trivial ?_
      refine zF_call (k := 181) (cl := 12) (n := 2) (i := .invokevirtual 199) (args := [(22, 0), (0, v2)]) (rest := []) (g1 := (hc, h, o)) (r1 := some (0, r1)) (by decide +kernel) rfl rfl rfl (st' := [(0, r1)]) rfl (S181 (by omega) v2 h _ q2) ?_
      rcases zI_s e with ⟨q3, e⟩ | ⟨q3, e⟩
      · refine zF_blk (m := []) (d := 1) (b := B283_4) (gs := [¬ r1 = 0]) (c' := (30, [some (22, 0), some (0, v1), some (0, v2), none], [], (hc, h, o))) K283_4 rfl ⟨q3, trivial⟩ ?_
        exact T283_1 hd kR hkR v1 v2 h _ e
      · refine zF_blk (m := []) (d := 0) (b := B283_4) (gs := [¬ (¬ r1 = 0)]) (c' := (24, [some (22, 0), some (0, v1), some (0, v2), none], [], (hc, h, o))) K283_4 rfl ⟨q3, trivial⟩ ?_
        refine zF_blk (m := []) (d := 0) (b := B283_3) (gs := []) (c' := (10, [some (22, 0), some (0, v1), some (0, (wadd v2 1)), none], [], (hc, h, o))) K283_3 rfl trivial ?_
        exact hk0 v1 (wadd v2 1) h _ e
/-- EchoValeModel.readOne()Z -/
def F283 (kR : zHM → Option (Int × zHM)) (h : zHM) : Option (Int × zHM) := (F202 40 h).bind fun r1 => F283_0 kR zFu r1 12 h
set_option maxRecDepth 100000 in
theorem S283 {spec : zRn zH2} {hc : zHC} {o : Int → Int} {d : Nat} {DR : Nat} (hd : DR + 7 ≤ d) (kR : zHM → Option (Int × zHM)) (hkR : ∀ (d' : Nat), DR ≤ d' → ∀ (h : zHM) (v : (Int × zHM)), kR h = some v → zRu2 spec d' 283 [(22, 0)] (hc, h, o) (some (0, v.1)) (hc, v.2, o)) (h : zHM) (v : (Int × zHM)) (e : F283 kR h = some v) : zRu2 spec d 283 [(22, 0)] (hc, h, o) (some (0, v.1)) (hc, v.2, o) := by
  refine zF_in (D := DR + 6) (mx := 4) (L := [some (22, 0), none, none, none]) (by decide +kernel) rfl rfl hd (fun d hd => ?_)
  unfold F283 at e
  obtain ⟨r1, q1, e⟩ := zB_s e
  refine zF_blk (m := []) (d := 0) (b := B283_0) (gs := []) (c' := (3, [some (22, 0), none, none, none], [(0, 40), (22, 0)], (hc, h, o))) K283_0 rfl trivial ?_
  refine zF_call (k := 202) (cl := 12) (n := 2) (i := .invokevirtual 165) (args := [(22, 0), (0, 40)]) (rest := []) (g1 := (hc, h, o)) (r1 := some (0, r1)) (by decide +kernel) rfl rfl rfl (st' := [(0, r1)]) rfl (S202 (by omega) 40 h _ q1) ?_
  refine zF_blk (m := []) (d := 0) (b := B283_1) (gs := []) (c' := (10, [some (22, 0), some (0, r1), some (0, 12), none], [], (hc, h, o))) K283_1 rfl trivial ?_
  exact T283_0 hd kR hkR zFu r1 12 h _ e
def F283r : Nat → zHM → Option (Int × zHM)
  | 0, _ => none
  | n + 1, h => F283 (F283r n) h
theorem S283r {spec : zRn zH2} {hc : zHC} {o : Int → Int} : ∀ (n : Nat) {d : Nat} (hd : 7 * n ≤ d) (h : zHM) (v : (Int × zHM)) (e : F283r n h = some v), zRu2 spec d 283 [(22, 0)] (hc, h, o) (some (0, v.1)) (hc, v.2, o) := by
  intro n
  induction n with
  | zero => intro d hd h v e; unfold F283r at e; cases e
  | succ n ih =>
    intro d hd h v e
    unfold F283r at e
    exact S283 (DR := 7 * n) (by omega) (F283r n) (fun d hd h v e => ih hd h v e) h v e
def B282_0 : List zRow := [(0, .aload_n 0, 1, (0, 0, 0))]
theorem K282_0 : zRk 282 B282_0 = true := by decide +kernel
def B282_1 : List zRow := [(9, .aload_n 0, 1, (0, 0, 0)), (10, .getfield 400, 3, (12, 49, 0)), (13, .istore_n 1, 1, (0, 0, 0))]
theorem K282_1 : zRk 282 B282_1 = true := by decide +kernel
def B282_2 : List zRow := [(7, .iconst 0, 1, (0, 0, 0))]
theorem K282_2 : zRk 282 B282_2 = true := by decide +kernel
def B282_3 : List zRow := [(4, .ifCond .ne 5, 3, (0, 0, 0))]
theorem K282_3 : zRk 282 B282_3 = true := by decide +kernel
def B282_4 : List zRow := [(14, .aload_n 0, 1, (0, 0, 0)), (15, .bipush 11, 2, (0, 0, 0))]
theorem K282_4 : zRk 282 B282_4 = true := by decide +kernel
def B282_5 : List zRow := [(51, .aload_n 0, 1, (0, 0, 0)), (52, .iload_n 1, 1, (0, 0, 0)), (53, .putfield 400, 3, (12, 49, 0)), (56, .iconst 1, 1, (0, 0, 0))]
theorem K282_5 : zRk 282 B282_5 = true := by decide +kernel
def B282_6 : List zRow := [(23, .aload_n 0, 1, (0, 0, 0))]
theorem K282_6 : zRk 282 B282_6 = true := by decide +kernel
def B282_7 : List zRow := [(27, .aload_n 0, 1, (0, 0, 0))]
theorem K282_7 : zRk 282 B282_7 = true := by decide +kernel
def B282_8 : List zRow := [(36, .aload_n 0, 1, (0, 0, 0)), (37, .iconst 2, 1, (0, 0, 0)), (38, .iload_n 1, 1, (0, 0, 0)), (39, .aload_n 0, 1, (0, 0, 0)), (40, .getfield 400, 3, (12, 49, 0)), (43, .iconst 0, 1, (0, 0, 0))]
theorem K282_8 : zRk 282 B282_8 = true := by decide +kernel
def B282_9 : List zRow := [(47, .istore_n 1, 1, (0, 0, 0)), (48, .goto (-34), 3, (0, 0, 0))]
theorem K282_9 : zRk 282 B282_9 = true := by decide +kernel
def B282_10 : List zRow := [(34, .iconst 0, 1, (0, 0, 0))]
theorem K282_10 : zRk 282 B282_10 = true := by decide +kernel
def B282_11 : List zRow := [(31, .ifCond .ne 5, 3, (0, 0, 0))]
theorem K282_11 : zRk 282 B282_11 = true := by decide +kernel
def B282_12 : List zRow := [(20, .ifCond .eq 31, 3, (0, 0, 0))]
theorem K282_12 : zRk 282 B282_12 = true := by decide +kernel
def F282_0 : Nat → Int → zHM → Option (Int × zHM)
  | 0, _, _ => none
  | n + 1, v1, h => (F181 11 h).bind fun r1 => if r1 = 0 then some (1, (mset h 49 0 v1)) else (F176 h).bind fun r2 => (F283r 300 r2).bind fun r3 => if ¬ r3.1 = 0 then (F286 2 v1 (r3.2 49 0) 0 r3.2).bind fun r4 => (F282_0 n) r4.1 r4.2 else some (0, r3.2)
set_option maxRecDepth 100000 in
theorem T282_0 {spec : zRn zH2} {hc : zHC} {o : Int → Int} {d : Nat} (hd : 2100 ≤ d) : ∀ (n : Nat) (v1 : Int) (h : zHM) (v : (Int × zHM)), F282_0 n v1 h = some v → zFin 0 (fun _ => 0) (zRu2 spec d) 282 (some (0, v.1)) (hc, v.2, o) (14, [some (22, 0), some (0, v1)], [], (hc, h, o)) := by
  intro n
  induction n with
  | zero => intro v1 h v e; unfold F282_0 at e; cases e
  | succ n hk0 =>
    intro v1 h v e
    unfold F282_0 at e
    obtain ⟨r1, q1, e⟩ := zB_s e
    refine zF_blk (m := []) (d := 0) (b := B282_4) (gs := []) (c' := (17, [some (22, 0), some (0, v1)], [(0, 11), (22, 0)], (hc, h, o))) K282_4 rfl trivial ?_
    refine zF_call (k := 181) (cl := 12) (n := 2) (i := .invokevirtual 199) (args := [(22, 0), (0, 11)]) (rest := []) (g1 := (hc, h, o)) (r1 := some (0, r1)) (by decide +kernel) rfl rfl rfl (st' := [(0, r1)]) rfl (S181 (Nat.le_trans (by decide) hd) 11 h _ q1) ?_
    rcases zI_s e with ⟨q2, e⟩ | ⟨q2, e⟩
    · refine zF_blk (m := []) (d := 1) (b := B282_12) (gs := [r1 = 0]) (c' := (51, [some (22, 0), some (0, v1)], [], (hc, h, o))) K282_12 rfl ⟨q2, trivial⟩ ?_
      refine zF_blk (m := []) (d := 0) (b := B282_5) (gs := []) (c' := (57, [some (22, 0), some (0, v1)], [(0, 1)], (hc, (mset h 49 0 v1), o))) K282_5 rfl trivial ?_
      exact zF_rbM (by decide +kernel) (Or.inr rfl) e
    · refine zF_blk (m := []) (d := 0) (b := B282_12) (gs := [¬ (r1 = 0)]) (c' := (23, [some (22, 0), some (0, v1)], [], (hc, h, o))) K282_12 rfl ⟨q2, trivial⟩ ?_
      obtain ⟨r2, q3, e⟩ := zB_s e
      refine zF_blk (m := []) (d := 0) (b := B282_6) (gs := []) (c' := (24, [some (22, 0), some (0, v1)], [(22, 0)], (hc, h, o))) K282_6 rfl trivial ?_
      refine zF_call (k := 176) (cl := 12) (n := 1) (i := .invokevirtual 162) (args := [(22, 0)]) (rest := []) (g1 := (hc, r2, o)) (r1 := none) (by decide +kernel) rfl rfl rfl (st' := []) rfl (S176 (Nat.le_trans (by decide) hd)  h _ q3) ?_
      obtain ⟨r3, q4, e⟩ := zB_s e
      refine zF_blk (m := []) (d := 0) (b := B282_7) (gs := []) (c' := (28, [some (22, 0), some (0, v1)], [(22, 0)], (hc, r2, o))) K282_7 rfl trivial ?_
      refine zF_call (k := 283) (cl := 12) (n := 1) (i := .invokevirtual 407) (args := [(22, 0)]) (rest := []) (g1 := (hc, r3.2, o)) (r1 := some (0, r3.1)) (by decide +kernel) rfl rfl rfl (st' := [(0, r3.1)]) rfl (S283r 300 (Nat.le_trans (by decide) hd)  r2 _ q4) ?_
      rcases zI_s e with ⟨q5, e⟩ | ⟨q5, e⟩
      · refine zF_blk (m := []) (d := 1) (b := B282_11) (gs := [¬ r3.1 = 0]) (c' := (36, [some (22, 0), some (0, v1)], [], (hc, r3.2, o))) K282_11 rfl ⟨q5, trivial⟩ ?_
        obtain ⟨r4, q6, e⟩ := zB_s e
        refine zF_blk (m := []) (d := 0) (b := B282_8) (gs := []) (c' := (44, [some (22, 0), some (0, v1)], [(0, 0), (0, (r3.2 49 0)), (0, v1), (0, 2), (22, 0)], (hc, r3.2, o))) K282_8 rfl trivial ?_
        refine zF_call (k := 286) (cl := 12) (n := 5) (i := .invokevirtual 403) (args := [(22, 0), (0, 2), (0, v1), (0, (r3.2 49 0)), (0, 0)]) (rest := []) (g1 := (hc, r4.2, o)) (r1 := some (0, r4.1)) (by decide +kernel) rfl rfl rfl (st' := [(0, r4.1)]) rfl (S286 (Nat.le_trans (by decide) hd) 2 v1 (r3.2 49 0) 0 r3.2 _ q6) ?_
        refine zF_blk (m := []) (d := 0) (b := B282_9) (gs := []) (c' := (14, [some (22, 0), some (0, r4.1)], [], (hc, r4.2, o))) K282_9 rfl trivial ?_
        exact hk0 r4.1 r4.2 _ e
      · refine zF_blk (m := []) (d := 0) (b := B282_11) (gs := [¬ (¬ r3.1 = 0)]) (c' := (34, [some (22, 0), some (0, v1)], [], (hc, r3.2, o))) K282_11 rfl ⟨q5, trivial⟩ ?_
        refine zF_blk (m := []) (d := 0) (b := B282_10) (gs := []) (c' := (35, [some (22, 0), some (0, v1)], [(0, 0)], (hc, r3.2, o))) K282_10 rfl trivial ?_
        exact zF_rbM (by decide +kernel) (Or.inl rfl) e
/-- EchoValeModel.readAnd()Z -/
def F282 (h : zHM) : Option (Int × zHM) := (F283r 300 h).bind fun r1 => if ¬ r1.1 = 0 then F282_0 zFu (r1.2 49 0) r1.2 else some (0, r1.2)
set_option maxRecDepth 100000 in
theorem S282 {spec : zRn zH2} {hc : zHC} {o : Int → Int} {d : Nat} (hd : 2101 ≤ d) (h : zHM) (v : (Int × zHM)) (e : F282 h = some v) : zRu2 spec d 282 [(22, 0)] (hc, h, o) (some (0, v.1)) (hc, v.2, o) := by
  refine zF_in (D := 2100) (mx := 2) (L := [some (22, 0), none]) (by decide +kernel) rfl rfl hd (fun d hd => ?_)
  unfold F282 at e
  obtain ⟨r1, q1, e⟩ := zB_s e
  refine zF_blk (m := []) (d := 0) (b := B282_0) (gs := []) (c' := (1, [some (22, 0), none], [(22, 0)], (hc, h, o))) K282_0 rfl trivial ?_
  refine zF_call (k := 283) (cl := 12) (n := 1) (i := .invokevirtual 407) (args := [(22, 0)]) (rest := []) (g1 := (hc, r1.2, o)) (r1 := some (0, r1.1)) (by decide +kernel) rfl rfl rfl (st' := [(0, r1.1)]) rfl (S283r 300 (Nat.le_trans (by decide) hd)  h _ q1) ?_
  rcases zI_s e with ⟨q2, e⟩ | ⟨q2, e⟩
  · refine zF_blk (m := []) (d := 1) (b := B282_3) (gs := [¬ r1.1 = 0]) (c' := (9, [some (22, 0), none], [], (hc, r1.2, o))) K282_3 rfl ⟨q2, trivial⟩ ?_
    refine zF_blk (m := []) (d := 0) (b := B282_1) (gs := []) (c' := (14, [some (22, 0), some (0, (r1.2 49 0))], [], (hc, r1.2, o))) K282_1 rfl trivial ?_
    exact T282_0 hd zFu (r1.2 49 0) r1.2 _ e
  · refine zF_blk (m := []) (d := 0) (b := B282_3) (gs := [¬ (¬ r1.1 = 0)]) (c' := (7, [some (22, 0), none], [], (hc, r1.2, o))) K282_3 rfl ⟨q2, trivial⟩ ?_
    refine zF_blk (m := []) (d := 0) (b := B282_2) (gs := []) (c' := (8, [some (22, 0), none], [(0, 0)], (hc, r1.2, o))) K282_2 rfl trivial ?_
    exact zF_rbM (by decide +kernel) (Or.inl rfl) e
def B281_0 : List zRow := [(0, .aload_n 0, 1, (0, 0, 0))]
theorem K281_0 : zRk 281 B281_0 = true := by decide +kernel
def B281_1 : List zRow := [(9, .aload_n 0, 1, (0, 0, 0)), (10, .getfield 400, 3, (12, 49, 0)), (13, .istore_n 1, 1, (0, 0, 0))]
theorem K281_1 : zRk 281 B281_1 = true := by decide +kernel
def B281_2 : List zRow := [(7, .iconst 0, 1, (0, 0, 0))]
theorem K281_2 : zRk 281 B281_2 = true := by decide +kernel
def B281_3 : List zRow := [(4, .ifCond .ne 5, 3, (0, 0, 0))]
theorem K281_3 : zRk 281 B281_3 = true := by decide +kernel
def B281_4 : List zRow := [(14, .aload_n 0, 1, (0, 0, 0)), (15, .bipush 10, 2, (0, 0, 0))]
theorem K281_4 : zRk 281 B281_4 = true := by decide +kernel
def B281_5 : List zRow := [(51, .aload_n 0, 1, (0, 0, 0)), (52, .iload_n 1, 1, (0, 0, 0)), (53, .putfield 400, 3, (12, 49, 0)), (56, .iconst 1, 1, (0, 0, 0))]
theorem K281_5 : zRk 281 B281_5 = true := by decide +kernel
def B281_6 : List zRow := [(23, .aload_n 0, 1, (0, 0, 0))]
theorem K281_6 : zRk 281 B281_6 = true := by decide +kernel
def B281_7 : List zRow := [(27, .aload_n 0, 1, (0, 0, 0))]
theorem K281_7 : zRk 281 B281_7 = true := by decide +kernel
def B281_8 : List zRow := [(36, .aload_n 0, 1, (0, 0, 0)), (37, .iconst 3, 1, (0, 0, 0)), (38, .iload_n 1, 1, (0, 0, 0)), (39, .aload_n 0, 1, (0, 0, 0)), (40, .getfield 400, 3, (12, 49, 0)), (43, .iconst 0, 1, (0, 0, 0))]
theorem K281_8 : zRk 281 B281_8 = true := by decide +kernel
def B281_9 : List zRow := [(47, .istore_n 1, 1, (0, 0, 0)), (48, .goto (-34), 3, (0, 0, 0))]
theorem K281_9 : zRk 281 B281_9 = true := by decide +kernel
def B281_10 : List zRow := [(34, .iconst 0, 1, (0, 0, 0))]
theorem K281_10 : zRk 281 B281_10 = true := by decide +kernel
def B281_11 : List zRow := [(31, .ifCond .ne 5, 3, (0, 0, 0))]
theorem K281_11 : zRk 281 B281_11 = true := by decide +kernel
def B281_12 : List zRow := [(20, .ifCond .eq 31, 3, (0, 0, 0))]
theorem K281_12 : zRk 281 B281_12 = true := by decide +kernel
def F281_0 : Nat → Int → zHM → Option (Int × zHM)
  | 0, _, _ => none
  | n + 1, v1, h => (F181 10 h).bind fun r1 => if r1 = 0 then some (1, (mset h 49 0 v1)) else (F176 h).bind fun r2 => (F282 r2).bind fun r3 => if ¬ r3.1 = 0 then (F286 3 v1 (r3.2 49 0) 0 r3.2).bind fun r4 => (F281_0 n) r4.1 r4.2 else some (0, r3.2)
set_option maxRecDepth 100000 in
theorem T281_0 {spec : zRn zH2} {hc : zHC} {o : Int → Int} {d : Nat} (hd : 2101 ≤ d) : ∀ (n : Nat) (v1 : Int) (h : zHM) (v : (Int × zHM)), F281_0 n v1 h = some v → zFin 0 (fun _ => 0) (zRu2 spec d) 281 (some (0, v.1)) (hc, v.2, o) (14, [some (22, 0), some (0, v1)], [], (hc, h, o)) := by
  intro n
  induction n with
  | zero => intro v1 h v e; unfold F281_0 at e; cases e
  | succ n hk0 =>
    intro v1 h v e
    unfold F281_0 at e
    obtain ⟨r1, q1, e⟩ := zB_s e
    refine zF_blk (m := []) (d := 0) (b := B281_4) (gs := []) (c' := (17, [some (22, 0), some (0, v1)], [(0, 10), (22, 0)], (hc, h, o))) K281_4 rfl trivial ?_
    refine zF_call (k := 181) (cl := 12) (n := 2) (i := .invokevirtual 199) (args := [(22, 0), (0, 10)]) (rest := []) (g1 := (hc, h, o)) (r1 := some (0, r1)) (by decide +kernel) rfl rfl rfl (st' := [(0, r1)]) rfl (S181 (Nat.le_trans (by decide) hd) 10 h _ q1) ?_
    rcases zI_s e with ⟨q2, e⟩ | ⟨q2, e⟩
    · refine zF_blk (m := []) (d := 1) (b := B281_12) (gs := [r1 = 0]) (c' := (51, [some (22, 0), some (0, v1)], [], (hc, h, o))) K281_12 rfl ⟨q2, trivial⟩ ?_
      refine zF_blk (m := []) (d := 0) (b := B281_5) (gs := []) (c' := (57, [some (22, 0), some (0, v1)], [(0, 1)], (hc, (mset h 49 0 v1), o))) K281_5 rfl trivial ?_
      exact zF_rbM (by decide +kernel) (Or.inr rfl) e
    · refine zF_blk (m := []) (d := 0) (b := B281_12) (gs := [¬ (r1 = 0)]) (c' := (23, [some (22, 0), some (0, v1)], [], (hc, h, o))) K281_12 rfl ⟨q2, trivial⟩ ?_
      obtain ⟨r2, q3, e⟩ := zB_s e
      refine zF_blk (m := []) (d := 0) (b := B281_6) (gs := []) (c' := (24, [some (22, 0), some (0, v1)], [(22, 0)], (hc, h, o))) K281_6 rfl trivial ?_
      refine zF_call (k := 176) (cl := 12) (n := 1) (i := .invokevirtual 162) (args := [(22, 0)]) (rest := []) (g1 := (hc, r2, o)) (r1 := none) (by decide +kernel) rfl rfl rfl (st' := []) rfl (S176 (Nat.le_trans (by decide) hd)  h _ q3) ?_
      obtain ⟨r3, q4, e⟩ := zB_s e
      refine zF_blk (m := []) (d := 0) (b := B281_7) (gs := []) (c' := (28, [some (22, 0), some (0, v1)], [(22, 0)], (hc, r2, o))) K281_7 rfl trivial ?_
      refine zF_call (k := 282) (cl := 12) (n := 1) (i := .invokevirtual 397) (args := [(22, 0)]) (rest := []) (g1 := (hc, r3.2, o)) (r1 := some (0, r3.1)) (by decide +kernel) rfl rfl rfl (st' := [(0, r3.1)]) rfl (S282 (Nat.le_trans (by decide) hd)  r2 _ q4) ?_
      rcases zI_s e with ⟨q5, e⟩ | ⟨q5, e⟩
      · refine zF_blk (m := []) (d := 1) (b := B281_11) (gs := [¬ r3.1 = 0]) (c' := (36, [some (22, 0), some (0, v1)], [], (hc, r3.2, o))) K281_11 rfl ⟨q5, trivial⟩ ?_
        obtain ⟨r4, q6, e⟩ := zB_s e
        refine zF_blk (m := []) (d := 0) (b := B281_8) (gs := []) (c' := (44, [some (22, 0), some (0, v1)], [(0, 0), (0, (r3.2 49 0)), (0, v1), (0, 3), (22, 0)], (hc, r3.2, o))) K281_8 rfl trivial ?_
        refine zF_call (k := 286) (cl := 12) (n := 5) (i := .invokevirtual 403) (args := [(22, 0), (0, 3), (0, v1), (0, (r3.2 49 0)), (0, 0)]) (rest := []) (g1 := (hc, r4.2, o)) (r1 := some (0, r4.1)) (by decide +kernel) rfl rfl rfl (st' := [(0, r4.1)]) rfl (S286 (Nat.le_trans (by decide) hd) 3 v1 (r3.2 49 0) 0 r3.2 _ q6) ?_
        refine zF_blk (m := []) (d := 0) (b := B281_9) (gs := []) (c' := (14, [some (22, 0), some (0, r4.1)], [], (hc, r4.2, o))) K281_9 rfl trivial ?_
        exact hk0 r4.1 r4.2 _ e
      · refine zF_blk (m := []) (d := 0) (b := B281_11) (gs := [¬ (¬ r3.1 = 0)]) (c' := (34, [some (22, 0), some (0, v1)], [], (hc, r3.2, o))) K281_11 rfl ⟨q5, trivial⟩ ?_
        refine zF_blk (m := []) (d := 0) (b := B281_10) (gs := []) (c' := (35, [some (22, 0), some (0, v1)], [(0, 0)], (hc, r3.2, o))) K281_10 rfl trivial ?_
        exact zF_rbM (by decide +kernel) (Or.inl rfl) e
/-- EchoValeModel.readOr()Z -/
def F281 (h : zHM) : Option (Int × zHM) := (F282 h).bind fun r1 => if ¬ r1.1 = 0 then F281_0 zFu (r1.2 49 0) r1.2 else some (0, r1.2)
set_option maxRecDepth 100000 in
theorem S281 {spec : zRn zH2} {hc : zHC} {o : Int → Int} {d : Nat} (hd : 2102 ≤ d) (h : zHM) (v : (Int × zHM)) (e : F281 h = some v) : zRu2 spec d 281 [(22, 0)] (hc, h, o) (some (0, v.1)) (hc, v.2, o) := by
  refine zF_in (D := 2101) (mx := 2) (L := [some (22, 0), none]) (by decide +kernel) rfl rfl hd (fun d hd => ?_)
  unfold F281 at e
  obtain ⟨r1, q1, e⟩ := zB_s e
  refine zF_blk (m := []) (d := 0) (b := B281_0) (gs := []) (c' := (1, [some (22, 0), none], [(22, 0)], (hc, h, o))) K281_0 rfl trivial ?_
  refine zF_call (k := 282) (cl := 12) (n := 1) (i := .invokevirtual 397) (args := [(22, 0)]) (rest := []) (g1 := (hc, r1.2, o)) (r1 := some (0, r1.1)) (by decide +kernel) rfl rfl rfl (st' := [(0, r1.1)]) rfl (S282 (Nat.le_trans (by decide) hd)  h _ q1) ?_
  rcases zI_s e with ⟨q2, e⟩ | ⟨q2, e⟩
  · refine zF_blk (m := []) (d := 1) (b := B281_3) (gs := [¬ r1.1 = 0]) (c' := (9, [some (22, 0), none], [], (hc, r1.2, o))) K281_3 rfl ⟨q2, trivial⟩ ?_
    refine zF_blk (m := []) (d := 0) (b := B281_1) (gs := []) (c' := (14, [some (22, 0), some (0, (r1.2 49 0))], [], (hc, r1.2, o))) K281_1 rfl trivial ?_
    exact T281_0 hd zFu (r1.2 49 0) r1.2 _ e
  · refine zF_blk (m := []) (d := 0) (b := B281_3) (gs := [¬ (¬ r1.1 = 0)]) (c' := (7, [some (22, 0), none], [], (hc, r1.2, o))) K281_3 rfl ⟨q2, trivial⟩ ?_
    refine zF_blk (m := []) (d := 0) (b := B281_2) (gs := []) (c' := (8, [some (22, 0), none], [(0, 0)], (hc, r1.2, o))) K281_2 rfl trivial ?_
    exact zF_rbM (by decide +kernel) (Or.inl rfl) e
def B280_0 : List zRow := [(0, .aload_n 0, 1, (0, 0, 0)), (1, .sipush 200, 3, (0, 0, 0))]
theorem K280_0 : zRk 280 B280_0 = true := by decide +kernel
def B280_1 : List zRow := [(7, .aload_n 0, 1, (0, 0, 0)), (8, .iconst 0, 1, (0, 0, 0)), (9, .putfield 394, 3, (12, 46, 0)), (12, .aload_n 0, 1, (0, 0, 0)), (13, .iconst 0, 1, (0, 0, 0)), (14, .putfield 410, 3, (12, 47, 0)), (17, .aload_n 0, 1, (0, 0, 0)), (18, .iconst 0, 1, (0, 0, 0)), (19, .putfield 413, 3, (12, 48, 0)), (22, .aload_n 0, 1, (0, 0, 0))]
theorem K280_1 : zRk 280 B280_1 = true := by decide +kernel
def B280_2 : List zRow := [(56, .aload_n 0, 1, (0, 0, 0)), (57, .getfield 13, 3, (12, 14, 5251442)), (60, .sipush 1898, 3, (0, 0, 0)), (63, .iconst 1, 1, (0, 0, 0)), (64, .iastore, 1, (0, 0, 0)), (65, .aload_n 0, 1, (0, 0, 0)), (66, .getfield 13, 3, (12, 14, 5251442)), (69, .sipush 1899, 3, (0, 0, 0)), (72, .aload_n 0, 1, (0, 0, 0)), (73, .getfield 400, 3, (12, 49, 0)), (76, .iastore, 1, (0, 0, 0)), (77, .iconst 0, 1, (0, 0, 0)), (78, .istore_n 1, 1, (0, 0, 0))]
theorem K280_2 : zRk 280 B280_2 = true := by decide +kernel
def B280_3 : List zRow := [(43, .aload_n 0, 1, (0, 0, 0)), (44, .iconst 1, 1, (0, 0, 0))]
theorem K280_3 : zRk 280 B280_3 = true := by decide +kernel
def B280_4 : List zRow := [(48, .pop, 1, (0, 0, 0)), (49, .iconst (-1), 1, (0, 0, 0)), (50, .aload_n 0, 1, (0, 0, 0)), (51, .getfield 145, 3, (12, 11, 0))]
theorem K280_4 : zRk 280 B280_4 = true := by decide +kernel
def B280_5 : List zRow := [(54, .isub, 1, (0, 0, 0))]
theorem K280_5 : zRk 280 B280_5 = true := by decide +kernel
def B280_6 : List zRow := [(36, .aload_n 0, 1, (0, 0, 0)), (37, .getfield 107, 3, (12, 7, 0)), (40, .ifCond .eq 16, 3, (0, 0, 0))]
theorem K280_6 : zRk 280 B280_6 = true := by decide +kernel
def B280_7 : List zRow := [(29, .iconst (-1), 1, (0, 0, 0)), (30, .aload_n 0, 1, (0, 0, 0)), (31, .getfield 145, 3, (12, 11, 0))]
theorem K280_7 : zRk 280 B280_7 = true := by decide +kernel
def B280_8 : List zRow := [(34, .isub, 1, (0, 0, 0))]
theorem K280_8 : zRk 280 B280_8 = true := by decide +kernel
def B280_9 : List zRow := [(26, .ifCond .ne 10, 3, (0, 0, 0))]
theorem K280_9 : zRk 280 B280_9 = true := by decide +kernel
def B280_10 : List zRow := [(108, .aload_n 0, 1, (0, 0, 0)), (109, .getfield 410, 3, (12, 47, 0))]
theorem K280_10 : zRk 280 B280_10 = true := by decide +kernel
def B280_11 : List zRow := [(86, .aload_n 0, 1, (0, 0, 0)), (87, .getfield 13, 3, (12, 14, 5251442)), (90, .sipush 1900, 3, (0, 0, 0)), (93, .iload_n 1, 1, (0, 0, 0))]
theorem K280_11 : zRk 280 B280_11 = true := by decide +kernel
def B280_12 : List zRow := [(94, .iadd, 1, (0, 0, 0)), (95, .aload_n 0, 1, (0, 0, 0)), (96, .getfield 78, 3, (12, 45, 5243842)), (99, .iload_n 1, 1, (0, 0, 0)), (100, .iaload, 1, (0, 0, 0)), (101, .iastore, 1, (0, 0, 0)), (102, .iinc 1 1, 3, (0, 0, 0)), (105, .goto (-26), 3, (0, 0, 0))]
theorem K280_12 : zRk 280 B280_12 = true := by decide +kernel
def B280_13 : List zRow := [(79, .iload_n 1, 1, (0, 0, 0)), (80, .sipush 240, 3, (0, 0, 0)), (83, .if_icmp .ge 25, 3, (0, 0, 0))]
theorem K280_13 : zRk 280 B280_13 = true := by decide +kernel
def F280_0 : Nat → Int → zHM → Option (Int × zHM)
  | 0, _, _ => none
  | n + 1, v1, h => if 240 ≤ v1 then some ((h 47 0), h) else zG (0 ≤ v1 ∧ v1 < 240) (zG (0 ≤ (wadd 1900 v1) ∧ (wadd 1900 v1) < 2140) ((F280_0 n) (wadd v1 1) (mset h 14 (wadd 1900 v1) (h 45 v1))))
set_option maxRecDepth 100000 in
theorem T280_0 {spec : zRn zH2} {hc : zHC} {o : Int → Int} {d : Nat} (hd : 2102 ≤ d) : ∀ (n : Nat) (v1 : Int) (h : zHM) (v : (Int × zHM)), F280_0 n v1 h = some v → zFin 0 (fun _ => 0) (zRu2 spec d) 280 (some (0, v.1)) (hc, v.2, o) (79, [some (22, 0), some (0, v1)], [], (hc, h, o)) := by
  intro n
  induction n with
  | zero => intro v1 h v e; unfold F280_0 at e; cases e
  | succ n hk0 =>
    intro v1 h v e
    unfold F280_0 at e
    rcases zI_s e with ⟨q1, e⟩ | ⟨q1, e⟩
    · refine zF_blk (m := []) (d := 1) (b := B280_13) (gs := [240 ≤ v1]) (c' := (108, [some (22, 0), some (0, v1)], [], (hc, h, o))) K280_13 rfl ⟨q1, trivial⟩ ?_
      refine zF_blk (m := []) (d := 0) (b := B280_10) (gs := []) (c' := (112, [some (22, 0), some (0, v1)], [(0, (h 47 0))], (hc, h, o))) K280_10 rfl trivial ?_
      exact zF_riM (by decide +kernel) e
    · refine zF_blk (m := []) (d := 0) (b := B280_13) (gs := [¬ (240 ≤ v1)]) (c' := (86, [some (22, 0), some (0, v1)], [], (hc, h, o))) K280_13 rfl ⟨q1, trivial⟩ ?_
      obtain ⟨q2, e⟩ := zG_s e
      obtain ⟨q3, e⟩ := zG_s e
      refine zF_blk (m := []) (d := 0) (b := B280_11) (gs := []) (c' := (94, [some (22, 0), some (0, v1)], [(0, v1), (0, 1900), (1344370422, 0)], (hc, h, o))) K280_11 rfl trivial ?_
      refine zF_blk (m := []) (d := 0) (b := B280_12) (gs := [0 ≤ v1 ∧ v1 < 240, 0 ≤ (wadd 1900 v1) ∧ (wadd 1900 v1) < 2140]) (c' := (79, [some (22, 0), some (0, (wadd v1 1))], [], (hc, (mset h 14 (wadd 1900 v1) (h 45 v1)), o))) K280_12 rfl ⟨q2, q3, trivial⟩ ?_
      exact hk0 (wadd v1 1) (mset h 14 (wadd 1900 v1) (h 45 v1)) _ e
/-- EchoValeModel.sentence()I -/
def F280 (h : zHM) : Option (Int × zHM) := (F174 200 h).bind fun r1 => (F281 (mset (mset (mset r1 46 0 0) 47 0 0) 48 0 0)).bind fun r2 => if ¬ r2.1 = 0 then if (r2.2 7 0) = 0 then F280_0 zFu 0 (mset (mset r2.2 14 1898 1) 14 1899 ((mset r2.2 14 1898 1) 49 0)) else (F185 1 r2.2).bind fun r3 => some ((wsub (-1) (r3.2 11 0)), r3.2) else some ((wsub (-1) (r2.2 11 0)), r2.2)
set_option maxRecDepth 100000 in
theorem S280 {spec : zRn zH2} {hc : zHC} {o : Int → Int} {d : Nat} (hd : 2103 ≤ d) (h : zHM) (v : (Int × zHM)) (e : F280 h = some v) : zRu2 spec d 280 [(22, 0)] (hc, h, o) (some (0, v.1)) (hc, v.2, o) := by
  refine zF_in (D := 2102) (mx := 2) (L := [some (22, 0), none]) (by decide +kernel) rfl rfl hd (fun d hd => ?_)
  unfold F280 at e
  obtain ⟨r1, q1, e⟩ := zB_s e
  refine zF_blk (m := []) (d := 0) (b := B280_0) (gs := []) (c' := (4, [some (22, 0), none], [(0, 200), (22, 0)], (hc, h, o))) K280_0 rfl trivial ?_
  refine zF_call (k := 174) (cl := 12) (n := 2) (i := .invokevirtual 226) (args := [(22, 0), (0, 200)]) (rest := []) (g1 := (hc, r1, o)) (r1 := none) (by decide +kernel) rfl rfl rfl (st' := []) rfl (S174 (Nat.le_trans (by decide) hd) 200 h _ q1) ?_
  obtain ⟨r2, q2, e⟩ := zB_s e
  refine zF_blk (m := []) (d := 0) (b := B280_1) (gs := []) (c' := (23, [some (22, 0), none], [(22, 0)], (hc, (mset (mset (mset r1 46 0 0) 47 0 0) 48 0 0), o))) K280_1 rfl trivial ?_
  refine zF_call (k := 281) (cl := 12) (n := 1) (i := .invokevirtual 428) (args := [(22, 0)]) (rest := []) (g1 := (hc, r2.2, o)) (r1 := some (0, r2.1)) (by decide +kernel) rfl rfl rfl (st' := [(0, r2.1)]) rfl (S281 (Nat.le_trans (by decide) hd)  (mset (mset (mset r1 46 0 0) 47 0 0) 48 0 0) _ q2) ?_
  rcases zI_s e with ⟨q3, e⟩ | ⟨q3, e⟩
  · refine zF_blk (m := []) (d := 1) (b := B280_9) (gs := [¬ r2.1 = 0]) (c' := (36, [some (22, 0), none], [], (hc, r2.2, o))) K280_9 rfl ⟨q3, trivial⟩ ?_
    rcases zI_s e with ⟨q4, e⟩ | ⟨q4, e⟩
    · refine zF_blk (m := []) (d := 1) (b := B280_6) (gs := [(r2.2 7 0) = 0]) (c' := (56, [some (22, 0), none], [], (hc, r2.2, o))) K280_6 rfl ⟨q4, trivial⟩ ?_
      refine zF_blk (m := []) (d := 0) (b := B280_2) (gs := [0 ≤ 1898 ∧ 1898 < 2140, 0 ≤ 1899 ∧ 1899 < 2140]) (c' := (79, [some (22, 0), some (0, 0)], [], (hc, (mset (mset r2.2 14 1898 1) 14 1899 ((mset r2.2 14 1898 1) 49 0)), o))) K280_2 rfl ⟨by decide, by decide, trivial⟩ ?_
      exact T280_0 hd zFu 0 (mset (mset r2.2 14 1898 1) 14 1899 ((mset r2.2 14 1898 1) 49 0)) _ e
    · refine zF_blk (m := []) (d := 0) (b := B280_6) (gs := [¬ ((r2.2 7 0) = 0)]) (c' := (43, [some (22, 0), none], [], (hc, r2.2, o))) K280_6 rfl ⟨q4, trivial⟩ ?_
      obtain ⟨r3, q5, e⟩ := zB_s e
      refine zF_blk (m := []) (d := 0) (b := B280_3) (gs := []) (c' := (45, [some (22, 0), none], [(0, 1), (22, 0)], (hc, r2.2, o))) K280_3 rfl trivial ?_
      refine zF_call (k := 185) (cl := 12) (n := 2) (i := .invokevirtual 148) (args := [(22, 0), (0, 1)]) (rest := []) (g1 := (hc, r3.2, o)) (r1 := some (0, r3.1)) (by decide +kernel) rfl rfl rfl (st' := [(0, r3.1)]) rfl (S185 (Nat.le_trans (by decide) hd) 1 r2.2 _ q5) ?_
      refine zF_blk (m := []) (d := 0) (b := B280_4) (gs := []) (c' := (54, [some (22, 0), none], [(0, (r3.2 11 0)), (0, (-1))], (hc, r3.2, o))) K280_4 rfl trivial ?_
      refine zF_blk (m := []) (d := 0) (b := B280_5) (gs := []) (c' := (55, [some (22, 0), none], [(0, (wsub (-1) (r3.2 11 0)))], (hc, r3.2, o))) K280_5 rfl trivial ?_
      exact zF_riM (by decide +kernel) e
  · refine zF_blk (m := []) (d := 0) (b := B280_9) (gs := [¬ (¬ r2.1 = 0)]) (c' := (29, [some (22, 0), none], [], (hc, r2.2, o))) K280_9 rfl ⟨q3, trivial⟩ ?_
    refine zF_blk (m := []) (d := 0) (b := B280_7) (gs := []) (c' := (34, [some (22, 0), none], [(0, (r2.2 11 0)), (0, (-1))], (hc, r2.2, o))) K280_7 rfl trivial ?_
    refine zF_blk (m := []) (d := 0) (b := B280_8) (gs := []) (c' := (35, [some (22, 0), none], [(0, (wsub (-1) (r2.2 11 0)))], (hc, r2.2, o))) K280_8 rfl trivial ?_
    exact zF_riM (by decide +kernel) e
def B125b_0 : List zRow := [(15, .iconst 0, 1, (0, 0, 0))]
theorem K125b_0 : zRk 125 B125b_0 = true := by decide +kernel
def B125b_1 : List zRow := [(11, .iconst 1, 1, (0, 0, 0)), (12, .goto 4, 3, (0, 0, 0))]
theorem K125b_1 : zRk 125 B125b_1 = true := by decide +kernel
def B125b_2 : List zRow := [(0, .aload_n 0, 1, (0, 0, 0)), (1, .getfield 27, 3, (1, 8, 5243002)), (4, .iload_n 1, 1, (0, 0, 0)), (5, .iaload, 1, (0, 0, 0)), (6, .ldc 87, 2, (0, 0, 1000000)), (8, .if_icmp .eq 7, 3, (0, 0, 0))]
theorem K125b_2 : zRk 125 B125b_2 = true := by decide +kernel
/-- EchoVale$Course.isPending(I)Z -/
def F125b (v1 : Int) (h : zHC) : Option Int := zG (0 ≤ v1 ∧ v1 < 30) (if (h 72 0 v1) = 1000000 then some 0 else some 1)
set_option maxRecDepth 100000 in
theorem S125b {spec : zRn zH2} {hm : zHM} {o : Int → Int} {d : Nat} (hd : 1 ≤ d) (v1 : Int) (h : zHC) (v : Int) (e : F125b v1 h = some v) : zRu2 spec d 125 [(11, 0), (0, v1)] (h, hm, o) (some (0, v)) (h, hm, o) := by
  refine zF_in (D := 0) (mx := 2) (L := [some (11, 0), some (0, v1)]) (by decide +kernel) rfl rfl hd (fun d hd => ?_)
  unfold F125b at e
  obtain ⟨q1, e⟩ := zG_s e
  rcases zI_s e with ⟨q2, e⟩ | ⟨q2, e⟩
  · refine zF_blk (m := []) (d := 1) (b := B125b_2) (gs := [0 ≤ v1 ∧ v1 < 30, (h 72 0 v1) = 1000000]) (c' := (15, [some (11, 0), some (0, v1)], [], (h, hm, o))) K125b_2 rfl ⟨q1, q2, trivial⟩ ?_
    refine zF_blk (m := []) (d := 0) (b := B125b_0) (gs := []) (c' := (16, [some (11, 0), some (0, v1)], [(0, 0)], (h, hm, o))) K125b_0 rfl trivial ?_
    obtain rfl := Option.some.inj e
    exact zF_rb (by decide +kernel) (Or.inl rfl)
  · refine zF_blk (m := []) (d := 0) (b := B125b_2) (gs := [0 ≤ v1 ∧ v1 < 30, ¬ ((h 72 0 v1) = 1000000)]) (c' := (11, [some (11, 0), some (0, v1)], [], (h, hm, o))) K125b_2 rfl ⟨q1, q2, trivial⟩ ?_
    refine zF_blk (m := []) (d := 0) (b := B125b_1) (gs := []) (c' := (16, [some (11, 0), some (0, v1)], [(0, 1)], (h, hm, o))) K125b_1 rfl trivial ?_
    obtain rfl := Option.some.inj e
    exact zF_rb (by decide +kernel) (Or.inr rfl)
def B159_0 : List zRow := [(45, .iconst 0, 1, (0, 0, 0))]
theorem K159_0 : zRk 159 B159_0 = true := by decide +kernel
def B159_1 : List zRow := [(41, .iconst 1, 1, (0, 0, 0)), (42, .goto 4, 3, (0, 0, 0))]
theorem K159_1 : zRk 159 B159_1 = true := by decide +kernel
def B159_2 : List zRow := [(36, .iload_n 0, 1, (0, 0, 0)), (37, .iload_n 2, 1, (0, 0, 0)), (38, .if_icmp .ne 7, 3, (0, 0, 0))]
theorem K159_2 : zRk 159 B159_2 = true := by decide +kernel
def B159_3 : List zRow := [(32, .iconst 0, 1, (0, 0, 0)), (33, .goto 13, 3, (0, 0, 0))]
theorem K159_3 : zRk 159 B159_3 = true := by decide +kernel
def B159_4 : List zRow := [(28, .iconst 1, 1, (0, 0, 0)), (29, .goto 17, 3, (0, 0, 0))]
theorem K159_4 : zRk 159 B159_4 = true := by decide +kernel
def B159_5 : List zRow := [(23, .iload_n 0, 1, (0, 0, 0)), (24, .iload_n 2, 1, (0, 0, 0)), (25, .if_icmp .le 7, 3, (0, 0, 0))]
theorem K159_5 : zRk 159 B159_5 = true := by decide +kernel
def B159_6 : List zRow := [(17, .iload_n 1, 1, (0, 0, 0)), (18, .bipush 62, 2, (0, 0, 0)), (20, .if_icmp .ne 16, 3, (0, 0, 0))]
theorem K159_6 : zRk 159 B159_6 = true := by decide +kernel
def B159_7 : List zRow := [(15, .iconst 0, 1, (0, 0, 0))]
theorem K159_7 : zRk 159 B159_7 = true := by decide +kernel
def B159_8 : List zRow := [(11, .iconst 1, 1, (0, 0, 0)), (12, .goto 4, 3, (0, 0, 0))]
theorem K159_8 : zRk 159 B159_8 = true := by decide +kernel
def B159_9 : List zRow := [(6, .iload_n 0, 1, (0, 0, 0)), (7, .iload_n 2, 1, (0, 0, 0)), (8, .if_icmp .ge 7, 3, (0, 0, 0))]
theorem K159_9 : zRk 159 B159_9 = true := by decide +kernel
def B159_10 : List zRow := [(0, .iload_n 1, 1, (0, 0, 0)), (1, .bipush 60, 2, (0, 0, 0)), (3, .if_icmp .ne 14, 3, (0, 0, 0))]
theorem K159_10 : zRk 159 B159_10 = true := by decide +kernel
/-- EchoVale$Sentence.compares(III)Z -/
def F159 (v0 : Int) (v1 : Int) (v2 : Int) : Option Int := if ¬ v1 = 60 then if ¬ v1 = 62 then if ¬ v0 = v2 then some 0 else some 1 else if v0 ≤ v2 then some 0 else some 1 else if v2 ≤ v0 then some 0 else some 1
set_option maxRecDepth 100000 in
theorem S159 {spec : zRn zH2} {hm : zHM} {o : Int → Int} {d : Nat} (hd : 1 ≤ d) (v0 : Int) (v1 : Int) (v2 : Int) (h : zHC) (v : Int) (e : F159 v0 v1 v2 = some v) : zRu2 spec d 159 [(0, v0), (0, v1), (0, v2)] (h, hm, o) (some (0, v)) (h, hm, o) := by
  refine zF_in (D := 0) (mx := 3) (L := [some (0, v0), some (0, v1), some (0, v2)]) (by decide +kernel) rfl rfl hd (fun d hd => ?_)
  unfold F159 at e
  rcases zI_s e with ⟨q1, e⟩ | ⟨q1, e⟩
  · refine zF_blk (m := []) (d := 1) (b := B159_10) (gs := [¬ v1 = 60]) (c' := (17, [some (0, v0), some (0, v1), some (0, v2)], [], (h, hm, o))) K159_10 rfl ⟨q1, trivial⟩ ?_
    rcases zI_s e with ⟨q2, e⟩ | ⟨q2, e⟩
    · refine zF_blk (m := []) (d := 1) (b := B159_6) (gs := [¬ v1 = 62]) (c' := (36, [some (0, v0), some (0, v1), some (0, v2)], [], (h, hm, o))) K159_6 rfl ⟨q2, trivial⟩ ?_
      rcases zI_s e with ⟨q3, e⟩ | ⟨q3, e⟩
      · refine zF_blk (m := []) (d := 1) (b := B159_2) (gs := [¬ v0 = v2]) (c' := (45, [some (0, v0), some (0, v1), some (0, v2)], [], (h, hm, o))) K159_2 rfl ⟨q3, trivial⟩ ?_
        refine zF_blk (m := []) (d := 0) (b := B159_0) (gs := []) (c' := (46, [some (0, v0), some (0, v1), some (0, v2)], [(0, 0)], (h, hm, o))) K159_0 rfl trivial ?_
        obtain rfl := Option.some.inj e
        exact zF_rb (by decide +kernel) (Or.inl rfl)
      · refine zF_blk (m := []) (d := 0) (b := B159_2) (gs := [¬ (¬ v0 = v2)]) (c' := (41, [some (0, v0), some (0, v1), some (0, v2)], [], (h, hm, o))) K159_2 rfl ⟨q3, trivial⟩ ?_
        refine zF_blk (m := []) (d := 0) (b := B159_1) (gs := []) (c' := (46, [some (0, v0), some (0, v1), some (0, v2)], [(0, 1)], (h, hm, o))) K159_1 rfl trivial ?_
        obtain rfl := Option.some.inj e
        exact zF_rb (by decide +kernel) (Or.inr rfl)
    · refine zF_blk (m := []) (d := 0) (b := B159_6) (gs := [¬ (¬ v1 = 62)]) (c' := (23, [some (0, v0), some (0, v1), some (0, v2)], [], (h, hm, o))) K159_6 rfl ⟨q2, trivial⟩ ?_
      rcases zI_s e with ⟨q4, e⟩ | ⟨q4, e⟩
      · refine zF_blk (m := []) (d := 1) (b := B159_5) (gs := [v0 ≤ v2]) (c' := (32, [some (0, v0), some (0, v1), some (0, v2)], [], (h, hm, o))) K159_5 rfl ⟨q4, trivial⟩ ?_
        refine zF_blk (m := []) (d := 0) (b := B159_3) (gs := []) (c' := (46, [some (0, v0), some (0, v1), some (0, v2)], [(0, 0)], (h, hm, o))) K159_3 rfl trivial ?_
        obtain rfl := Option.some.inj e
        exact zF_rb (by decide +kernel) (Or.inl rfl)
      · refine zF_blk (m := []) (d := 0) (b := B159_5) (gs := [¬ (v0 ≤ v2)]) (c' := (28, [some (0, v0), some (0, v1), some (0, v2)], [], (h, hm, o))) K159_5 rfl ⟨q4, trivial⟩ ?_
        refine zF_blk (m := []) (d := 0) (b := B159_4) (gs := []) (c' := (46, [some (0, v0), some (0, v1), some (0, v2)], [(0, 1)], (h, hm, o))) K159_4 rfl trivial ?_
        obtain rfl := Option.some.inj e
        exact zF_rb (by decide +kernel) (Or.inr rfl)
  · refine zF_blk (m := []) (d := 0) (b := B159_10) (gs := [¬ (¬ v1 = 60)]) (c' := (6, [some (0, v0), some (0, v1), some (0, v2)], [], (h, hm, o))) K159_10 rfl ⟨q1, trivial⟩ ?_
    rcases zI_s e with ⟨q5, e⟩ | ⟨q5, e⟩
    · refine zF_blk (m := []) (d := 1) (b := B159_9) (gs := [v2 ≤ v0]) (c' := (15, [some (0, v0), some (0, v1), some (0, v2)], [], (h, hm, o))) K159_9 rfl ⟨q5, trivial⟩ ?_
      refine zF_blk (m := []) (d := 0) (b := B159_7) (gs := []) (c' := (16, [some (0, v0), some (0, v1), some (0, v2)], [(0, 0)], (h, hm, o))) K159_7 rfl trivial ?_
      obtain rfl := Option.some.inj e
      exact zF_rb (by decide +kernel) (Or.inl rfl)
    · refine zF_blk (m := []) (d := 0) (b := B159_9) (gs := [¬ (v2 ≤ v0)]) (c' := (11, [some (0, v0), some (0, v1), some (0, v2)], [], (h, hm, o))) K159_9 rfl ⟨q5, trivial⟩ ?_
      refine zF_blk (m := []) (d := 0) (b := B159_8) (gs := []) (c' := (16, [some (0, v0), some (0, v1), some (0, v2)], [(0, 1)], (h, hm, o))) K159_8 rfl trivial ?_
      obtain rfl := Option.some.inj e
      exact zF_rb (by decide +kernel) (Or.inr rfl)
def B158_0 : List zRow := [(72, .aload_n 1, 1, (0, 0, 0)), (73, .iload_n 2, 1, (0, 0, 0)), (74, .bipush 6, 2, (0, 0, 0))]
theorem K158_0 : zRk 158 B158_0 = true := by decide +kernel
def B158_1 : List zRow := [(94, .iconst 0, 1, (0, 0, 0))]
theorem K158_1 : zRk 158 B158_1 = true := by decide +kernel
def B158_2 : List zRow := [(82, .aload_n 1, 1, (0, 0, 0)), (83, .iload_n 2, 1, (0, 0, 0))]
theorem K158_2 : zRk 158 B158_2 = true := by decide +kernel
def B158_3 : List zRow := [(90, .iconst 1, 1, (0, 0, 0)), (91, .goto 4, 3, (0, 0, 0))]
theorem K158_3 : zRk 158 B158_3 = true := by decide +kernel
def B158_4 : List zRow := [(87, .ifCond .ne 7, 3, (0, 0, 0))]
theorem K158_4 : zRk 158 B158_4 = true := by decide +kernel
def B158_5 : List zRow := [(79, .ifCond .ne 15, 3, (0, 0, 0))]
theorem K158_5 : zRk 158 B158_5 = true := by decide +kernel
def B158_6 : List zRow := [(0, .aload_n 0, 1, (0, 0, 0)), (1, .getfield 9, 3, (6, 2, 5243362)), (4, .iload_n 3, 1, (0, 0, 0)), (5, .iconst 1, 1, (0, 0, 0)), (6, .iadd, 1, (0, 0, 0)), (7, .iaload, 1, (0, 0, 0)), (8, .istore 4, 2, (0, 0, 0)), (10, .aload_n 0, 1, (0, 0, 0)), (11, .getfield 9, 3, (6, 2, 5243362)), (14, .iload_n 3, 1, (0, 0, 0)), (15, .iconst 2, 1, (0, 0, 0)), (16, .iadd, 1, (0, 0, 0)), (17, .iaload, 1, (0, 0, 0)), (18, .istore 5, 2, (0, 0, 0)), (20, .aload_n 0, 1, (0, 0, 0)), (21, .getfield 9, 3, (6, 2, 5243362)), (24, .iload_n 3, 1, (0, 0, 0)), (25, .iaload, 1, (0, 0, 0)), (26, .tableswitch 175 13 20 #[46, 70, 89, 101, 118, 132, 146, 160], 46, (0, 0, 0))]
theorem K158_6 : zRk 158 B158_6 = true := by decide +kernel
def B158_7 : List zRow := [(96, .aload_n 1, 1, (0, 0, 0)), (97, .iload_n 2, 1, (0, 0, 0)), (98, .iconst 5, 1, (0, 0, 0))]
theorem K158_7 : zRk 158 B158_7 = true := by decide +kernel
def B158_8 : List zRow := [(113, .iconst 0, 1, (0, 0, 0))]
theorem K158_8 : zRk 158 B158_8 = true := by decide +kernel
def B158_9 : List zRow := [(109, .iconst 1, 1, (0, 0, 0)), (110, .goto 4, 3, (0, 0, 0))]
theorem K158_9 : zRk 158 B158_9 = true := by decide +kernel
def B158_10 : List zRow := [(105, .iconst 1, 1, (0, 0, 0)), (106, .if_icmp .le 7, 3, (0, 0, 0))]
theorem K158_10 : zRk 158 B158_10 = true := by decide +kernel
def B158_11 : List zRow := [(115, .aload_n 1, 1, (0, 0, 0)), (116, .iload_n 2, 1, (0, 0, 0)), (117, .iconst 5, 1, (0, 0, 0))]
theorem K158_11 : zRk 158 B158_11 = true := by decide +kernel
def B158_12 : List zRow := [(121, .iload 5, 2, (0, 0, 0))]
theorem K158_12 : zRk 158 B158_12 = true := by decide +kernel
def B158_13 : List zRow := [(127, .aload_n 1, 1, (0, 0, 0)), (128, .iload_n 2, 1, (0, 0, 0)), (129, .iconst 1, 1, (0, 0, 0))]
theorem K158_13 : zRk 158 B158_13 = true := by decide +kernel
def B158_14 : List zRow := [(142, .iconst 0, 1, (0, 0, 0))]
theorem K158_14 : zRk 158 B158_14 = true := by decide +kernel
def B158_15 : List zRow := [(138, .iconst 1, 1, (0, 0, 0)), (139, .goto 4, 3, (0, 0, 0))]
theorem K158_15 : zRk 158 B158_15 = true := by decide +kernel
def B158_16 : List zRow := [(133, .iload 5, 2, (0, 0, 0)), (135, .if_icmp .ne 7, 3, (0, 0, 0))]
theorem K158_16 : zRk 158 B158_16 = true := by decide +kernel
def B158_17 : List zRow := [(144, .aload_n 1, 1, (0, 0, 0)), (145, .iload_n 2, 1, (0, 0, 0)), (146, .iconst 0, 1, (0, 0, 0))]
theorem K158_17 : zRk 158 B158_17 = true := by decide +kernel
def B158_18 : List zRow := [(150, .iload 4, 2, (0, 0, 0)), (152, .iload 5, 2, (0, 0, 0))]
theorem K158_18 : zRk 158 B158_18 = true := by decide +kernel
def B158_19 : List zRow := [(158, .aload_n 1, 1, (0, 0, 0)), (159, .iload_n 2, 1, (0, 0, 0)), (160, .iconst 4, 1, (0, 0, 0))]
theorem K158_19 : zRk 158 B158_19 = true := by decide +kernel
def B158_20 : List zRow := [(164, .iload 4, 2, (0, 0, 0)), (166, .iload 5, 2, (0, 0, 0))]
theorem K158_20 : zRk 158 B158_20 = true := by decide +kernel
def B158_21 : List zRow := [(172, .aload_n 1, 1, (0, 0, 0)), (173, .iload_n 2, 1, (0, 0, 0)), (174, .iconst 2, 1, (0, 0, 0))]
theorem K158_21 : zRk 158 B158_21 = true := by decide +kernel
def B158_22 : List zRow := [(178, .iload 4, 2, (0, 0, 0)), (180, .iload 5, 2, (0, 0, 0))]
theorem K158_22 : zRk 158 B158_22 = true := by decide +kernel
def B158_23 : List zRow := [(186, .aload_n 1, 1, (0, 0, 0)), (187, .iload_n 2, 1, (0, 0, 0)), (188, .bipush 6, 2, (0, 0, 0))]
theorem K158_23 : zRk 158 B158_23 = true := by decide +kernel
def B158_24 : List zRow := [(193, .iload 4, 2, (0, 0, 0)), (195, .iload 5, 2, (0, 0, 0))]
theorem K158_24 : zRk 158 B158_24 = true := by decide +kernel
def B158_25 : List zRow := [(201, .iconst 0, 1, (0, 0, 0))]
theorem K158_25 : zRk 158 B158_25 = true := by decide +kernel
/-- EchoVale$Sentence.isSo(LEchoVale$Course;II)Z -/
def F158 (v2 : Int) (v3 : Int) (h : zHC) : Option Int := zG (0 ≤ (wadd v3 1) ∧ (wadd v3 1) < 120) (zG (0 ≤ (wadd v3 2) ∧ (wadd v3 2) < 120) (zG (0 ≤ v3 ∧ v3 < 120) (if (h 386 0 v3) = 13 then (F63 v2 6 h).bind fun r1 => if ¬ r1 = 0 then some 0 else (F125b v2 h).bind fun r2 => if ¬ r2 = 0 then some 0 else some 1 else if (h 386 0 v3) = 14 then (F63 v2 5 h).bind fun r3 => (F64 r3).bind fun r4 => if r4 ≤ 1 then some 0 else some 1 else if (h 386 0 v3) = 15 then (F63 v2 5 h).bind fun r5 => (F65 r5 (h 386 0 (wadd v3 2))).bind fun r6 => zG (r6 = 0 ∨ r6 = 1) (some r6) else if (h 386 0 v3) = 16 then (F63 v2 1 h).bind fun r7 => if ¬ r7 = (h 386 0 (wadd v3 2)) then some 0 else some 1 else if (h 386 0 v3) = 17 then (F63 v2 0 h).bind fun r8 => (F159 r8 (h 386 0 (wadd v3 1)) (h 386 0 (wadd v3 2))).bind fun r9 => zG (r9 = 0 ∨ r9 = 1) (some r9) else if (h 386 0 v3) = 18 then (F63 v2 4 h).bind fun r10 => (F159 r10 (h 386 0 (wadd v3 1)) (h 386 0 (wadd v3 2))).bind fun r11 => zG (r11 = 0 ∨ r11 = 1) (some r11) else if (h 386 0 v3) = 19 then (F63 v2 2 h).bind fun r12 => (F159 r12 (h 386 0 (wadd v3 1)) (h 386 0 (wadd v3 2))).bind fun r13 => zG (r13 = 0 ∨ r13 = 1) (some r13) else if (h 386 0 v3) = 20 then (F63 v2 6 h).bind fun r14 => (F159 r14 (h 386 0 (wadd v3 1)) (h 386 0 (wadd v3 2))).bind fun r15 => zG (r15 = 0 ∨ r15 = 1) (some r15) else zG ((h 386 0 v3) < 13 ∨ 20 < (h 386 0 v3)) (some 0))))
set_option maxRecDepth 100000 in
theorem S158 {spec : zRn zH2} {hm : zHM} {o : Int → Int} {d : Nat} (hd : 2 ≤ d) (v2 : Int) (v3 : Int) (h : zHC) (v : Int) (e : F158 v2 v3 h = some v) : zRu2 spec d 158 [(16, 0), (11, 0), (0, v2), (0, v3)] (h, hm, o) (some (0, v)) (h, hm, o) := by
  refine zF_in (D := 1) (mx := 6) (L := [some (16, 0), some (11, 0), some (0, v2), some (0, v3), none, none]) (by decide +kernel) rfl rfl hd (fun d hd => ?_)
  unfold F158 at e
  obtain ⟨q1, e⟩ := zG_s e
  obtain ⟨q2, e⟩ := zG_s e
  obtain ⟨q3, e⟩ := zG_s e
  rcases zI_s e with ⟨q4, e⟩ | ⟨q4, e⟩
  · refine zF_blk (m := []) (d := 13) (b := B158_6) (gs := [0 ≤ (wadd v3 1) ∧ (wadd v3 1) < 120, 0 ≤ (wadd v3 2) ∧ (wadd v3 2) < 120, 0 ≤ v3 ∧ v3 < 120, (h 386 0 v3) = 13]) (c' := (72, [some (16, 0), some (11, 0), some (0, v2), some (0, v3), some (0, (h 386 0 (wadd v3 1))), some (0, (h 386 0 (wadd v3 2)))], [], (h, hm, o))) K158_6 rfl ⟨q1, q2, q3, q4, trivial⟩ ?_
    obtain ⟨r1, q5, e⟩ := zB_s e
    refine zF_blk (m := []) (d := 0) (b := B158_0) (gs := []) (c' := (76, [some (16, 0), some (11, 0), some (0, v2), some (0, v3), some (0, (h 386 0 (wadd v3 1))), some (0, (h 386 0 (wadd v3 2)))], [(0, 6), (0, v2), (11, 0)], (h, hm, o))) K158_0 rfl trivial ?_
    refine zF_call (k := 63) (cl := 1) (n := 3) (i := .invokevirtual 36) (args := [(11, 0), (0, v2), (0, 6)]) (rest := []) (g1 := (h, hm, o)) (r1 := some (0, r1)) (by decide +kernel) rfl rfl rfl (st' := [(0, r1)]) rfl (S63 (Nat.le_trans (by decide) hd) v2 6 h _ q5) ?_
    rcases zI_s e with ⟨q6, e⟩ | ⟨q6, e⟩
    · refine zF_blk (m := []) (d := 1) (b := B158_5) (gs := [¬ r1 = 0]) (c' := (94, [some (16, 0), some (11, 0), some (0, v2), some (0, v3), some (0, (h 386 0 (wadd v3 1))), some (0, (h 386 0 (wadd v3 2)))], [], (h, hm, o))) K158_5 rfl ⟨q6, trivial⟩ ?_
      refine zF_blk (m := []) (d := 0) (b := B158_1) (gs := []) (c' := (95, [some (16, 0), some (11, 0), some (0, v2), some (0, v3), some (0, (h 386 0 (wadd v3 1))), some (0, (h 386 0 (wadd v3 2)))], [(0, 0)], (h, hm, o))) K158_1 rfl trivial ?_
      obtain rfl := Option.some.inj e
      exact zF_rb (by decide +kernel) (Or.inl rfl)
    · refine zF_blk (m := []) (d := 0) (b := B158_5) (gs := [¬ (¬ r1 = 0)]) (c' := (82, [some (16, 0), some (11, 0), some (0, v2), some (0, v3), some (0, (h 386 0 (wadd v3 1))), some (0, (h 386 0 (wadd v3 2)))], [], (h, hm, o))) K158_5 rfl ⟨q6, trivial⟩ ?_
      obtain ⟨r2, q7, e⟩ := zB_s e
      refine zF_blk (m := []) (d := 0) (b := B158_2) (gs := []) (c' := (84, [some (16, 0), some (11, 0), some (0, v2), some (0, v3), some (0, (h 386 0 (wadd v3 1))), some (0, (h 386 0 (wadd v3 2)))], [(0, v2), (11, 0)], (h, hm, o))) K158_2 rfl trivial ?_
      refine zF_call (k := 125) (cl := 1) (n := 2) (i := .invokevirtual 42) (args := [(11, 0), (0, v2)]) (rest := []) (g1 := (h, hm, o)) (r1 := some (0, r2)) (by decide +kernel) rfl rfl rfl (st' := [(0, r2)]) rfl (S125b (Nat.le_trans (by decide) hd) v2 h _ q7) ?_
      rcases zI_s e with ⟨q8, e⟩ | ⟨q8, e⟩
      · refine zF_blk (m := []) (d := 1) (b := B158_4) (gs := [¬ r2 = 0]) (c' := (94, [some (16, 0), some (11, 0), some (0, v2), some (0, v3), some (0, (h 386 0 (wadd v3 1))), some (0, (h 386 0 (wadd v3 2)))], [], (h, hm, o))) K158_4 rfl ⟨q8, trivial⟩ ?_
        refine zF_blk (m := []) (d := 0) (b := B158_1) (gs := []) (c' := (95, [some (16, 0), some (11, 0), some (0, v2), some (0, v3), some (0, (h 386 0 (wadd v3 1))), some (0, (h 386 0 (wadd v3 2)))], [(0, 0)], (h, hm, o))) K158_1 rfl trivial ?_
        obtain rfl := Option.some.inj e
        exact zF_rb (by decide +kernel) (Or.inl rfl)
      · refine zF_blk (m := []) (d := 0) (b := B158_4) (gs := [¬ (¬ r2 = 0)]) (c' := (90, [some (16, 0), some (11, 0), some (0, v2), some (0, v3), some (0, (h 386 0 (wadd v3 1))), some (0, (h 386 0 (wadd v3 2)))], [], (h, hm, o))) K158_4 rfl ⟨q8, trivial⟩ ?_
        refine zF_blk (m := []) (d := 0) (b := B158_3) (gs := []) (c' := (95, [some (16, 0), some (11, 0), some (0, v2), some (0, v3), some (0, (h 386 0 (wadd v3 1))), some (0, (h 386 0 (wadd v3 2)))], [(0, 1)], (h, hm, o))) K158_3 rfl trivial ?_
        obtain rfl := Option.some.inj e
        exact zF_rb (by decide +kernel) (Or.inr rfl)
  rcases zI_s e with ⟨q9, e⟩ | ⟨q9, e⟩
  · refine zF_blk (m := []) (d := 14) (b := B158_6) (gs := [0 ≤ (wadd v3 1) ∧ (wadd v3 1) < 120, 0 ≤ (wadd v3 2) ∧ (wadd v3 2) < 120, 0 ≤ v3 ∧ v3 < 120, (h 386 0 v3) = 14]) (c' := (96, [some (16, 0), some (11, 0), some (0, v2), some (0, v3), some (0, (h 386 0 (wadd v3 1))), some (0, (h 386 0 (wadd v3 2)))], [], (h, hm, o))) K158_6 rfl ⟨q1, q2, q3, q9, trivial⟩ ?_
    obtain ⟨r3, q10, e⟩ := zB_s e
    refine zF_blk (m := []) (d := 0) (b := B158_7) (gs := []) (c' := (99, [some (16, 0), some (11, 0), some (0, v2), some (0, v3), some (0, (h 386 0 (wadd v3 1))), some (0, (h 386 0 (wadd v3 2)))], [(0, 5), (0, v2), (11, 0)], (h, hm, o))) K158_7 rfl trivial ?_
    refine zF_call (k := 63) (cl := 1) (n := 3) (i := .invokevirtual 36) (args := [(11, 0), (0, v2), (0, 5)]) (rest := []) (g1 := (h, hm, o)) (r1 := some (0, r3)) (by decide +kernel) rfl rfl rfl (st' := [(0, r3)]) rfl (S63 (Nat.le_trans (by decide) hd) v2 5 h _ q10) ?_
    obtain ⟨r4, q11, e⟩ := zB_s e
    refine zF_call (k := 64) (cl := 13) (n := 1) (i := .invokestatic 46) (args := [(0, r3)]) (rest := []) (g1 := (h, hm, o)) (r1 := some (0, r4)) (by decide +kernel) rfl rfl rfl (st' := [(0, r4)]) rfl (S64 (Nat.le_trans (by decide) hd) r3 h _ q11) ?_
    rcases zI_s e with ⟨q12, e⟩ | ⟨q12, e⟩
    · refine zF_blk (m := []) (d := 1) (b := B158_10) (gs := [r4 ≤ 1]) (c' := (113, [some (16, 0), some (11, 0), some (0, v2), some (0, v3), some (0, (h 386 0 (wadd v3 1))), some (0, (h 386 0 (wadd v3 2)))], [], (h, hm, o))) K158_10 rfl ⟨q12, trivial⟩ ?_
      refine zF_blk (m := []) (d := 0) (b := B158_8) (gs := []) (c' := (114, [some (16, 0), some (11, 0), some (0, v2), some (0, v3), some (0, (h 386 0 (wadd v3 1))), some (0, (h 386 0 (wadd v3 2)))], [(0, 0)], (h, hm, o))) K158_8 rfl trivial ?_
      obtain rfl := Option.some.inj e
      exact zF_rb (by decide +kernel) (Or.inl rfl)
    · refine zF_blk (m := []) (d := 0) (b := B158_10) (gs := [¬ (r4 ≤ 1)]) (c' := (109, [some (16, 0), some (11, 0), some (0, v2), some (0, v3), some (0, (h 386 0 (wadd v3 1))), some (0, (h 386 0 (wadd v3 2)))], [], (h, hm, o))) K158_10 rfl ⟨q12, trivial⟩ ?_
      refine zF_blk (m := []) (d := 0) (b := B158_9) (gs := []) (c' := (114, [some (16, 0), some (11, 0), some (0, v2), some (0, v3), some (0, (h 386 0 (wadd v3 1))), some (0, (h 386 0 (wadd v3 2)))], [(0, 1)], (h, hm, o))) K158_9 rfl trivial ?_
      obtain rfl := Option.some.inj e
      exact zF_rb (by decide +kernel) (Or.inr rfl)
  rcases zI_s e with ⟨q13, e⟩ | ⟨q13, e⟩
  · refine zF_blk (m := []) (d := 15) (b := B158_6) (gs := [0 ≤ (wadd v3 1) ∧ (wadd v3 1) < 120, 0 ≤ (wadd v3 2) ∧ (wadd v3 2) < 120, 0 ≤ v3 ∧ v3 < 120, (h 386 0 v3) = 15]) (c' := (115, [some (16, 0), some (11, 0), some (0, v2), some (0, v3), some (0, (h 386 0 (wadd v3 1))), some (0, (h 386 0 (wadd v3 2)))], [], (h, hm, o))) K158_6 rfl ⟨q1, q2, q3, q13, trivial⟩ ?_
    obtain ⟨r5, q14, e⟩ := zB_s e
    refine zF_blk (m := []) (d := 0) (b := B158_11) (gs := []) (c' := (118, [some (16, 0), some (11, 0), some (0, v2), some (0, v3), some (0, (h 386 0 (wadd v3 1))), some (0, (h 386 0 (wadd v3 2)))], [(0, 5), (0, v2), (11, 0)], (h, hm, o))) K158_11 rfl trivial ?_
    refine zF_call (k := 63) (cl := 1) (n := 3) (i := .invokevirtual 36) (args := [(11, 0), (0, v2), (0, 5)]) (rest := []) (g1 := (h, hm, o)) (r1 := some (0, r5)) (by decide +kernel) rfl rfl rfl (st' := [(0, r5)]) rfl (S63 (Nat.le_trans (by decide) hd) v2 5 h _ q14) ?_
    obtain ⟨r6, q15, e⟩ := zB_s e
    refine zF_blk (m := []) (d := 0) (b := B158_12) (gs := []) (c' := (123, [some (16, 0), some (11, 0), some (0, v2), some (0, v3), some (0, (h 386 0 (wadd v3 1))), some (0, (h 386 0 (wadd v3 2)))], [(0, (h 386 0 (wadd v3 2))), (0, r5)], (h, hm, o))) K158_12 rfl trivial ?_
    refine zF_call (k := 65) (cl := 11) (n := 2) (i := .invokestatic 52) (args := [(0, r5), (0, (h 386 0 (wadd v3 2)))]) (rest := []) (g1 := (h, hm, o)) (r1 := some (0, r6)) (by decide +kernel) rfl rfl rfl (st' := [(0, r6)]) rfl (S65 (Nat.le_trans (by decide) hd) r5 (h 386 0 (wadd v3 2)) h _ q15) ?_
    obtain ⟨q16, e⟩ := zG_s e
    obtain rfl := Option.some.inj e
    exact zF_rb (by decide +kernel) q16
  rcases zI_s e with ⟨q17, e⟩ | ⟨q17, e⟩
  · refine zF_blk (m := []) (d := 16) (b := B158_6) (gs := [0 ≤ (wadd v3 1) ∧ (wadd v3 1) < 120, 0 ≤ (wadd v3 2) ∧ (wadd v3 2) < 120, 0 ≤ v3 ∧ v3 < 120, (h 386 0 v3) = 16]) (c' := (127, [some (16, 0), some (11, 0), some (0, v2), some (0, v3), some (0, (h 386 0 (wadd v3 1))), some (0, (h 386 0 (wadd v3 2)))], [], (h, hm, o))) K158_6 rfl ⟨q1, q2, q3, q17, trivial⟩ ?_
    obtain ⟨r7, q18, e⟩ := zB_s e
    refine zF_blk (m := []) (d := 0) (b := B158_13) (gs := []) (c' := (130, [some (16, 0), some (11, 0), some (0, v2), some (0, v3), some (0, (h 386 0 (wadd v3 1))), some (0, (h 386 0 (wadd v3 2)))], [(0, 1), (0, v2), (11, 0)], (h, hm, o))) K158_13 rfl trivial ?_
    refine zF_call (k := 63) (cl := 1) (n := 3) (i := .invokevirtual 36) (args := [(11, 0), (0, v2), (0, 1)]) (rest := []) (g1 := (h, hm, o)) (r1 := some (0, r7)) (by decide +kernel) rfl rfl rfl (st' := [(0, r7)]) rfl (S63 (Nat.le_trans (by decide) hd) v2 1 h _ q18) ?_
    rcases zI_s e with ⟨q19, e⟩ | ⟨q19, e⟩
    · refine zF_blk (m := []) (d := 1) (b := B158_16) (gs := [¬ r7 = (h 386 0 (wadd v3 2))]) (c' := (142, [some (16, 0), some (11, 0), some (0, v2), some (0, v3), some (0, (h 386 0 (wadd v3 1))), some (0, (h 386 0 (wadd v3 2)))], [], (h, hm, o))) K158_16 rfl ⟨q19, trivial⟩ ?_
      refine zF_blk (m := []) (d := 0) (b := B158_14) (gs := []) (c' := (143, [some (16, 0), some (11, 0), some (0, v2), some (0, v3), some (0, (h 386 0 (wadd v3 1))), some (0, (h 386 0 (wadd v3 2)))], [(0, 0)], (h, hm, o))) K158_14 rfl trivial ?_
      obtain rfl := Option.some.inj e
      exact zF_rb (by decide +kernel) (Or.inl rfl)
    · refine zF_blk (m := []) (d := 0) (b := B158_16) (gs := [¬ (¬ r7 = (h 386 0 (wadd v3 2)))]) (c' := (138, [some (16, 0), some (11, 0), some (0, v2), some (0, v3), some (0, (h 386 0 (wadd v3 1))), some (0, (h 386 0 (wadd v3 2)))], [], (h, hm, o))) K158_16 rfl ⟨q19, trivial⟩ ?_
      refine zF_blk (m := []) (d := 0) (b := B158_15) (gs := []) (c' := (143, [some (16, 0), some (11, 0), some (0, v2), some (0, v3), some (0, (h 386 0 (wadd v3 1))), some (0, (h 386 0 (wadd v3 2)))], [(0, 1)], (h, hm, o))) K158_15 rfl trivial ?_
      obtain rfl := Option.some.inj e
      exact zF_rb (by decide +kernel) (Or.inr rfl)
  rcases zI_s e with ⟨q20, e⟩ | ⟨q20, e⟩
  · refine zF_blk (m := []) (d := 17) (b := B158_6) (gs := [0 ≤ (wadd v3 1) ∧ (wadd v3 1) < 120, 0 ≤ (wadd v3 2) ∧ (wadd v3 2) < 120, 0 ≤ v3 ∧ v3 < 120, (h 386 0 v3) = 17]) (c' := (144, [some (16, 0), some (11, 0), some (0, v2), some (0, v3), some (0, (h 386 0 (wadd v3 1))), some (0, (h 386 0 (wadd v3 2)))], [], (h, hm, o))) K158_6 rfl ⟨q1, q2, q3, q20, trivial⟩ ?_
    obtain ⟨r8, q21, e⟩ := zB_s e
    refine zF_blk (m := []) (d := 0) (b := B158_17) (gs := []) (c' := (147, [some (16, 0), some (11, 0), some (0, v2), some (0, v3), some (0, (h 386 0 (wadd v3 1))), some (0, (h 386 0 (wadd v3 2)))], [(0, 0), (0, v2), (11, 0)], (h, hm, o))) K158_17 rfl trivial ?_
    refine zF_call (k := 63) (cl := 1) (n := 3) (i := .invokevirtual 36) (args := [(11, 0), (0, v2), (0, 0)]) (rest := []) (g1 := (h, hm, o)) (r1 := some (0, r8)) (by decide +kernel) rfl rfl rfl (st' := [(0, r8)]) rfl (S63 (Nat.le_trans (by decide) hd) v2 0 h _ q21) ?_
    obtain ⟨r9, q22, e⟩ := zB_s e
    refine zF_blk (m := []) (d := 0) (b := B158_18) (gs := []) (c' := (154, [some (16, 0), some (11, 0), some (0, v2), some (0, v3), some (0, (h 386 0 (wadd v3 1))), some (0, (h 386 0 (wadd v3 2)))], [(0, (h 386 0 (wadd v3 2))), (0, (h 386 0 (wadd v3 1))), (0, r8)], (h, hm, o))) K158_18 rfl trivial ?_
    refine zF_call (k := 159) (cl := 6) (n := 3) (i := .invokestatic 56) (args := [(0, r8), (0, (h 386 0 (wadd v3 1))), (0, (h 386 0 (wadd v3 2)))]) (rest := []) (g1 := (h, hm, o)) (r1 := some (0, r9)) (by decide +kernel) rfl rfl rfl (st' := [(0, r9)]) rfl (S159 (Nat.le_trans (by decide) hd) r8 (h 386 0 (wadd v3 1)) (h 386 0 (wadd v3 2)) h _ q22) ?_
    obtain ⟨q23, e⟩ := zG_s e
    obtain rfl := Option.some.inj e
    exact zF_rb (by decide +kernel) q23
  rcases zI_s e with ⟨q24, e⟩ | ⟨q24, e⟩
  · refine zF_blk (m := []) (d := 18) (b := B158_6) (gs := [0 ≤ (wadd v3 1) ∧ (wadd v3 1) < 120, 0 ≤ (wadd v3 2) ∧ (wadd v3 2) < 120, 0 ≤ v3 ∧ v3 < 120, (h 386 0 v3) = 18]) (c' := (158, [some (16, 0), some (11, 0), some (0, v2), some (0, v3), some (0, (h 386 0 (wadd v3 1))), some (0, (h 386 0 (wadd v3 2)))], [], (h, hm, o))) K158_6 rfl ⟨q1, q2, q3, q24, trivial⟩ ?_
    obtain ⟨r10, q25, e⟩ := zB_s e
    refine zF_blk (m := []) (d := 0) (b := B158_19) (gs := []) (c' := (161, [some (16, 0), some (11, 0), some (0, v2), some (0, v3), some (0, (h 386 0 (wadd v3 1))), some (0, (h 386 0 (wadd v3 2)))], [(0, 4), (0, v2), (11, 0)], (h, hm, o))) K158_19 rfl trivial ?_
    refine zF_call (k := 63) (cl := 1) (n := 3) (i := .invokevirtual 36) (args := [(11, 0), (0, v2), (0, 4)]) (rest := []) (g1 := (h, hm, o)) (r1 := some (0, r10)) (by decide +kernel) rfl rfl rfl (st' := [(0, r10)]) rfl (S63 (Nat.le_trans (by decide) hd) v2 4 h _ q25) ?_
    obtain ⟨r11, q26, e⟩ := zB_s e
    refine zF_blk (m := []) (d := 0) (b := B158_20) (gs := []) (c' := (168, [some (16, 0), some (11, 0), some (0, v2), some (0, v3), some (0, (h 386 0 (wadd v3 1))), some (0, (h 386 0 (wadd v3 2)))], [(0, (h 386 0 (wadd v3 2))), (0, (h 386 0 (wadd v3 1))), (0, r10)], (h, hm, o))) K158_20 rfl trivial ?_
    refine zF_call (k := 159) (cl := 6) (n := 3) (i := .invokestatic 56) (args := [(0, r10), (0, (h 386 0 (wadd v3 1))), (0, (h 386 0 (wadd v3 2)))]) (rest := []) (g1 := (h, hm, o)) (r1 := some (0, r11)) (by decide +kernel) rfl rfl rfl (st' := [(0, r11)]) rfl (S159 (Nat.le_trans (by decide) hd) r10 (h 386 0 (wadd v3 1)) (h 386 0 (wadd v3 2)) h _ q26) ?_
    obtain ⟨q27, e⟩ := zG_s e
    obtain rfl := Option.some.inj e
    exact zF_rb (by decide +kernel) q27
  rcases zI_s e with ⟨q28, e⟩ | ⟨q28, e⟩
  · refine zF_blk (m := []) (d := 19) (b := B158_6) (gs := [0 ≤ (wadd v3 1) ∧ (wadd v3 1) < 120, 0 ≤ (wadd v3 2) ∧ (wadd v3 2) < 120, 0 ≤ v3 ∧ v3 < 120, (h 386 0 v3) = 19]) (c' := (172, [some (16, 0), some (11, 0), some (0, v2), some (0, v3), some (0, (h 386 0 (wadd v3 1))), some (0, (h 386 0 (wadd v3 2)))], [], (h, hm, o))) K158_6 rfl ⟨q1, q2, q3, q28, trivial⟩ ?_
    obtain ⟨r12, q29, e⟩ := zB_s e
    refine zF_blk (m := []) (d := 0) (b := B158_21) (gs := []) (c' := (175, [some (16, 0), some (11, 0), some (0, v2), some (0, v3), some (0, (h 386 0 (wadd v3 1))), some (0, (h 386 0 (wadd v3 2)))], [(0, 2), (0, v2), (11, 0)], (h, hm, o))) K158_21 rfl trivial ?_
    refine zF_call (k := 63) (cl := 1) (n := 3) (i := .invokevirtual 36) (args := [(11, 0), (0, v2), (0, 2)]) (rest := []) (g1 := (h, hm, o)) (r1 := some (0, r12)) (by decide +kernel) rfl rfl rfl (st' := [(0, r12)]) rfl (S63 (Nat.le_trans (by decide) hd) v2 2 h _ q29) ?_
    obtain ⟨r13, q30, e⟩ := zB_s e
    refine zF_blk (m := []) (d := 0) (b := B158_22) (gs := []) (c' := (182, [some (16, 0), some (11, 0), some (0, v2), some (0, v3), some (0, (h 386 0 (wadd v3 1))), some (0, (h 386 0 (wadd v3 2)))], [(0, (h 386 0 (wadd v3 2))), (0, (h 386 0 (wadd v3 1))), (0, r12)], (h, hm, o))) K158_22 rfl trivial ?_
    refine zF_call (k := 159) (cl := 6) (n := 3) (i := .invokestatic 56) (args := [(0, r12), (0, (h 386 0 (wadd v3 1))), (0, (h 386 0 (wadd v3 2)))]) (rest := []) (g1 := (h, hm, o)) (r1 := some (0, r13)) (by decide +kernel) rfl rfl rfl (st' := [(0, r13)]) rfl (S159 (Nat.le_trans (by decide) hd) r12 (h 386 0 (wadd v3 1)) (h 386 0 (wadd v3 2)) h _ q30) ?_
    obtain ⟨q31, e⟩ := zG_s e
    obtain rfl := Option.some.inj e
    exact zF_rb (by decide +kernel) q31
  rcases zI_s e with ⟨q32, e⟩ | ⟨q32, e⟩
  · refine zF_blk (m := []) (d := 20) (b := B158_6) (gs := [0 ≤ (wadd v3 1) ∧ (wadd v3 1) < 120, 0 ≤ (wadd v3 2) ∧ (wadd v3 2) < 120, 0 ≤ v3 ∧ v3 < 120, (h 386 0 v3) = 20]) (c' := (186, [some (16, 0), some (11, 0), some (0, v2), some (0, v3), some (0, (h 386 0 (wadd v3 1))), some (0, (h 386 0 (wadd v3 2)))], [], (h, hm, o))) K158_6 rfl ⟨q1, q2, q3, q32, trivial⟩ ?_
    obtain ⟨r14, q33, e⟩ := zB_s e
    refine zF_blk (m := []) (d := 0) (b := B158_23) (gs := []) (c' := (190, [some (16, 0), some (11, 0), some (0, v2), some (0, v3), some (0, (h 386 0 (wadd v3 1))), some (0, (h 386 0 (wadd v3 2)))], [(0, 6), (0, v2), (11, 0)], (h, hm, o))) K158_23 rfl trivial ?_
    refine zF_call (k := 63) (cl := 1) (n := 3) (i := .invokevirtual 36) (args := [(11, 0), (0, v2), (0, 6)]) (rest := []) (g1 := (h, hm, o)) (r1 := some (0, r14)) (by decide +kernel) rfl rfl rfl (st' := [(0, r14)]) rfl (S63 (Nat.le_trans (by decide) hd) v2 6 h _ q33) ?_
    obtain ⟨r15, q34, e⟩ := zB_s e
    refine zF_blk (m := []) (d := 0) (b := B158_24) (gs := []) (c' := (197, [some (16, 0), some (11, 0), some (0, v2), some (0, v3), some (0, (h 386 0 (wadd v3 1))), some (0, (h 386 0 (wadd v3 2)))], [(0, (h 386 0 (wadd v3 2))), (0, (h 386 0 (wadd v3 1))), (0, r14)], (h, hm, o))) K158_24 rfl trivial ?_
    refine zF_call (k := 159) (cl := 6) (n := 3) (i := .invokestatic 56) (args := [(0, r14), (0, (h 386 0 (wadd v3 1))), (0, (h 386 0 (wadd v3 2)))]) (rest := []) (g1 := (h, hm, o)) (r1 := some (0, r15)) (by decide +kernel) rfl rfl rfl (st' := [(0, r15)]) rfl (S159 (Nat.le_trans (by decide) hd) r14 (h 386 0 (wadd v3 1)) (h 386 0 (wadd v3 2)) h _ q34) ?_
    obtain ⟨q35, e⟩ := zG_s e
    obtain rfl := Option.some.inj e
    exact zF_rb (by decide +kernel) q35
  obtain ⟨q36, e⟩ := zG_s e
  refine zF_blk (m := []) (d := 21) (b := B158_6) (gs := [0 ≤ (wadd v3 1) ∧ (wadd v3 1) < 120, 0 ≤ (wadd v3 2) ∧ (wadd v3 2) < 120, 0 ≤ v3 ∧ v3 < 120, (h 386 0 v3) < 13 ∨ 20 < (h 386 0 v3)]) (c' := (201, [some (16, 0), some (11, 0), some (0, v2), some (0, v3), some (0, (h 386 0 (wadd v3 1))), some (0, (h 386 0 (wadd v3 2)))], [], (h, hm, o))) K158_6 rfl ⟨q1, q2, q3, q36, trivial⟩ ?_
  refine zF_blk (m := []) (d := 0) (b := B158_25) (gs := []) (c' := (202, [some (16, 0), some (11, 0), some (0, v2), some (0, v3), some (0, (h 386 0 (wadd v3 1))), some (0, (h 386 0 (wadd v3 2)))], [(0, 0)], (h, hm, o))) K158_25 rfl trivial ?_
  obtain rfl := Option.some.inj e
  exact zF_rb (by decide +kernel) (Or.inl rfl)
def B157_0 : List zRow := [(0, .iconst 0, 1, (0, 0, 0)), (1, .istore_n 3, 1, (0, 0, 0)), (2, .iconst 0, 1, (0, 0, 0)), (3, .istore 4, 2, (0, 0, 0))]
theorem K157_0 : zRk 157 B157_0 = true := by decide +kernel
def B157_1 : List zRow := [(215, .iconst 0, 1, (0, 0, 0))]
theorem K157_1 : zRk 157 B157_1 = true := by decide +kernel
def B157_2 : List zRow := [(211, .iconst 1, 1, (0, 0, 0)), (212, .goto 4, 3, (0, 0, 0))]
theorem K157_2 : zRk 157 B157_2 = true := by decide +kernel
def B157_3 : List zRow := [(200, .aload_n 0, 1, (0, 0, 0)), (201, .getfield 15, 3, (6, 3, 5767330)), (204, .iload_n 3, 1, (0, 0, 0)), (205, .iconst 1, 1, (0, 0, 0)), (206, .isub, 1, (0, 0, 0)), (207, .baload, 1, (0, 0, 0)), (208, .ifCond .eq 7, 3, (0, 0, 0))]
theorem K157_3 : zRk 157 B157_3 = true := by decide +kernel
def B157_4 : List zRow := [(196, .iload_n 3, 1, (0, 0, 0)), (197, .ifCond .le 18, 3, (0, 0, 0))]
theorem K157_4 : zRk 157 B157_4 = true := by decide +kernel
def B157_5 : List zRow := [(58, .iconst 0, 1, (0, 0, 0))]
theorem K157_5 : zRk 157 B157_5 = true := by decide +kernel
def B157_6 : List zRow := [(54, .iconst 1, 1, (0, 0, 0)), (55, .goto 4, 3, (0, 0, 0))]
theorem K157_6 : zRk 157 B157_6 = true := by decide +kernel
def B157_7 : List zRow := [(36, .aload_n 0, 1, (0, 0, 0)), (37, .getfield 15, 3, (6, 3, 5767330)), (40, .iload_n 3, 1, (0, 0, 0)), (41, .iconst 1, 1, (0, 0, 0)), (42, .isub, 1, (0, 0, 0)), (43, .aload_n 0, 1, (0, 0, 0)), (44, .getfield 15, 3, (6, 3, 5767330)), (47, .iload_n 3, 1, (0, 0, 0)), (48, .iconst 1, 1, (0, 0, 0)), (49, .isub, 1, (0, 0, 0)), (50, .baload, 1, (0, 0, 0)), (51, .ifCond .ne 7, 3, (0, 0, 0))]
theorem K157_7 : zRk 157 B157_7 = true := by decide +kernel
def B157_8 : List zRow := [(32, .iload_n 3, 1, (0, 0, 0)), (33, .ifCond .le 30, 3, (0, 0, 0))]
theorem K157_8 : zRk 157 B157_8 = true := by decide +kernel
def B157_9 : List zRow := [(14, .aload_n 0, 1, (0, 0, 0)), (15, .getfield 9, 3, (6, 2, 5243362)), (18, .iload 4, 2, (0, 0, 0)), (20, .iconst 3, 1, (0, 0, 0)), (21, .imul, 1, (0, 0, 0)), (22, .iaload, 1, (0, 0, 0)), (23, .istore 5, 2, (0, 0, 0)), (25, .iload 5, 2, (0, 0, 0)), (27, .bipush 12, 2, (0, 0, 0)), (29, .if_icmp .ne 34, 3, (0, 0, 0))]
theorem K157_9 : zRk 157 B157_9 = true := by decide +kernel
def B157_10 : List zRow := [(5, .iload 4, 2, (0, 0, 0)), (7, .aload_n 0, 1, (0, 0, 0)), (8, .getfield 23, 3, (6, 1, 0)), (11, .if_icmp .ge 185, 3, (0, 0, 0))]
theorem K157_10 : zRk 157 B157_10 = true := by decide +kernel
def B157_11 : List zRow := [(59, .bastore, 1, (0, 0, 0)), (60, .goto 130, 3, (0, 0, 0))]
theorem K157_11 : zRk 157 B157_11 = true := by decide +kernel
def B157_12 : List zRow := [(190, .iinc 4 1, 3, (0, 0, 0)), (193, .goto (-188), 3, (0, 0, 0))]
theorem K157_12 : zRk 157 B157_12 = true := by decide +kernel
def B157_13 : List zRow := [(105, .iconst 1, 1, (0, 0, 0)), (106, .goto 4, 3, (0, 0, 0))]
theorem K157_13 : zRk 157 B157_13 = true := by decide +kernel
def B157_14 : List zRow := [(96, .aload_n 0, 1, (0, 0, 0)), (97, .getfield 15, 3, (6, 3, 5767330)), (100, .iload_n 3, 1, (0, 0, 0)), (101, .baload, 1, (0, 0, 0)), (102, .ifCond .eq 7, 3, (0, 0, 0))]
theorem K157_14 : zRk 157 B157_14 = true := by decide +kernel
def B157_15 : List zRow := [(75, .iinc 3 (-1), 3, (0, 0, 0)), (78, .aload_n 0, 1, (0, 0, 0)), (79, .getfield 15, 3, (6, 3, 5767330)), (82, .iload_n 3, 1, (0, 0, 0)), (83, .iconst 1, 1, (0, 0, 0)), (84, .isub, 1, (0, 0, 0)), (85, .aload_n 0, 1, (0, 0, 0)), (86, .getfield 15, 3, (6, 3, 5767330)), (89, .iload_n 3, 1, (0, 0, 0)), (90, .iconst 1, 1, (0, 0, 0)), (91, .isub, 1, (0, 0, 0)), (92, .baload, 1, (0, 0, 0)), (93, .ifCond .eq 16, 3, (0, 0, 0))]
theorem K157_15 : zRk 157 B157_15 = true := by decide +kernel
def B157_16 : List zRow := [(70, .iload_n 3, 1, (0, 0, 0)), (71, .iconst 1, 1, (0, 0, 0)), (72, .if_icmp .le 42, 3, (0, 0, 0))]
theorem K157_16 : zRk 157 B157_16 = true := by decide +kernel
def B157_17 : List zRow := [(63, .iload 5, 2, (0, 0, 0)), (65, .bipush 11, 2, (0, 0, 0)), (67, .if_icmp .ne 47, 3, (0, 0, 0))]
theorem K157_17 : zRk 157 B157_17 = true := by decide +kernel
def B157_18 : List zRow := [(110, .bastore, 1, (0, 0, 0)), (111, .goto 79, 3, (0, 0, 0))]
theorem K157_18 : zRk 157 B157_18 = true := by decide +kernel
def B157_19 : List zRow := [(109, .iconst 0, 1, (0, 0, 0))]
theorem K157_19 : zRk 157 B157_19 = true := by decide +kernel
def B157_20 : List zRow := [(160, .iconst 0, 1, (0, 0, 0))]
theorem K157_20 : zRk 157 B157_20 = true := by decide +kernel
def B157_21 : List zRow := [(147, .aload_n 0, 1, (0, 0, 0)), (148, .getfield 15, 3, (6, 3, 5767330)), (151, .iload_n 3, 1, (0, 0, 0)), (152, .baload, 1, (0, 0, 0)), (153, .ifCond .eq 7, 3, (0, 0, 0))]
theorem K157_21 : zRk 157 B157_21 = true := by decide +kernel
def B157_22 : List zRow := [(126, .iinc 3 (-1), 3, (0, 0, 0)), (129, .aload_n 0, 1, (0, 0, 0)), (130, .getfield 15, 3, (6, 3, 5767330)), (133, .iload_n 3, 1, (0, 0, 0)), (134, .iconst 1, 1, (0, 0, 0)), (135, .isub, 1, (0, 0, 0)), (136, .aload_n 0, 1, (0, 0, 0)), (137, .getfield 15, 3, (6, 3, 5767330)), (140, .iload_n 3, 1, (0, 0, 0)), (141, .iconst 1, 1, (0, 0, 0)), (142, .isub, 1, (0, 0, 0)), (143, .baload, 1, (0, 0, 0)), (144, .ifCond .ne 12, 3, (0, 0, 0))]
theorem K157_22 : zRk 157 B157_22 = true := by decide +kernel
def B157_23 : List zRow := [(121, .iload_n 3, 1, (0, 0, 0)), (122, .iconst 1, 1, (0, 0, 0)), (123, .if_icmp .le 42, 3, (0, 0, 0))]
theorem K157_23 : zRk 157 B157_23 = true := by decide +kernel
def B157_24 : List zRow := [(114, .iload 5, 2, (0, 0, 0)), (116, .bipush 10, 2, (0, 0, 0)), (118, .if_icmp .ne 47, 3, (0, 0, 0))]
theorem K157_24 : zRk 157 B157_24 = true := by decide +kernel
def B157_25 : List zRow := [(161, .bastore, 1, (0, 0, 0)), (162, .goto 28, 3, (0, 0, 0))]
theorem K157_25 : zRk 157 B157_25 = true := by decide +kernel
def B157_26 : List zRow := [(156, .iconst 1, 1, (0, 0, 0)), (157, .goto 4, 3, (0, 0, 0))]
theorem K157_26 : zRk 157 B157_26 = true := by decide +kernel
def B157_27 : List zRow := [(171, .aload_n 0, 1, (0, 0, 0)), (172, .getfield 15, 3, (6, 3, 5767330)), (175, .iload_n 3, 1, (0, 0, 0)), (176, .aload_n 0, 1, (0, 0, 0)), (177, .aload_n 1, 1, (0, 0, 0)), (178, .iload_n 2, 1, (0, 0, 0)), (179, .iload 4, 2, (0, 0, 0)), (181, .iconst 3, 1, (0, 0, 0)), (182, .imul, 1, (0, 0, 0))]
theorem K157_27 : zRk 157 B157_27 = true := by decide +kernel
def B157_28 : List zRow := [(186, .bastore, 1, (0, 0, 0)), (187, .iinc 3 1, 3, (0, 0, 0))]
theorem K157_28 : zRk 157 B157_28 = true := by decide +kernel
def B157_29 : List zRow := [(165, .iload_n 3, 1, (0, 0, 0)), (166, .bipush 40, 2, (0, 0, 0)), (168, .if_icmp .ge 22, 3, (0, 0, 0))]
theorem K157_29 : zRk 157 B157_29 = true := by decide +kernel
def F157_3 (k0 : Int → Int → Int → zHC → Option (Int × zHC)) (v2 : Int) (v3 : Int) (v4 : Int) (h : zHC) : Option (Int × zHC) := k0 v2 v3 (wadd v4 1) h
set_option maxRecDepth 100000 in
theorem T157_3 {spec : zRn zH2} {hm : zHM} {o : Int → Int} {d : Nat} (hd : 2 ≤ d) (k0 : Int → Int → Int → zHC → Option (Int × zHC)) (hk0 : ∀ (v2 : Int) (v3 : Int) (v4 : Int) (h : zHC) (v : (Int × zHC)), k0 v2 v3 v4 h = some v → zFin 0 (fun _ => 0) (zRu2 spec d) 157 (some (0, v.1)) (v.2, hm, o) (5, [some (16, 0), some (11, 0), some (0, v2), some (0, v3), some (0, v4), none], [], (h, hm, o))) (v2 : Int) (v3 : Int) (v4 : Int) (h : zHC) (v : (Int × zHC)) (e : F157_3 k0 v2 v3 v4 h = some v) : zFin 0 (fun _ => 0) (zRu2 spec d) 157 (some (0, v.1)) (v.2, hm, o) (190, [some (16, 0), some (11, 0), some (0, v2), some (0, v3), some (0, v4), none], [], (h, hm, o)) := by
  unfold F157_3 at e
  refine zF_blk (m := []) (d := 0) (b := B157_12) (gs := []) (c' := (5, [some (16, 0), some (11, 0), some (0, v2), some (0, v3), some (0, (wadd v4 1)), none], [], (h, hm, o))) K157_12 rfl trivial ?_
  exact hk0 v2 v3 (wadd v4 1) h _ e
def F157_7 (k0 : Int → Int → Int → zHC → Option (Int × zHC)) (v2 : Int) (v3 : Int) (v4 : Int) (h : zHC) : Option (Int × zHC) := if 40 ≤ v3 then F157_3 k0 v2 v3 v4 h else (F158 v2 (wmul v4 3) h).bind fun r1 => zG (0 ≤ v3 ∧ v3 < 40) (zG (r1 = 0 ∨ r1 = 1) (F157_3 k0 v2 (wadd v3 1) v4 (hset h 387 0 v3 r1)))
set_option maxRecDepth 100000 in
theorem T157_7 {spec : zRn zH2} {hm : zHM} {o : Int → Int} {d : Nat} (hd : 2 ≤ d) (k0 : Int → Int → Int → zHC → Option (Int × zHC)) (hk0 : ∀ (v2 : Int) (v3 : Int) (v4 : Int) (h : zHC) (v : (Int × zHC)), k0 v2 v3 v4 h = some v → zFin 0 (fun _ => 0) (zRu2 spec d) 157 (some (0, v.1)) (v.2, hm, o) (5, [some (16, 0), some (11, 0), some (0, v2), some (0, v3), some (0, v4), none], [], (h, hm, o))) (v2 : Int) (v3 : Int) (v4 : Int) (h : zHC) (v : (Int × zHC)) (e : F157_7 k0 v2 v3 v4 h = some v) : zFin 0 (fun _ => 0) (zRu2 spec d) 157 (some (0, v.1)) (v.2, hm, o) (165, [some (16, 0), some (11, 0), some (0, v2), some (0, v3), some (0, v4), none], [], (h, hm, o)) := by
  unfold F157_7 at e
  rcases zI_s e with ⟨q1, e⟩ | ⟨q1, e⟩
  · refine zF_blk (m := []) (d := 1) (b := B157_29) (gs := [40 ≤ v3]) (c' := (190, [some (16, 0), some (11, 0), some (0, v2), some (0, v3), some (0, v4), none], [], (h, hm, o))) K157_29 rfl ⟨q1, trivial⟩ ?_
    exact T157_3 hd k0 hk0 v2 v3 v4 h _ e
  · refine zF_blk (m := []) (d := 0) (b := B157_29) (gs := [¬ (40 ≤ v3)]) (c' := (171, [some (16, 0), some (11, 0), some (0, v2), some (0, v3), some (0, v4), none], [], (h, hm, o))) K157_29 rfl ⟨q1, trivial⟩ ?_
    obtain ⟨r1, q2, e⟩ := zB_s e
    refine zF_blk (m := []) (d := 0) (b := B157_27) (gs := []) (c' := (183, [some (16, 0), some (11, 0), some (0, v2), some (0, v3), some (0, v4), none], [(0, (wmul v4 3)), (0, v2), (11, 0), (16, 0), (0, v3), (1476437355, 0)], (h, hm, o))) K157_27 rfl trivial ?_
    refine zF_call (k := 158) (cl := 6) (n := 4) (i := .invokevirtual 32) (args := [(16, 0), (11, 0), (0, v2), (0, (wmul v4 3))]) (rest := [(0, v3), (1476437355, 0)]) (g1 := (h, hm, o)) (r1 := some (0, r1)) (by decide +kernel) rfl rfl rfl (st' := [(0, r1), (0, v3), (1476437355, 0)]) rfl (S158 (Nat.le_trans (by decide) hd) v2 (wmul v4 3) h _ q2) ?_
    obtain ⟨q3, e⟩ := zG_s e
    obtain ⟨q4, e⟩ := zG_s e
    refine zF_blk (m := []) (d := 0) (b := B157_28) (gs := [0 ≤ v3 ∧ v3 < 40, r1 = 0 ∨ r1 = 1]) (c' := (190, [some (16, 0), some (11, 0), some (0, v2), some (0, (wadd v3 1)), some (0, v4), none], [], ((hset h 387 0 v3 r1), hm, o))) K157_28 rfl ⟨q3, q4, trivial⟩ ?_
    exact T157_3 hd k0 hk0 v2 (wadd v3 1) v4 (hset h 387 0 v3 r1) _ e
def F157_9 (k0 : Int → Int → Int → zHC → Option (Int × zHC)) (v2 : Int) (v3 : Int) (v4 : Int) (s0 : Int) (s1 : Int) (h : zHC) : Option (Int × zHC) := zG (0 ≤ s1 ∧ s1 < 40) (zG (s0 = 0 ∨ s0 = 1) (F157_3 k0 v2 v3 v4 (hset h 387 0 s1 s0)))
set_option maxRecDepth 100000 in
theorem T157_9 {spec : zRn zH2} {hm : zHM} {o : Int → Int} {d : Nat} (hd : 2 ≤ d) (k0 : Int → Int → Int → zHC → Option (Int × zHC)) (hk0 : ∀ (v2 : Int) (v3 : Int) (v4 : Int) (h : zHC) (v : (Int × zHC)), k0 v2 v3 v4 h = some v → zFin 0 (fun _ => 0) (zRu2 spec d) 157 (some (0, v.1)) (v.2, hm, o) (5, [some (16, 0), some (11, 0), some (0, v2), some (0, v3), some (0, v4), none], [], (h, hm, o))) (v2 : Int) (v3 : Int) (v4 : Int) (s0 : Int) (s1 : Int) (h : zHC) (v : (Int × zHC)) (e : F157_9 k0 v2 v3 v4 s0 s1 h = some v) : zFin 0 (fun _ => 0) (zRu2 spec d) 157 (some (0, v.1)) (v.2, hm, o) (161, [some (16, 0), some (11, 0), some (0, v2), some (0, v3), some (0, v4), none], [(0, s0), (0, s1), (1476437355, 0)], (h, hm, o)) := by
  unfold F157_9 at e
  obtain ⟨q1, e⟩ := zG_s e
  obtain ⟨q2, e⟩ := zG_s e
  refine zF_blk (m := []) (d := 0) (b := B157_25) (gs := [0 ≤ s1 ∧ s1 < 40, s0 = 0 ∨ s0 = 1]) (c' := (190, [some (16, 0), some (11, 0), some (0, v2), some (0, v3), some (0, v4), none], [], ((hset h 387 0 s1 s0), hm, o))) K157_25 rfl ⟨q1, q2, trivial⟩ ?_
  exact T157_3 hd k0 hk0 v2 v3 v4 (hset h 387 0 s1 s0) _ e
def F157_8 (k0 : Int → Int → Int → zHC → Option (Int × zHC)) (v2 : Int) (v3 : Int) (v4 : Int) (s0 : Int) (h : zHC) : Option (Int × zHC) := F157_9 k0 v2 v3 v4 1 s0 h
set_option maxRecDepth 100000 in
theorem T157_8 {spec : zRn zH2} {hm : zHM} {o : Int → Int} {d : Nat} (hd : 2 ≤ d) (k0 : Int → Int → Int → zHC → Option (Int × zHC)) (hk0 : ∀ (v2 : Int) (v3 : Int) (v4 : Int) (h : zHC) (v : (Int × zHC)), k0 v2 v3 v4 h = some v → zFin 0 (fun _ => 0) (zRu2 spec d) 157 (some (0, v.1)) (v.2, hm, o) (5, [some (16, 0), some (11, 0), some (0, v2), some (0, v3), some (0, v4), none], [], (h, hm, o))) (v2 : Int) (v3 : Int) (v4 : Int) (s0 : Int) (h : zHC) (v : (Int × zHC)) (e : F157_8 k0 v2 v3 v4 s0 h = some v) : zFin 0 (fun _ => 0) (zRu2 spec d) 157 (some (0, v.1)) (v.2, hm, o) (156, [some (16, 0), some (11, 0), some (0, v2), some (0, v3), some (0, v4), none], [(0, s0), (1476437355, 0)], (h, hm, o)) := by
  unfold F157_8 at e
  refine zF_blk (m := []) (d := 0) (b := B157_26) (gs := []) (c' := (161, [some (16, 0), some (11, 0), some (0, v2), some (0, v3), some (0, v4), none], [(0, 1), (0, s0), (1476437355, 0)], (h, hm, o))) K157_26 rfl trivial ?_
  exact T157_9 hd k0 hk0 v2 v3 v4 1 s0 h _ e
def F157_4 (k0 : Int → Int → Int → zHC → Option (Int × zHC)) (v2 : Int) (v3 : Int) (v4 : Int) (v5 : Int) (h : zHC) : Option (Int × zHC) := if ¬ v5 = 10 then F157_7 k0 v2 v3 v4 h else if v3 ≤ 1 then F157_7 k0 v2 v3 v4 h else zG (0 ≤ (wsub (wadd v3 (-1)) 1) ∧ (wsub (wadd v3 (-1)) 1) < 40) (if ¬ (h 387 0 (wsub (wadd v3 (-1)) 1)) = 0 then F157_8 k0 v2 (wadd v3 (-1)) v4 (wsub (wadd v3 (-1)) 1) h else zG (0 ≤ (wadd v3 (-1)) ∧ (wadd v3 (-1)) < 40) (if (h 387 0 (wadd v3 (-1))) = 0 then F157_9 k0 v2 (wadd v3 (-1)) v4 0 (wsub (wadd v3 (-1)) 1) h else F157_8 k0 v2 (wadd v3 (-1)) v4 (wsub (wadd v3 (-1)) 1) h))
set_option maxRecDepth 100000 in
theorem T157_4 {spec : zRn zH2} {hm : zHM} {o : Int → Int} {d : Nat} (hd : 2 ≤ d) (k0 : Int → Int → Int → zHC → Option (Int × zHC)) (hk0 : ∀ (v2 : Int) (v3 : Int) (v4 : Int) (h : zHC) (v : (Int × zHC)), k0 v2 v3 v4 h = some v → zFin 0 (fun _ => 0) (zRu2 spec d) 157 (some (0, v.1)) (v.2, hm, o) (5, [some (16, 0), some (11, 0), some (0, v2), some (0, v3), some (0, v4), none], [], (h, hm, o))) (v2 : Int) (v3 : Int) (v4 : Int) (v5 : Int) (h : zHC) (v : (Int × zHC)) (e : F157_4 k0 v2 v3 v4 v5 h = some v) : zFin 0 (fun _ => 0) (zRu2 spec d) 157 (some (0, v.1)) (v.2, hm, o) (114, [some (16, 0), some (11, 0), some (0, v2), some (0, v3), some (0, v4), some (0, v5)], [], (h, hm, o)) := by
  unfold F157_4 at e
  rcases zI_s e with ⟨q1, e⟩ | ⟨q1, e⟩
  · refine zF_blk (m := []) (d := 1) (b := B157_24) (gs := [¬ v5 = 10]) (c' := (165, [some (16, 0), some (11, 0), some (0, v2), some (0, v3), some (0, v4), some (0, v5)], [], (h, hm, o))) K157_24 rfl ⟨q1, trivial⟩ ?_
    refine zF_blk (m := [true, true, true, true, true, false]) (d := 0) (b := []) (gs := []) (c' := (165, [some (16, 0), some (11, 0), some (0, v2), some (0, v3), some (0, v4), none], [], (h, hm, o))) rfl rfl trivial ?_
    exact T157_7 hd k0 hk0 v2 v3 v4 h _ e
  · refine zF_blk (m := []) (d := 0) (b := B157_24) (gs := [¬ (¬ v5 = 10)]) (c' := (121, [some (16, 0), some (11, 0), some (0, v2), some (0, v3), some (0, v4), some (0, v5)], [], (h, hm, o))) K157_24 rfl ⟨q1, trivial⟩ ?_
    rcases zI_s e with ⟨q2, e⟩ | ⟨q2, e⟩
    · refine zF_blk (m := []) (d := 1) (b := B157_23) (gs := [v3 ≤ 1]) (c' := (165, [some (16, 0), some (11, 0), some (0, v2), some (0, v3), some (0, v4), some (0, v5)], [], (h, hm, o))) K157_23 rfl ⟨q2, trivial⟩ ?_
      refine zF_blk (m := [true, true, true, true, true, false]) (d := 0) (b := []) (gs := []) (c' := (165, [some (16, 0), some (11, 0), some (0, v2), some (0, v3), some (0, v4), none], [], (h, hm, o))) rfl rfl trivial ?_
      exact T157_7 hd k0 hk0 v2 v3 v4 h _ e
    · refine zF_blk (m := []) (d := 0) (b := B157_23) (gs := [¬ (v3 ≤ 1)]) (c' := (126, [some (16, 0), some (11, 0), some (0, v2), some (0, v3), some (0, v4), some (0, v5)], [], (h, hm, o))) K157_23 rfl ⟨q2, trivial⟩ ?_
      obtain ⟨q3, e⟩ := zG_s e
      rcases zI_s e with ⟨q4, e⟩ | ⟨q4, e⟩
      · refine zF_blk (m := []) (d := 1) (b := B157_22) (gs := [0 ≤ (wsub (wadd v3 (-1)) 1) ∧ (wsub (wadd v3 (-1)) 1) < 40, ¬ (h 387 0 (wsub (wadd v3 (-1)) 1)) = 0]) (c' := (156, [some (16, 0), some (11, 0), some (0, v2), some (0, (wadd v3 (-1))), some (0, v4), some (0, v5)], [(0, (wsub (wadd v3 (-1)) 1)), (1476437355, 0)], (h, hm, o))) K157_22 rfl ⟨q3, q4, trivial⟩ ?_
        refine zF_blk (m := [true, true, true, true, true, false]) (d := 0) (b := []) (gs := []) (c' := (156, [some (16, 0), some (11, 0), some (0, v2), some (0, (wadd v3 (-1))), some (0, v4), none], [(0, (wsub (wadd v3 (-1)) 1)), (1476437355, 0)], (h, hm, o))) rfl rfl trivial ?_
        exact T157_8 hd k0 hk0 v2 (wadd v3 (-1)) v4 (wsub (wadd v3 (-1)) 1) h _ e
      · refine zF_blk (m := []) (d := 0) (b := B157_22) (gs := [0 ≤ (wsub (wadd v3 (-1)) 1) ∧ (wsub (wadd v3 (-1)) 1) < 40, ¬ (¬ (h 387 0 (wsub (wadd v3 (-1)) 1)) = 0)]) (c' := (147, [some (16, 0), some (11, 0), some (0, v2), some (0, (wadd v3 (-1))), some (0, v4), some (0, v5)], [(0, (wsub (wadd v3 (-1)) 1)), (1476437355, 0)], (h, hm, o))) K157_22 rfl ⟨q3, q4, trivial⟩ ?_
        obtain ⟨q5, e⟩ := zG_s e
        rcases zI_s e with ⟨q6, e⟩ | ⟨q6, e⟩
        · refine zF_blk (m := []) (d := 1) (b := B157_21) (gs := [0 ≤ (wadd v3 (-1)) ∧ (wadd v3 (-1)) < 40, (h 387 0 (wadd v3 (-1))) = 0]) (c' := (160, [some (16, 0), some (11, 0), some (0, v2), some (0, (wadd v3 (-1))), some (0, v4), some (0, v5)], [(0, (wsub (wadd v3 (-1)) 1)), (1476437355, 0)], (h, hm, o))) K157_21 rfl ⟨q5, q6, trivial⟩ ?_
          refine zF_blk (m := []) (d := 0) (b := B157_20) (gs := []) (c' := (161, [some (16, 0), some (11, 0), some (0, v2), some (0, (wadd v3 (-1))), some (0, v4), some (0, v5)], [(0, 0), (0, (wsub (wadd v3 (-1)) 1)), (1476437355, 0)], (h, hm, o))) K157_20 rfl trivial ?_
          refine zF_blk (m := [true, true, true, true, true, false]) (d := 0) (b := []) (gs := []) (c' := (161, [some (16, 0), some (11, 0), some (0, v2), some (0, (wadd v3 (-1))), some (0, v4), none], [(0, 0), (0, (wsub (wadd v3 (-1)) 1)), (1476437355, 0)], (h, hm, o))) rfl rfl trivial ?_
          exact T157_9 hd k0 hk0 v2 (wadd v3 (-1)) v4 0 (wsub (wadd v3 (-1)) 1) h _ e
        · refine zF_blk (m := []) (d := 0) (b := B157_21) (gs := [0 ≤ (wadd v3 (-1)) ∧ (wadd v3 (-1)) < 40, ¬ ((h 387 0 (wadd v3 (-1))) = 0)]) (c' := (156, [some (16, 0), some (11, 0), some (0, v2), some (0, (wadd v3 (-1))), some (0, v4), some (0, v5)], [(0, (wsub (wadd v3 (-1)) 1)), (1476437355, 0)], (h, hm, o))) K157_21 rfl ⟨q5, q6, trivial⟩ ?_
          refine zF_blk (m := [true, true, true, true, true, false]) (d := 0) (b := []) (gs := []) (c' := (156, [some (16, 0), some (11, 0), some (0, v2), some (0, (wadd v3 (-1))), some (0, v4), none], [(0, (wsub (wadd v3 (-1)) 1)), (1476437355, 0)], (h, hm, o))) rfl rfl trivial ?_
          exact T157_8 hd k0 hk0 v2 (wadd v3 (-1)) v4 (wsub (wadd v3 (-1)) 1) h _ e
def F157_6 (k0 : Int → Int → Int → zHC → Option (Int × zHC)) (v2 : Int) (v3 : Int) (v4 : Int) (s0 : Int) (s1 : Int) (h : zHC) : Option (Int × zHC) := zG (0 ≤ s1 ∧ s1 < 40) (zG (s0 = 0 ∨ s0 = 1) (F157_3 k0 v2 v3 v4 (hset h 387 0 s1 s0)))
set_option maxRecDepth 100000 in
theorem T157_6 {spec : zRn zH2} {hm : zHM} {o : Int → Int} {d : Nat} (hd : 2 ≤ d) (k0 : Int → Int → Int → zHC → Option (Int × zHC)) (hk0 : ∀ (v2 : Int) (v3 : Int) (v4 : Int) (h : zHC) (v : (Int × zHC)), k0 v2 v3 v4 h = some v → zFin 0 (fun _ => 0) (zRu2 spec d) 157 (some (0, v.1)) (v.2, hm, o) (5, [some (16, 0), some (11, 0), some (0, v2), some (0, v3), some (0, v4), none], [], (h, hm, o))) (v2 : Int) (v3 : Int) (v4 : Int) (s0 : Int) (s1 : Int) (h : zHC) (v : (Int × zHC)) (e : F157_6 k0 v2 v3 v4 s0 s1 h = some v) : zFin 0 (fun _ => 0) (zRu2 spec d) 157 (some (0, v.1)) (v.2, hm, o) (110, [some (16, 0), some (11, 0), some (0, v2), some (0, v3), some (0, v4), none], [(0, s0), (0, s1), (1476437355, 0)], (h, hm, o)) := by
  unfold F157_6 at e
  obtain ⟨q1, e⟩ := zG_s e
  obtain ⟨q2, e⟩ := zG_s e
  refine zF_blk (m := []) (d := 0) (b := B157_18) (gs := [0 ≤ s1 ∧ s1 < 40, s0 = 0 ∨ s0 = 1]) (c' := (190, [some (16, 0), some (11, 0), some (0, v2), some (0, v3), some (0, v4), none], [], ((hset h 387 0 s1 s0), hm, o))) K157_18 rfl ⟨q1, q2, trivial⟩ ?_
  exact T157_3 hd k0 hk0 v2 v3 v4 (hset h 387 0 s1 s0) _ e
def F157_5 (k0 : Int → Int → Int → zHC → Option (Int × zHC)) (v2 : Int) (v3 : Int) (v4 : Int) (s0 : Int) (h : zHC) : Option (Int × zHC) := F157_6 k0 v2 v3 v4 0 s0 h
set_option maxRecDepth 100000 in
theorem T157_5 {spec : zRn zH2} {hm : zHM} {o : Int → Int} {d : Nat} (hd : 2 ≤ d) (k0 : Int → Int → Int → zHC → Option (Int × zHC)) (hk0 : ∀ (v2 : Int) (v3 : Int) (v4 : Int) (h : zHC) (v : (Int × zHC)), k0 v2 v3 v4 h = some v → zFin 0 (fun _ => 0) (zRu2 spec d) 157 (some (0, v.1)) (v.2, hm, o) (5, [some (16, 0), some (11, 0), some (0, v2), some (0, v3), some (0, v4), none], [], (h, hm, o))) (v2 : Int) (v3 : Int) (v4 : Int) (s0 : Int) (h : zHC) (v : (Int × zHC)) (e : F157_5 k0 v2 v3 v4 s0 h = some v) : zFin 0 (fun _ => 0) (zRu2 spec d) 157 (some (0, v.1)) (v.2, hm, o) (109, [some (16, 0), some (11, 0), some (0, v2), some (0, v3), some (0, v4), none], [(0, s0), (1476437355, 0)], (h, hm, o)) := by
  unfold F157_5 at e
  refine zF_blk (m := []) (d := 0) (b := B157_19) (gs := []) (c' := (110, [some (16, 0), some (11, 0), some (0, v2), some (0, v3), some (0, v4), none], [(0, 0), (0, s0), (1476437355, 0)], (h, hm, o))) K157_19 rfl trivial ?_
  exact T157_6 hd k0 hk0 v2 v3 v4 0 s0 h _ e
def F157_1 (k0 : Int → Int → Int → zHC → Option (Int × zHC)) (v2 : Int) (v3 : Int) (v4 : Int) (v5 : Int) (h : zHC) : Option (Int × zHC) := if ¬ v5 = 11 then F157_4 k0 v2 v3 v4 v5 h else if v3 ≤ 1 then F157_4 k0 v2 v3 v4 v5 h else zG (0 ≤ (wsub (wadd v3 (-1)) 1) ∧ (wsub (wadd v3 (-1)) 1) < 40) (if (h 387 0 (wsub (wadd v3 (-1)) 1)) = 0 then F157_5 k0 v2 (wadd v3 (-1)) v4 (wsub (wadd v3 (-1)) 1) h else zG (0 ≤ (wadd v3 (-1)) ∧ (wadd v3 (-1)) < 40) (if (h 387 0 (wadd v3 (-1))) = 0 then F157_5 k0 v2 (wadd v3 (-1)) v4 (wsub (wadd v3 (-1)) 1) h else F157_6 k0 v2 (wadd v3 (-1)) v4 1 (wsub (wadd v3 (-1)) 1) h))
set_option maxRecDepth 100000 in
theorem T157_1 {spec : zRn zH2} {hm : zHM} {o : Int → Int} {d : Nat} (hd : 2 ≤ d) (k0 : Int → Int → Int → zHC → Option (Int × zHC)) (hk0 : ∀ (v2 : Int) (v3 : Int) (v4 : Int) (h : zHC) (v : (Int × zHC)), k0 v2 v3 v4 h = some v → zFin 0 (fun _ => 0) (zRu2 spec d) 157 (some (0, v.1)) (v.2, hm, o) (5, [some (16, 0), some (11, 0), some (0, v2), some (0, v3), some (0, v4), none], [], (h, hm, o))) (v2 : Int) (v3 : Int) (v4 : Int) (v5 : Int) (h : zHC) (v : (Int × zHC)) (e : F157_1 k0 v2 v3 v4 v5 h = some v) : zFin 0 (fun _ => 0) (zRu2 spec d) 157 (some (0, v.1)) (v.2, hm, o) (63, [some (16, 0), some (11, 0), some (0, v2), some (0, v3), some (0, v4), some (0, v5)], [], (h, hm, o)) := by
  unfold F157_1 at e
  rcases zI_s e with ⟨q1, e⟩ | ⟨q1, e⟩
  · refine zF_blk (m := []) (d := 1) (b := B157_17) (gs := [¬ v5 = 11]) (c' := (114, [some (16, 0), some (11, 0), some (0, v2), some (0, v3), some (0, v4), some (0, v5)], [], (h, hm, o))) K157_17 rfl ⟨q1, trivial⟩ ?_
    exact T157_4 hd k0 hk0 v2 v3 v4 v5 h _ e
  · refine zF_blk (m := []) (d := 0) (b := B157_17) (gs := [¬ (¬ v5 = 11)]) (c' := (70, [some (16, 0), some (11, 0), some (0, v2), some (0, v3), some (0, v4), some (0, v5)], [], (h, hm, o))) K157_17 rfl ⟨q1, trivial⟩ ?_
    rcases zI_s e with ⟨q2, e⟩ | ⟨q2, e⟩
    · refine zF_blk (m := []) (d := 1) (b := B157_16) (gs := [v3 ≤ 1]) (c' := (114, [some (16, 0), some (11, 0), some (0, v2), some (0, v3), some (0, v4), some (0, v5)], [], (h, hm, o))) K157_16 rfl ⟨q2, trivial⟩ ?_
      exact T157_4 hd k0 hk0 v2 v3 v4 v5 h _ e
    · refine zF_blk (m := []) (d := 0) (b := B157_16) (gs := [¬ (v3 ≤ 1)]) (c' := (75, [some (16, 0), some (11, 0), some (0, v2), some (0, v3), some (0, v4), some (0, v5)], [], (h, hm, o))) K157_16 rfl ⟨q2, trivial⟩ ?_
      obtain ⟨q3, e⟩ := zG_s e
      rcases zI_s e with ⟨q4, e⟩ | ⟨q4, e⟩
      · refine zF_blk (m := []) (d := 1) (b := B157_15) (gs := [0 ≤ (wsub (wadd v3 (-1)) 1) ∧ (wsub (wadd v3 (-1)) 1) < 40, (h 387 0 (wsub (wadd v3 (-1)) 1)) = 0]) (c' := (109, [some (16, 0), some (11, 0), some (0, v2), some (0, (wadd v3 (-1))), some (0, v4), some (0, v5)], [(0, (wsub (wadd v3 (-1)) 1)), (1476437355, 0)], (h, hm, o))) K157_15 rfl ⟨q3, q4, trivial⟩ ?_
        refine zF_blk (m := [true, true, true, true, true, false]) (d := 0) (b := []) (gs := []) (c' := (109, [some (16, 0), some (11, 0), some (0, v2), some (0, (wadd v3 (-1))), some (0, v4), none], [(0, (wsub (wadd v3 (-1)) 1)), (1476437355, 0)], (h, hm, o))) rfl rfl trivial ?_
        exact T157_5 hd k0 hk0 v2 (wadd v3 (-1)) v4 (wsub (wadd v3 (-1)) 1) h _ e
      · refine zF_blk (m := []) (d := 0) (b := B157_15) (gs := [0 ≤ (wsub (wadd v3 (-1)) 1) ∧ (wsub (wadd v3 (-1)) 1) < 40, ¬ ((h 387 0 (wsub (wadd v3 (-1)) 1)) = 0)]) (c' := (96, [some (16, 0), some (11, 0), some (0, v2), some (0, (wadd v3 (-1))), some (0, v4), some (0, v5)], [(0, (wsub (wadd v3 (-1)) 1)), (1476437355, 0)], (h, hm, o))) K157_15 rfl ⟨q3, q4, trivial⟩ ?_
        obtain ⟨q5, e⟩ := zG_s e
        rcases zI_s e with ⟨q6, e⟩ | ⟨q6, e⟩
        · refine zF_blk (m := []) (d := 1) (b := B157_14) (gs := [0 ≤ (wadd v3 (-1)) ∧ (wadd v3 (-1)) < 40, (h 387 0 (wadd v3 (-1))) = 0]) (c' := (109, [some (16, 0), some (11, 0), some (0, v2), some (0, (wadd v3 (-1))), some (0, v4), some (0, v5)], [(0, (wsub (wadd v3 (-1)) 1)), (1476437355, 0)], (h, hm, o))) K157_14 rfl ⟨q5, q6, trivial⟩ ?_
          refine zF_blk (m := [true, true, true, true, true, false]) (d := 0) (b := []) (gs := []) (c' := (109, [some (16, 0), some (11, 0), some (0, v2), some (0, (wadd v3 (-1))), some (0, v4), none], [(0, (wsub (wadd v3 (-1)) 1)), (1476437355, 0)], (h, hm, o))) rfl rfl trivial ?_
          exact T157_5 hd k0 hk0 v2 (wadd v3 (-1)) v4 (wsub (wadd v3 (-1)) 1) h _ e
        · refine zF_blk (m := []) (d := 0) (b := B157_14) (gs := [0 ≤ (wadd v3 (-1)) ∧ (wadd v3 (-1)) < 40, ¬ ((h 387 0 (wadd v3 (-1))) = 0)]) (c' := (105, [some (16, 0), some (11, 0), some (0, v2), some (0, (wadd v3 (-1))), some (0, v4), some (0, v5)], [(0, (wsub (wadd v3 (-1)) 1)), (1476437355, 0)], (h, hm, o))) K157_14 rfl ⟨q5, q6, trivial⟩ ?_
          refine zF_blk (m := []) (d := 0) (b := B157_13) (gs := []) (c' := (110, [some (16, 0), some (11, 0), some (0, v2), some (0, (wadd v3 (-1))), some (0, v4), some (0, v5)], [(0, 1), (0, (wsub (wadd v3 (-1)) 1)), (1476437355, 0)], (h, hm, o))) K157_13 rfl trivial ?_
          refine zF_blk (m := [true, true, true, true, true, false]) (d := 0) (b := []) (gs := []) (c' := (110, [some (16, 0), some (11, 0), some (0, v2), some (0, (wadd v3 (-1))), some (0, v4), none], [(0, 1), (0, (wsub (wadd v3 (-1)) 1)), (1476437355, 0)], (h, hm, o))) rfl rfl trivial ?_
          exact T157_6 hd k0 hk0 v2 (wadd v3 (-1)) v4 1 (wsub (wadd v3 (-1)) 1) h _ e
def F157_2 (k0 : Int → Int → Int → zHC → Option (Int × zHC)) (v2 : Int) (v3 : Int) (v4 : Int) (s0 : Int) (s1 : Int) (h : zHC) : Option (Int × zHC) := zG (0 ≤ s1 ∧ s1 < 40) (zG (s0 = 0 ∨ s0 = 1) (F157_3 k0 v2 v3 v4 (hset h 387 0 s1 s0)))
set_option maxRecDepth 100000 in
theorem T157_2 {spec : zRn zH2} {hm : zHM} {o : Int → Int} {d : Nat} (hd : 2 ≤ d) (k0 : Int → Int → Int → zHC → Option (Int × zHC)) (hk0 : ∀ (v2 : Int) (v3 : Int) (v4 : Int) (h : zHC) (v : (Int × zHC)), k0 v2 v3 v4 h = some v → zFin 0 (fun _ => 0) (zRu2 spec d) 157 (some (0, v.1)) (v.2, hm, o) (5, [some (16, 0), some (11, 0), some (0, v2), some (0, v3), some (0, v4), none], [], (h, hm, o))) (v2 : Int) (v3 : Int) (v4 : Int) (s0 : Int) (s1 : Int) (h : zHC) (v : (Int × zHC)) (e : F157_2 k0 v2 v3 v4 s0 s1 h = some v) : zFin 0 (fun _ => 0) (zRu2 spec d) 157 (some (0, v.1)) (v.2, hm, o) (59, [some (16, 0), some (11, 0), some (0, v2), some (0, v3), some (0, v4), none], [(0, s0), (0, s1), (1476437355, 0)], (h, hm, o)) := by
  unfold F157_2 at e
  obtain ⟨q1, e⟩ := zG_s e
  obtain ⟨q2, e⟩ := zG_s e
  refine zF_blk (m := []) (d := 0) (b := B157_11) (gs := [0 ≤ s1 ∧ s1 < 40, s0 = 0 ∨ s0 = 1]) (c' := (190, [some (16, 0), some (11, 0), some (0, v2), some (0, v3), some (0, v4), none], [], ((hset h 387 0 s1 s0), hm, o))) K157_11 rfl ⟨q1, q2, trivial⟩ ?_
  exact T157_3 hd k0 hk0 v2 v3 v4 (hset h 387 0 s1 s0) _ e
def F157_0 : Nat → Int → Int → Int → zHC → Option (Int × zHC)
  | 0, _, _, _, _ => none
  | n + 1, v2, v3, v4, h => if (h 385 0 0) ≤ v4 then if v3 ≤ 0 then some (0, h) else zG (0 ≤ (wsub v3 1) ∧ (wsub v3 1) < 40) (if (h 387 0 (wsub v3 1)) = 0 then some (0, h) else some (1, h)) else zG (0 ≤ (wmul v4 3) ∧ (wmul v4 3) < 120) (if ¬ (h 386 0 (wmul v4 3)) = 12 then F157_1 (F157_0 n) v2 v3 v4 (h 386 0 (wmul v4 3)) h else if v3 ≤ 0 then F157_1 (F157_0 n) v2 v3 v4 (h 386 0 (wmul v4 3)) h else zG (0 ≤ (wsub v3 1) ∧ (wsub v3 1) < 40) (if ¬ (h 387 0 (wsub v3 1)) = 0 then F157_2 (F157_0 n) v2 v3 v4 0 (wsub v3 1) h else F157_2 (F157_0 n) v2 v3 v4 1 (wsub v3 1) h))
set_option maxRecDepth 100000 in
theorem T157_0 {spec : zRn zH2} {hm : zHM} {o : Int → Int} {d : Nat} (hd : 2 ≤ d) : ∀ (n : Nat) (v2 : Int) (v3 : Int) (v4 : Int) (h : zHC) (v : (Int × zHC)), F157_0 n v2 v3 v4 h = some v → zFin 0 (fun _ => 0) (zRu2 spec d) 157 (some (0, v.1)) (v.2, hm, o) (5, [some (16, 0), some (11, 0), some (0, v2), some (0, v3), some (0, v4), none], [], (h, hm, o)) := by
  intro n
  induction n with
  | zero => intro v2 v3 v4 h v e; unfold F157_0 at e; cases e
  | succ n hk0 =>
    intro v2 v3 v4 h v e
    unfold F157_0 at e
    rcases zI_s e with ⟨q1, e⟩ | ⟨q1, e⟩
    · refine zF_blk (m := []) (d := 1) (b := B157_10) (gs := [(h 385 0 0) ≤ v4]) (c' := (196, [some (16, 0), some (11, 0), some (0, v2), some (0, v3), some (0, v4), none], [], (h, hm, o))) K157_10 rfl ⟨q1, trivial⟩ ?_
      rcases zI_s e with ⟨q2, e⟩ | ⟨q2, e⟩
      · refine zF_blk (m := []) (d := 1) (b := B157_4) (gs := [v3 ≤ 0]) (c' := (215, [some (16, 0), some (11, 0), some (0, v2), some (0, v3), some (0, v4), none], [], (h, hm, o))) K157_4 rfl ⟨q2, trivial⟩ ?_
        refine zF_blk (m := []) (d := 0) (b := B157_1) (gs := []) (c' := (216, [some (16, 0), some (11, 0), some (0, v2), some (0, v3), some (0, v4), none], [(0, 0)], (h, hm, o))) K157_1 rfl trivial ?_
        exact zF_rbC (by decide +kernel) (Or.inl rfl) e
      · refine zF_blk (m := []) (d := 0) (b := B157_4) (gs := [¬ (v3 ≤ 0)]) (c' := (200, [some (16, 0), some (11, 0), some (0, v2), some (0, v3), some (0, v4), none], [], (h, hm, o))) K157_4 rfl ⟨q2, trivial⟩ ?_
        obtain ⟨q3, e⟩ := zG_s e
        rcases zI_s e with ⟨q4, e⟩ | ⟨q4, e⟩
        · refine zF_blk (m := []) (d := 1) (b := B157_3) (gs := [0 ≤ (wsub v3 1) ∧ (wsub v3 1) < 40, (h 387 0 (wsub v3 1)) = 0]) (c' := (215, [some (16, 0), some (11, 0), some (0, v2), some (0, v3), some (0, v4), none], [], (h, hm, o))) K157_3 rfl ⟨q3, q4, trivial⟩ ?_
          refine zF_blk (m := []) (d := 0) (b := B157_1) (gs := []) (c' := (216, [some (16, 0), some (11, 0), some (0, v2), some (0, v3), some (0, v4), none], [(0, 0)], (h, hm, o))) K157_1 rfl trivial ?_
          exact zF_rbC (by decide +kernel) (Or.inl rfl) e
        · refine zF_blk (m := []) (d := 0) (b := B157_3) (gs := [0 ≤ (wsub v3 1) ∧ (wsub v3 1) < 40, ¬ ((h 387 0 (wsub v3 1)) = 0)]) (c' := (211, [some (16, 0), some (11, 0), some (0, v2), some (0, v3), some (0, v4), none], [], (h, hm, o))) K157_3 rfl ⟨q3, q4, trivial⟩ ?_
          refine zF_blk (m := []) (d := 0) (b := B157_2) (gs := []) (c' := (216, [some (16, 0), some (11, 0), some (0, v2), some (0, v3), some (0, v4), none], [(0, 1)], (h, hm, o))) K157_2 rfl trivial ?_
          exact zF_rbC (by decide +kernel) (Or.inr rfl) e
    · refine zF_blk (m := []) (d := 0) (b := B157_10) (gs := [¬ ((h 385 0 0) ≤ v4)]) (c' := (14, [some (16, 0), some (11, 0), some (0, v2), some (0, v3), some (0, v4), none], [], (h, hm, o))) K157_10 rfl ⟨q1, trivial⟩ ?_
      obtain ⟨q5, e⟩ := zG_s e
      rcases zI_s e with ⟨q6, e⟩ | ⟨q6, e⟩
      · refine zF_blk (m := []) (d := 1) (b := B157_9) (gs := [0 ≤ (wmul v4 3) ∧ (wmul v4 3) < 120, ¬ (h 386 0 (wmul v4 3)) = 12]) (c' := (63, [some (16, 0), some (11, 0), some (0, v2), some (0, v3), some (0, v4), some (0, (h 386 0 (wmul v4 3)))], [], (h, hm, o))) K157_9 rfl ⟨q5, q6, trivial⟩ ?_
        exact T157_1 hd (F157_0 n) hk0 v2 v3 v4 (h 386 0 (wmul v4 3)) h _ e
      · refine zF_blk (m := []) (d := 0) (b := B157_9) (gs := [0 ≤ (wmul v4 3) ∧ (wmul v4 3) < 120, ¬ (¬ (h 386 0 (wmul v4 3)) = 12)]) (c' := (32, [some (16, 0), some (11, 0), some (0, v2), some (0, v3), some (0, v4), some (0, (h 386 0 (wmul v4 3)))], [], (h, hm, o))) K157_9 rfl ⟨q5, q6, trivial⟩ ?_
        rcases zI_s e with ⟨q7, e⟩ | ⟨q7, e⟩
        · refine zF_blk (m := []) (d := 1) (b := B157_8) (gs := [v3 ≤ 0]) (c' := (63, [some (16, 0), some (11, 0), some (0, v2), some (0, v3), some (0, v4), some (0, (h 386 0 (wmul v4 3)))], [], (h, hm, o))) K157_8 rfl ⟨q7, trivial⟩ ?_
          exact T157_1 hd (F157_0 n) hk0 v2 v3 v4 (h 386 0 (wmul v4 3)) h _ e
        · refine zF_blk (m := []) (d := 0) (b := B157_8) (gs := [¬ (v3 ≤ 0)]) (c' := (36, [some (16, 0), some (11, 0), some (0, v2), some (0, v3), some (0, v4), some (0, (h 386 0 (wmul v4 3)))], [], (h, hm, o))) K157_8 rfl ⟨q7, trivial⟩ ?_
          obtain ⟨q8, e⟩ := zG_s e
          rcases zI_s e with ⟨q9, e⟩ | ⟨q9, e⟩
          · refine zF_blk (m := []) (d := 1) (b := B157_7) (gs := [0 ≤ (wsub v3 1) ∧ (wsub v3 1) < 40, ¬ (h 387 0 (wsub v3 1)) = 0]) (c' := (58, [some (16, 0), some (11, 0), some (0, v2), some (0, v3), some (0, v4), some (0, (h 386 0 (wmul v4 3)))], [(0, (wsub v3 1)), (1476437355, 0)], (h, hm, o))) K157_7 rfl ⟨q8, q9, trivial⟩ ?_
            refine zF_blk (m := []) (d := 0) (b := B157_5) (gs := []) (c' := (59, [some (16, 0), some (11, 0), some (0, v2), some (0, v3), some (0, v4), some (0, (h 386 0 (wmul v4 3)))], [(0, 0), (0, (wsub v3 1)), (1476437355, 0)], (h, hm, o))) K157_5 rfl trivial ?_
            refine zF_blk (m := [true, true, true, true, true, false]) (d := 0) (b := []) (gs := []) (c' := (59, [some (16, 0), some (11, 0), some (0, v2), some (0, v3), some (0, v4), none], [(0, 0), (0, (wsub v3 1)), (1476437355, 0)], (h, hm, o))) rfl rfl trivial ?_
            exact T157_2 hd (F157_0 n) hk0 v2 v3 v4 0 (wsub v3 1) h _ e
          · refine zF_blk (m := []) (d := 0) (b := B157_7) (gs := [0 ≤ (wsub v3 1) ∧ (wsub v3 1) < 40, ¬ (¬ (h 387 0 (wsub v3 1)) = 0)]) (c' := (54, [some (16, 0), some (11, 0), some (0, v2), some (0, v3), some (0, v4), some (0, (h 386 0 (wmul v4 3)))], [(0, (wsub v3 1)), (1476437355, 0)], (h, hm, o))) K157_7 rfl ⟨q8, q9, trivial⟩ ?_
            refine zF_blk (m := []) (d := 0) (b := B157_6) (gs := []) (c' := (59, [some (16, 0), some (11, 0), some (0, v2), some (0, v3), some (0, v4), some (0, (h 386 0 (wmul v4 3)))], [(0, 1), (0, (wsub v3 1)), (1476437355, 0)], (h, hm, o))) K157_6 rfl trivial ?_
            refine zF_blk (m := [true, true, true, true, true, false]) (d := 0) (b := []) (gs := []) (c' := (59, [some (16, 0), some (11, 0), some (0, v2), some (0, v3), some (0, v4), none], [(0, 1), (0, (wsub v3 1)), (1476437355, 0)], (h, hm, o))) rfl rfl trivial ?_
            exact T157_2 hd (F157_0 n) hk0 v2 v3 v4 1 (wsub v3 1) h _ e
/-- EchoVale$Sentence.holds(LEchoVale$Course;I)Z -/
def F157 (v2 : Int) (h : zHC) : Option (Int × zHC) := F157_0 zFu v2 0 0 h
set_option maxRecDepth 100000 in
theorem S157 {spec : zRn zH2} {hm : zHM} {o : Int → Int} {d : Nat} (hd : 3 ≤ d) (v2 : Int) (h : zHC) (v : (Int × zHC)) (e : F157 v2 h = some v) : zRu2 spec d 157 [(16, 0), (11, 0), (0, v2)] (h, hm, o) (some (0, v.1)) (v.2, hm, o) := by
  refine zF_in (D := 2) (mx := 6) (L := [some (16, 0), some (11, 0), some (0, v2), none, none, none]) (by decide +kernel) rfl rfl hd (fun d hd => ?_)
  unfold F157 at e
  refine zF_blk (m := []) (d := 0) (b := B157_0) (gs := []) (c' := (5, [some (16, 0), some (11, 0), some (0, v2), some (0, 0), some (0, 0), none], [], (h, hm, o))) K157_0 rfl trivial ?_
  exact T157_0 hd zFu v2 0 0 h _ e
