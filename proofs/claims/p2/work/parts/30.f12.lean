/-! Functions of the methods, by wip/gen/lift.py. -/
def B198_0 : List zRow := [(0, .aload_n 0, 1, (0, 0, 0))]
theorem K198_0 : zRk 198 B198_0 = true := by decide +kernel
def B198_1 : List zRow := [(4, .aload_n 0, 1, (0, 0, 0))]
theorem K198_1 : zRk 198 B198_1 = true := by decide +kernel
def B198_2 : List zRow := [(13, .aload_n 0, 1, (0, 0, 0)), (14, .getfield 155, 3, (12, 13, 0)), (17, .istore_n 1, 1, (0, 0, 0)), (18, .aload_n 0, 1, (0, 0, 0)), (19, .getfield 16, 3, (12, 15, 5243718)), (22, .bipush 25, 2, (0, 0, 0)), (24, .iconst 2, 1, (0, 0, 0)), (25, .iload_n 1, 1, (0, 0, 0))]
theorem K198_2 : zRk 198 B198_2 = true := by decide +kernel
def B198_3 : List zRow := [(26, .imul, 1, (0, 0, 0))]
theorem K198_3 : zRk 198 B198_3 = true := by decide +kernel
def B198_4 : List zRow := [(41, .aload_n 0, 1, (0, 0, 0))]
theorem K198_4 : zRk 198 B198_4 = true := by decide +kernel
def B198_5 : List zRow := [(45, .aload_n 0, 1, (0, 0, 0))]
theorem K198_5 : zRk 198 B198_5 = true := by decide +kernel
def B198_6 : List zRow := [(54, .aload_n 0, 1, (0, 0, 0)), (55, .getfield 16, 3, (12, 15, 5243718)), (58, .bipush 25, 2, (0, 0, 0)), (60, .iconst 2, 1, (0, 0, 0)), (61, .iload_n 1, 1, (0, 0, 0))]
theorem K198_6 : zRk 198 B198_6 = true := by decide +kernel
def B198_7 : List zRow := [(62, .imul, 1, (0, 0, 0))]
theorem K198_7 : zRk 198 B198_7 = true := by decide +kernel
def B198_8 : List zRow := [(63, .iadd, 1, (0, 0, 0)), (64, .iconst 1, 1, (0, 0, 0)), (65, .iadd, 1, (0, 0, 0)), (66, .aload_n 0, 1, (0, 0, 0)), (67, .getfield 155, 3, (12, 13, 0)), (70, .iastore, 1, (0, 0, 0)), (71, .iconst 1, 1, (0, 0, 0))]
theorem K198_8 : zRk 198 B198_8 = true := by decide +kernel
def B198_9 : List zRow := [(52, .iconst 0, 1, (0, 0, 0))]
theorem K198_9 : zRk 198 B198_9 = true := by decide +kernel
def B198_10 : List zRow := [(49, .ifCond .ne 5, 3, (0, 0, 0))]
theorem K198_10 : zRk 198 B198_10 = true := by decide +kernel
def B198_11 : List zRow := [(35, .aload_n 0, 1, (0, 0, 0)), (36, .iconst 3, 1, (0, 0, 0))]
theorem K198_11 : zRk 198 B198_11 = true := by decide +kernel
def B198_12 : List zRow := [(27, .iadd, 1, (0, 0, 0)), (28, .iconst 1, 1, (0, 0, 0)), (29, .iadd, 1, (0, 0, 0)), (30, .iaload, 1, (0, 0, 0)), (31, .iconst (-1), 1, (0, 0, 0)), (32, .if_icmp .eq 9, 3, (0, 0, 0))]
theorem K198_12 : zRk 198 B198_12 = true := by decide +kernel
def B198_13 : List zRow := [(11, .iconst 0, 1, (0, 0, 0))]
theorem K198_13 : zRk 198 B198_13 = true := by decide +kernel
def B198_14 : List zRow := [(8, .ifCond .ne 5, 3, (0, 0, 0))]
theorem K198_14 : zRk 198 B198_14 = true := by decide +kernel
/-- EchoValeModel.readCamp()Z -/
def F198 (h : zHM) : Option (Int × zHM) := (F176 h).bind fun r1 => (F197 r1).bind fun r2 => if ¬ r2.1 = 0 then zG (0 ≤ (wadd (wadd 25 (wmul 2 (r2.2 13 0))) 1) ∧ (wadd (wadd 25 (wmul 2 (r2.2 13 0))) 1) < 209) (if (r2.2 15 (wadd (wadd 25 (wmul 2 (r2.2 13 0))) 1)) = (-1) then (F176 r2.2).bind fun r3 => (F195 r3).bind fun r4 => if ¬ r4.1 = 0 then zG (0 ≤ (wadd (wadd 25 (wmul 2 (r2.2 13 0))) 1) ∧ (wadd (wadd 25 (wmul 2 (r2.2 13 0))) 1) < 209) (some (1, (mset r4.2 15 (wadd (wadd 25 (wmul 2 (r2.2 13 0))) 1) (r4.2 13 0)))) else some (0, r4.2) else (F185 3 r2.2).bind fun r5 => zG (r5.1 = 0 ∨ r5.1 = 1) (some (r5.1, r5.2))) else some (0, r2.2)
set_option maxRecDepth 100000 in
theorem S198 {spec : zRn zH2} {hc : zHC} {o : Int → Int} {d : Nat} (hd : 6 ≤ d) (h : zHM) (v : (Int × zHM)) (e : F198 h = some v) : zRu2 spec d 198 [(22, 0)] (hc, h, o) (some (0, v.1)) (hc, v.2, o) := by
  refine zF_in (D := 5) (mx := 2) (L := [some (22, 0), none]) (by decide +kernel) rfl rfl hd (fun d hd => ?_)
  unfold F198 at e
  obtain ⟨r1, q1, e⟩ := zB_s e
  refine zF_blk (m := []) (d := 0) (b := B198_0) (gs := []) (c' := (1, [some (22, 0), none], [(22, 0)], (hc, h, o))) K198_0 rfl trivial ?_
  refine zF_call (k := 176) (cl := 12) (n := 1) (i := .invokevirtual 162) (args := [(22, 0)]) (rest := []) (g1 := (hc, r1, o)) (r1 := none) (by decide +kernel) rfl rfl rfl (st' := []) rfl (S176 (Nat.le_trans (by decide) hd)  h _ q1) ?_
  obtain ⟨r2, q2, e⟩ := zB_s e
  refine zF_blk (m := []) (d := 0) (b := B198_1) (gs := []) (c' := (5, [some (22, 0), none], [(22, 0)], (hc, r1, o))) K198_1 rfl trivial ?_
  refine zF_call (k := 197) (cl := 12) (n := 1) (i := .invokevirtual 196) (args := [(22, 0)]) (rest := []) (g1 := (hc, r2.2, o)) (r1 := some (0, r2.1)) (by decide +kernel) rfl rfl rfl (st' := [(0, r2.1)]) rfl (S197 (Nat.le_trans (by decide) hd)  r1 _ q2) ?_
  rcases zI_s e with ⟨q3, e⟩ | ⟨q3, e⟩
  · refine zF_blk (m := []) (d := 1) (b := B198_14) (gs := [¬ r2.1 = 0]) (c' := (13, [some (22, 0), none], [], (hc, r2.2, o))) K198_14 rfl ⟨q3, trivial⟩ ?_
    obtain ⟨q4, e⟩ := zG_s e
    refine zF_blk (m := []) (d := 0) (b := B198_2) (gs := []) (c' := (26, [some (22, 0), some (0, (r2.2 13 0))], [(0, (r2.2 13 0)), (0, 2), (0, 25), (1342393079, 0)], (hc, r2.2, o))) K198_2 rfl trivial ?_
    refine zF_blk (m := []) (d := 0) (b := B198_3) (gs := []) (c' := (27, [some (22, 0), some (0, (r2.2 13 0))], [(0, (wmul 2 (r2.2 13 0))), (0, 25), (1342393079, 0)], (hc, r2.2, o))) K198_3 rfl trivial ?_
    rcases zI_s e with ⟨q5, e⟩ | ⟨q5, e⟩
    · refine zF_blk (m := []) (d := 1) (b := B198_12) (gs := [0 ≤ (wadd (wadd 25 (wmul 2 (r2.2 13 0))) 1) ∧ (wadd (wadd 25 (wmul 2 (r2.2 13 0))) 1) < 209, (r2.2 15 (wadd (wadd 25 (wmul 2 (r2.2 13 0))) 1)) = (-1)]) (c' := (41, [some (22, 0), some (0, (r2.2 13 0))], [], (hc, r2.2, o))) K198_12 rfl ⟨q4, q5, trivial⟩ ?_
      obtain ⟨r3, q6, e⟩ := zB_s e
      refine zF_blk (m := []) (d := 0) (b := B198_4) (gs := []) (c' := (42, [some (22, 0), some (0, (r2.2 13 0))], [(22, 0)], (hc, r2.2, o))) K198_4 rfl trivial ?_
      refine zF_call (k := 176) (cl := 12) (n := 1) (i := .invokevirtual 162) (args := [(22, 0)]) (rest := []) (g1 := (hc, r3, o)) (r1 := none) (by decide +kernel) rfl rfl rfl (st' := []) rfl (S176 (Nat.le_trans (by decide) hd)  r2.2 _ q6) ?_
      obtain ⟨r4, q7, e⟩ := zB_s e
      refine zF_blk (m := []) (d := 0) (b := B198_5) (gs := []) (c' := (46, [some (22, 0), some (0, (r2.2 13 0))], [(22, 0)], (hc, r3, o))) K198_5 rfl trivial ?_
      refine zF_call (k := 195) (cl := 12) (n := 1) (i := .invokevirtual 193) (args := [(22, 0)]) (rest := []) (g1 := (hc, r4.2, o)) (r1 := some (0, r4.1)) (by decide +kernel) rfl rfl rfl (st' := [(0, r4.1)]) rfl (S195 (Nat.le_trans (by decide) hd)  r3 _ q7) ?_
      rcases zI_s e with ⟨q8, e⟩ | ⟨q8, e⟩
      · refine zF_blk (m := []) (d := 1) (b := B198_10) (gs := [¬ r4.1 = 0]) (c' := (54, [some (22, 0), some (0, (r2.2 13 0))], [], (hc, r4.2, o))) K198_10 rfl ⟨q8, trivial⟩ ?_
        obtain ⟨q9, e⟩ := zG_s e
        refine zF_blk (m := []) (d := 0) (b := B198_6) (gs := []) (c' := (62, [some (22, 0), some (0, (r2.2 13 0))], [(0, (r2.2 13 0)), (0, 2), (0, 25), (1342393079, 0)], (hc, r4.2, o))) K198_6 rfl trivial ?_
        refine zF_blk (m := []) (d := 0) (b := B198_7) (gs := []) (c' := (63, [some (22, 0), some (0, (r2.2 13 0))], [(0, (wmul 2 (r2.2 13 0))), (0, 25), (1342393079, 0)], (hc, r4.2, o))) K198_7 rfl trivial ?_
        refine zF_blk (m := []) (d := 0) (b := B198_8) (gs := [0 ≤ (wadd (wadd 25 (wmul 2 (r2.2 13 0))) 1) ∧ (wadd (wadd 25 (wmul 2 (r2.2 13 0))) 1) < 209]) (c' := (72, [some (22, 0), some (0, (r2.2 13 0))], [(0, 1)], (hc, (mset r4.2 15 (wadd (wadd 25 (wmul 2 (r2.2 13 0))) 1) (r4.2 13 0)), o))) K198_8 rfl ⟨q9, trivial⟩ ?_
        exact zF_rbM (by decide +kernel) (Or.inr rfl) e
      · refine zF_blk (m := []) (d := 0) (b := B198_10) (gs := [¬ (¬ r4.1 = 0)]) (c' := (52, [some (22, 0), some (0, (r2.2 13 0))], [], (hc, r4.2, o))) K198_10 rfl ⟨q8, trivial⟩ ?_
        refine zF_blk (m := []) (d := 0) (b := B198_9) (gs := []) (c' := (53, [some (22, 0), some (0, (r2.2 13 0))], [(0, 0)], (hc, r4.2, o))) K198_9 rfl trivial ?_
        exact zF_rbM (by decide +kernel) (Or.inl rfl) e
    · refine zF_blk (m := []) (d := 0) (b := B198_12) (gs := [0 ≤ (wadd (wadd 25 (wmul 2 (r2.2 13 0))) 1) ∧ (wadd (wadd 25 (wmul 2 (r2.2 13 0))) 1) < 209, ¬ ((r2.2 15 (wadd (wadd 25 (wmul 2 (r2.2 13 0))) 1)) = (-1))]) (c' := (35, [some (22, 0), some (0, (r2.2 13 0))], [], (hc, r2.2, o))) K198_12 rfl ⟨q4, q5, trivial⟩ ?_
      obtain ⟨r5, q10, e⟩ := zB_s e
      refine zF_blk (m := []) (d := 0) (b := B198_11) (gs := []) (c' := (37, [some (22, 0), some (0, (r2.2 13 0))], [(0, 3), (22, 0)], (hc, r2.2, o))) K198_11 rfl trivial ?_
      refine zF_call (k := 185) (cl := 12) (n := 2) (i := .invokevirtual 148) (args := [(22, 0), (0, 3)]) (rest := []) (g1 := (hc, r5.2, o)) (r1 := some (0, r5.1)) (by decide +kernel) rfl rfl rfl (st' := [(0, r5.1)]) rfl (S185 (Nat.le_trans (by decide) hd) 3 r2.2 _ q10) ?_
      obtain ⟨q11, e⟩ := zG_s e
      exact zF_rbM (by decide +kernel) q11 e
  · refine zF_blk (m := []) (d := 0) (b := B198_14) (gs := [¬ (¬ r2.1 = 0)]) (c' := (11, [some (22, 0), none], [], (hc, r2.2, o))) K198_14 rfl ⟨q3, trivial⟩ ?_
    refine zF_blk (m := []) (d := 0) (b := B198_13) (gs := []) (c' := (12, [some (22, 0), none], [(0, 0)], (hc, r2.2, o))) K198_13 rfl trivial ?_
    exact zF_rbM (by decide +kernel) (Or.inl rfl) e
def B196_0 : List zRow := [(19, .aload_n 0, 1, (0, 0, 0))]
theorem K196_0 : zRk 196 B196_0 = true := by decide +kernel
def B196_1 : List zRow := [(23, .aload_n 0, 1, (0, 0, 0))]
theorem K196_1 : zRk 196 B196_1 = true := by decide +kernel
def B196_2 : List zRow := [(32, .aload_n 0, 1, (0, 0, 0)), (33, .getfield 16, 3, (12, 15, 5243718)), (36, .bipush 37, 2, (0, 0, 0)), (38, .iconst 3, 1, (0, 0, 0)), (39, .iload_n 1, 1, (0, 0, 0))]
theorem K196_2 : zRk 196 B196_2 = true := by decide +kernel
def B196_3 : List zRow := [(40, .imul, 1, (0, 0, 0))]
theorem K196_3 : zRk 196 B196_3 = true := by decide +kernel
def B196_4 : List zRow := [(41, .iadd, 1, (0, 0, 0)), (42, .aload_n 0, 1, (0, 0, 0)), (43, .getfield 155, 3, (12, 13, 0)), (46, .iastore, 1, (0, 0, 0)), (47, .aload_n 0, 1, (0, 0, 0))]
theorem K196_4 : zRk 196 B196_4 = true := by decide +kernel
def B196_5 : List zRow := [(51, .aload_n 0, 1, (0, 0, 0)), (52, .iconst 1, 1, (0, 0, 0)), (53, .sipush 200, 3, (0, 0, 0))]
theorem K196_5 : zRk 196 B196_5 = true := by decide +kernel
def B196_6 : List zRow := [(64, .iconst 0, 1, (0, 0, 0)), (65, .istore_n 2, 1, (0, 0, 0))]
theorem K196_6 : zRk 196 B196_6 = true := by decide +kernel
def B196_7 : List zRow := [(62, .iconst 0, 1, (0, 0, 0))]
theorem K196_7 : zRk 196 B196_7 = true := by decide +kernel
def B196_8 : List zRow := [(59, .ifCond .ne 5, 3, (0, 0, 0))]
theorem K196_8 : zRk 196 B196_8 = true := by decide +kernel
def B196_9 : List zRow := [(30, .iconst 0, 1, (0, 0, 0))]
theorem K196_9 : zRk 196 B196_9 = true := by decide +kernel
def B196_10 : List zRow := [(27, .ifCond .ne 5, 3, (0, 0, 0))]
theorem K196_10 : zRk 196 B196_10 = true := by decide +kernel
def B196_11 : List zRow := [(13, .aload_n 0, 1, (0, 0, 0)), (14, .iconst 4, 1, (0, 0, 0))]
theorem K196_11 : zRk 196 B196_11 = true := by decide +kernel
def B196_12 : List zRow := [(0, .aload_n 0, 1, (0, 0, 0)), (1, .getfield 16, 3, (12, 15, 5243718)), (4, .iconst 4, 1, (0, 0, 0)), (5, .iaload, 1, (0, 0, 0)), (6, .istore_n 1, 1, (0, 0, 0)), (7, .iload_n 1, 1, (0, 0, 0)), (8, .bipush 20, 2, (0, 0, 0)), (10, .if_icmp .ne 9, 3, (0, 0, 0))]
theorem K196_12 : zRk 196 B196_12 = true := by decide +kernel
def B196_13 : List zRow := [(128, .aload_n 0, 1, (0, 0, 0)), (129, .getfield 16, 3, (12, 15, 5243718)), (132, .bipush 37, 2, (0, 0, 0)), (134, .iconst 3, 1, (0, 0, 0)), (135, .iload_n 1, 1, (0, 0, 0))]
theorem K196_13 : zRk 196 B196_13 = true := by decide +kernel
def B196_14 : List zRow := [(136, .imul, 1, (0, 0, 0))]
theorem K196_14 : zRk 196 B196_14 = true := by decide +kernel
def B196_15 : List zRow := [(137, .iadd, 1, (0, 0, 0)), (138, .iconst 1, 1, (0, 0, 0)), (139, .iadd, 1, (0, 0, 0)), (140, .aload_n 0, 1, (0, 0, 0)), (141, .getfield 155, 3, (12, 13, 0)), (144, .iastore, 1, (0, 0, 0)), (145, .aload_n 0, 1, (0, 0, 0))]
theorem K196_15 : zRk 196 B196_15 = true := by decide +kernel
def B196_16 : List zRow := [(149, .aload_n 0, 1, (0, 0, 0))]
theorem K196_16 : zRk 196 B196_16 = true := by decide +kernel
def B196_17 : List zRow := [(158, .aload_n 0, 1, (0, 0, 0)), (159, .getfield 16, 3, (12, 15, 5243718)), (162, .bipush 37, 2, (0, 0, 0)), (164, .iconst 3, 1, (0, 0, 0)), (165, .iload_n 1, 1, (0, 0, 0))]
theorem K196_17 : zRk 196 B196_17 = true := by decide +kernel
def B196_18 : List zRow := [(166, .imul, 1, (0, 0, 0))]
theorem K196_18 : zRk 196 B196_18 = true := by decide +kernel
def B196_19 : List zRow := [(167, .iadd, 1, (0, 0, 0)), (168, .iconst 2, 1, (0, 0, 0)), (169, .iadd, 1, (0, 0, 0)), (170, .aload_n 0, 1, (0, 0, 0)), (171, .getfield 155, 3, (12, 13, 0)), (174, .iastore, 1, (0, 0, 0)), (175, .aload_n 0, 1, (0, 0, 0)), (176, .getfield 16, 3, (12, 15, 5243718)), (179, .iconst 4, 1, (0, 0, 0)), (180, .dup2, 1, (0, 0, 0)), (181, .iaload, 1, (0, 0, 0)), (182, .iconst 1, 1, (0, 0, 0)), (183, .iadd, 1, (0, 0, 0)), (184, .iastore, 1, (0, 0, 0)), (185, .iconst 1, 1, (0, 0, 0))]
theorem K196_19 : zRk 196 B196_19 = true := by decide +kernel
def B196_20 : List zRow := [(156, .iconst 0, 1, (0, 0, 0))]
theorem K196_20 : zRk 196 B196_20 = true := by decide +kernel
def B196_21 : List zRow := [(153, .ifCond .ne 5, 3, (0, 0, 0))]
theorem K196_21 : zRk 196 B196_21 = true := by decide +kernel
def B196_22 : List zRow := [(71, .aload_n 0, 1, (0, 0, 0)), (72, .getfield 16, 3, (12, 15, 5243718)), (75, .bipush 37, 2, (0, 0, 0)), (77, .iconst 3, 1, (0, 0, 0)), (78, .iload_n 2, 1, (0, 0, 0))]
theorem K196_22 : zRk 196 B196_22 = true := by decide +kernel
def B196_23 : List zRow := [(79, .imul, 1, (0, 0, 0))]
theorem K196_23 : zRk 196 B196_23 = true := by decide +kernel
def B196_24 : List zRow := [(80, .iadd, 1, (0, 0, 0)), (81, .iaload, 1, (0, 0, 0)), (82, .aload_n 0, 1, (0, 0, 0)), (83, .getfield 16, 3, (12, 15, 5243718)), (86, .bipush 37, 2, (0, 0, 0)), (88, .iconst 3, 1, (0, 0, 0)), (89, .iload_n 1, 1, (0, 0, 0))]
theorem K196_24 : zRk 196 B196_24 = true := by decide +kernel
def B196_25 : List zRow := [(90, .imul, 1, (0, 0, 0))]
theorem K196_25 : zRk 196 B196_25 = true := by decide +kernel
def B196_26 : List zRow := [(96, .aload_n 0, 1, (0, 0, 0)), (97, .getfield 16, 3, (12, 15, 5243718)), (100, .bipush 37, 2, (0, 0, 0)), (102, .iconst 3, 1, (0, 0, 0)), (103, .iload_n 2, 1, (0, 0, 0))]
theorem K196_26 : zRk 196 B196_26 = true := by decide +kernel
def B196_27 : List zRow := [(104, .imul, 1, (0, 0, 0))]
theorem K196_27 : zRk 196 B196_27 = true := by decide +kernel
def B196_28 : List zRow := [(116, .aload_n 0, 1, (0, 0, 0)), (117, .iconst 3, 1, (0, 0, 0))]
theorem K196_28 : zRk 196 B196_28 = true := by decide +kernel
def B196_29 : List zRow := [(105, .iadd, 1, (0, 0, 0)), (106, .iconst 1, 1, (0, 0, 0)), (107, .iadd, 1, (0, 0, 0)), (108, .iaload, 1, (0, 0, 0)), (109, .aload_n 0, 1, (0, 0, 0)), (110, .getfield 155, 3, (12, 13, 0)), (113, .if_icmp .ne 9, 3, (0, 0, 0))]
theorem K196_29 : zRk 196 B196_29 = true := by decide +kernel
def B196_30 : List zRow := [(91, .iadd, 1, (0, 0, 0)), (92, .iaload, 1, (0, 0, 0)), (93, .if_icmp .ne 29, 3, (0, 0, 0))]
theorem K196_30 : zRk 196 B196_30 = true := by decide +kernel
def B196_31 : List zRow := [(66, .iload_n 2, 1, (0, 0, 0)), (67, .iload_n 1, 1, (0, 0, 0)), (68, .if_icmp .ge 60, 3, (0, 0, 0))]
theorem K196_31 : zRk 196 B196_31 = true := by decide +kernel
def B196_32 : List zRow := [(122, .iinc 2 1, 3, (0, 0, 0)), (125, .goto (-59), 3, (0, 0, 0))]
theorem K196_32 : zRk 196 B196_32 = true := by decide +kernel
def F196_1 (k0 : Int → Int → zHM → Option (Int × zHM)) (v1 : Int) (v2 : Int) (h : zHM) : Option (Int × zHM) := k0 v1 (wadd v2 1) h
set_option maxRecDepth 100000 in
theorem T196_1 {spec : zRn zH2} {hc : zHC} {o : Int → Int} {d : Nat} (hd : 5 ≤ d) (k0 : Int → Int → zHM → Option (Int × zHM)) (hk0 : ∀ (v1 : Int) (v2 : Int) (h : zHM) (v : (Int × zHM)), k0 v1 v2 h = some v → zFin 0 (fun _ => 0) (zRu2 spec d) 196 (some (0, v.1)) (hc, v.2, o) (66, [some (22, 0), some (0, v1), some (0, v2)], [], (hc, h, o))) (v1 : Int) (v2 : Int) (h : zHM) (v : (Int × zHM)) (e : F196_1 k0 v1 v2 h = some v) : zFin 0 (fun _ => 0) (zRu2 spec d) 196 (some (0, v.1)) (hc, v.2, o) (122, [some (22, 0), some (0, v1), some (0, v2)], [], (hc, h, o)) := by
  unfold F196_1 at e
  refine zF_blk (m := []) (d := 0) (b := B196_32) (gs := []) (c' := (66, [some (22, 0), some (0, v1), some (0, (wadd v2 1))], [], (hc, h, o))) K196_32 rfl trivial ?_
  exact hk0 v1 (wadd v2 1) h _ e
def F196_0 : Nat → Int → Int → zHM → Option (Int × zHM)
  | 0, _, _, _ => none
  | n + 1, v1, v2, h => if v1 ≤ v2 then zG (0 ≤ (wadd (wadd 37 (wmul 3 v1)) 1) ∧ (wadd (wadd 37 (wmul 3 v1)) 1) < 209) ((F176 (mset h 15 (wadd (wadd 37 (wmul 3 v1)) 1) (h 13 0))).bind fun r1 => (F195 r1).bind fun r2 => if ¬ r2.1 = 0 then zG (0 ≤ (wadd (wadd 37 (wmul 3 v1)) 2) ∧ (wadd (wadd 37 (wmul 3 v1)) 2) < 209) (some (1, (mset (mset r2.2 15 (wadd (wadd 37 (wmul 3 v1)) 2) (r2.2 13 0)) 15 4 (wadd ((mset r2.2 15 (wadd (wadd 37 (wmul 3 v1)) 2) (r2.2 13 0)) 15 4) 1)))) else some (0, r2.2)) else zG (0 ≤ (wadd 37 (wmul 3 v2)) ∧ (wadd 37 (wmul 3 v2)) < 209) (zG (0 ≤ (wadd 37 (wmul 3 v1)) ∧ (wadd 37 (wmul 3 v1)) < 209) (if ¬ (h 15 (wadd 37 (wmul 3 v2))) = (h 15 (wadd 37 (wmul 3 v1))) then F196_1 (F196_0 n) v1 v2 h else zG (0 ≤ (wadd (wadd 37 (wmul 3 v2)) 1) ∧ (wadd (wadd 37 (wmul 3 v2)) 1) < 209) (if ¬ (h 15 (wadd (wadd 37 (wmul 3 v2)) 1)) = (h 13 0) then F196_1 (F196_0 n) v1 v2 h else (F185 3 h).bind fun r3 => zG (r3.1 = 0 ∨ r3.1 = 1) (some (r3.1, r3.2)))))
set_option maxRecDepth 100000 in
theorem T196_0 {spec : zRn zH2} {hc : zHC} {o : Int → Int} {d : Nat} (hd : 5 ≤ d) : ∀ (n : Nat) (v1 : Int) (v2 : Int) (h : zHM) (v : (Int × zHM)), F196_0 n v1 v2 h = some v → zFin 0 (fun _ => 0) (zRu2 spec d) 196 (some (0, v.1)) (hc, v.2, o) (66, [some (22, 0), some (0, v1), some (0, v2)], [], (hc, h, o)) := by
  intro n
  induction n with
  | zero => intro v1 v2 h v e; unfold F196_0 at e; cases e
  | succ n hk0 =>
    intro v1 v2 h v e
    unfold F196_0 at e
    rcases zI_s e with ⟨q1, e⟩ | ⟨q1, e⟩
    · refine zF_blk (m := []) (d := 1) (b := B196_31) (gs := [v1 ≤ v2]) (c' := (128, [some (22, 0), some (0, v1), some (0, v2)], [], (hc, h, o))) K196_31 rfl ⟨q1, trivial⟩ ?_
      obtain ⟨q2, e⟩ := zG_s e
      refine zF_blk (m := []) (d := 0) (b := B196_13) (gs := []) (c' := (136, [some (22, 0), some (0, v1), some (0, v2)], [(0, v1), (0, 3), (0, 37), (1342393079, 0)], (hc, h, o))) K196_13 rfl trivial ?_
      refine zF_blk (m := []) (d := 0) (b := B196_14) (gs := []) (c' := (137, [some (22, 0), some (0, v1), some (0, v2)], [(0, (wmul 3 v1)), (0, 37), (1342393079, 0)], (hc, h, o))) K196_14 rfl trivial ?_
      obtain ⟨r1, q3, e⟩ := zB_s e
      refine zF_blk (m := []) (d := 0) (b := B196_15) (gs := [0 ≤ (wadd (wadd 37 (wmul 3 v1)) 1) ∧ (wadd (wadd 37 (wmul 3 v1)) 1) < 209]) (c' := (146, [some (22, 0), some (0, v1), some (0, v2)], [(22, 0)], (hc, (mset h 15 (wadd (wadd 37 (wmul 3 v1)) 1) (h 13 0)), o))) K196_15 rfl ⟨q2, trivial⟩ ?_
      refine zF_call (k := 176) (cl := 12) (n := 1) (i := .invokevirtual 162) (args := [(22, 0)]) (rest := []) (g1 := (hc, r1, o)) (r1 := none) (by decide +kernel) rfl rfl rfl (st' := []) rfl (S176 (Nat.le_trans (by decide) hd)  (mset h 15 (wadd (wadd 37 (wmul 3 v1)) 1) (h 13 0)) _ q3) ?_
      obtain ⟨r2, q4, e⟩ := zB_s e
      refine zF_blk (m := []) (d := 0) (b := B196_16) (gs := []) (c' := (150, [some (22, 0), some (0, v1), some (0, v2)], [(22, 0)], (hc, r1, o))) K196_16 rfl trivial ?_
      refine zF_call (k := 195) (cl := 12) (n := 1) (i := .invokevirtual 193) (args := [(22, 0)]) (rest := []) (g1 := (hc, r2.2, o)) (r1 := some (0, r2.1)) (by decide +kernel) rfl rfl rfl (st' := [(0, r2.1)]) rfl (S195 (Nat.le_trans (by decide) hd)  r1 _ q4) ?_
      rcases zI_s e with ⟨q5, e⟩ | ⟨q5, e⟩
      · refine zF_blk (m := []) (d := 1) (b := B196_21) (gs := [¬ r2.1 = 0]) (c' := (158, [some (22, 0), some (0, v1), some (0, v2)], [], (hc, r2.2, o))) K196_21 rfl ⟨q5, trivial⟩ ?_
        obtain ⟨q6, e⟩ := zG_s e
        refine zF_blk (m := []) (d := 0) (b := B196_17) (gs := []) (c' := (166, [some (22, 0), some (0, v1), some (0, v2)], [(0, v1), (0, 3), (0, 37), (1342393079, 0)], (hc, r2.2, o))) K196_17 rfl trivial ?_
        refine zF_blk (m := []) (d := 0) (b := B196_18) (gs := []) (c' := (167, [some (22, 0), some (0, v1), some (0, v2)], [(0, (wmul 3 v1)), (0, 37), (1342393079, 0)], (hc, r2.2, o))) K196_18 rfl trivial ?_
        refine zF_blk (m := []) (d := 0) (b := B196_19) (gs := [0 ≤ (wadd (wadd 37 (wmul 3 v1)) 2) ∧ (wadd (wadd 37 (wmul 3 v1)) 2) < 209, 0 ≤ 4 ∧ 4 < 209, 0 ≤ 4 ∧ 4 < 209]) (c' := (186, [some (22, 0), some (0, v1), some (0, v2)], [(0, 1)], (hc, (mset (mset r2.2 15 (wadd (wadd 37 (wmul 3 v1)) 2) (r2.2 13 0)) 15 4 (wadd ((mset r2.2 15 (wadd (wadd 37 (wmul 3 v1)) 2) (r2.2 13 0)) 15 4) 1)), o))) K196_19 rfl ⟨q6, by decide, by decide, trivial⟩ ?_
        exact zF_rbM (by decide +kernel) (Or.inr rfl) e
      · refine zF_blk (m := []) (d := 0) (b := B196_21) (gs := [¬ (¬ r2.1 = 0)]) (c' := (156, [some (22, 0), some (0, v1), some (0, v2)], [], (hc, r2.2, o))) K196_21 rfl ⟨q5, trivial⟩ ?_
        refine zF_blk (m := []) (d := 0) (b := B196_20) (gs := []) (c' := (157, [some (22, 0), some (0, v1), some (0, v2)], [(0, 0)], (hc, r2.2, o))) K196_20 rfl trivial ?_
        exact zF_rbM (by decide +kernel) (Or.inl rfl) e
    · refine zF_blk (m := []) (d := 0) (b := B196_31) (gs := [¬ (v1 ≤ v2)]) (c' := (71, [some (22, 0), some (0, v1), some (0, v2)], [], (hc, h, o))) K196_31 rfl ⟨q1, trivial⟩ ?_
      obtain ⟨q7, e⟩ := zG_s e
      obtain ⟨q8, e⟩ := zG_s e
      refine zF_blk (m := []) (d := 0) (b := B196_22) (gs := []) (c' := (79, [some (22, 0), some (0, v1), some (0, v2)], [(0, v2), (0, 3), (0, 37), (1342393079, 0)], (hc, h, o))) K196_22 rfl trivial ?_
      refine zF_blk (m := []) (d := 0) (b := B196_23) (gs := []) (c' := (80, [some (22, 0), some (0, v1), some (0, v2)], [(0, (wmul 3 v2)), (0, 37), (1342393079, 0)], (hc, h, o))) K196_23 rfl trivial ?_
      refine zF_blk (m := []) (d := 0) (b := B196_24) (gs := [0 ≤ (wadd 37 (wmul 3 v2)) ∧ (wadd 37 (wmul 3 v2)) < 209]) (c' := (90, [some (22, 0), some (0, v1), some (0, v2)], [(0, v1), (0, 3), (0, 37), (1342393079, 0), (0, (h 15 (wadd 37 (wmul 3 v2))))], (hc, h, o))) K196_24 rfl ⟨q7, trivial⟩ ?_
      refine zF_blk (m := []) (d := 0) (b := B196_25) (gs := []) (c' := (91, [some (22, 0), some (0, v1), some (0, v2)], [(0, (wmul 3 v1)), (0, 37), (1342393079, 0), (0, (h 15 (wadd 37 (wmul 3 v2))))], (hc, h, o))) K196_25 rfl trivial ?_
      rcases zI_s e with ⟨q9, e⟩ | ⟨q9, e⟩
      · refine zF_blk (m := []) (d := 1) (b := B196_30) (gs := [0 ≤ (wadd 37 (wmul 3 v1)) ∧ (wadd 37 (wmul 3 v1)) < 209, ¬ (h 15 (wadd 37 (wmul 3 v2))) = (h 15 (wadd 37 (wmul 3 v1)))]) (c' := (122, [some (22, 0), some (0, v1), some (0, v2)], [], (hc, h, o))) K196_30 rfl ⟨q8, q9, trivial⟩ ?_
        exact T196_1 hd (F196_0 n) hk0 v1 v2 h _ e
      · refine zF_blk (m := []) (d := 0) (b := B196_30) (gs := [0 ≤ (wadd 37 (wmul 3 v1)) ∧ (wadd 37 (wmul 3 v1)) < 209, ¬ (¬ (h 15 (wadd 37 (wmul 3 v2))) = (h 15 (wadd 37 (wmul 3 v1))))]) (c' := (96, [some (22, 0), some (0, v1), some (0, v2)], [], (hc, h, o))) K196_30 rfl ⟨q8, q9, trivial⟩ ?_
        obtain ⟨q10, e⟩ := zG_s e
        refine zF_blk (m := []) (d := 0) (b := B196_26) (gs := []) (c' := (104, [some (22, 0), some (0, v1), some (0, v2)], [(0, v2), (0, 3), (0, 37), (1342393079, 0)], (hc, h, o))) K196_26 rfl trivial ?_
        refine zF_blk (m := []) (d := 0) (b := B196_27) (gs := []) (c' := (105, [some (22, 0), some (0, v1), some (0, v2)], [(0, (wmul 3 v2)), (0, 37), (1342393079, 0)], (hc, h, o))) K196_27 rfl trivial ?_
        rcases zI_s e with ⟨q11, e⟩ | ⟨q11, e⟩
        · refine zF_blk (m := []) (d := 1) (b := B196_29) (gs := [0 ≤ (wadd (wadd 37 (wmul 3 v2)) 1) ∧ (wadd (wadd 37 (wmul 3 v2)) 1) < 209, ¬ (h 15 (wadd (wadd 37 (wmul 3 v2)) 1)) = (h 13 0)]) (c' := (122, [some (22, 0), some (0, v1), some (0, v2)], [], (hc, h, o))) K196_29 rfl ⟨q10, q11, trivial⟩ ?_
          exact T196_1 hd (F196_0 n) hk0 v1 v2 h _ e
        · refine zF_blk (m := []) (d := 0) (b := B196_29) (gs := [0 ≤ (wadd (wadd 37 (wmul 3 v2)) 1) ∧ (wadd (wadd 37 (wmul 3 v2)) 1) < 209, ¬ (¬ (h 15 (wadd (wadd 37 (wmul 3 v2)) 1)) = (h 13 0))]) (c' := (116, [some (22, 0), some (0, v1), some (0, v2)], [], (hc, h, o))) K196_29 rfl ⟨q10, q11, trivial⟩ ?_
          obtain ⟨r3, q12, e⟩ := zB_s e
          refine zF_blk (m := []) (d := 0) (b := B196_28) (gs := []) (c' := (118, [some (22, 0), some (0, v1), some (0, v2)], [(0, 3), (22, 0)], (hc, h, o))) K196_28 rfl trivial ?_
          refine zF_call (k := 185) (cl := 12) (n := 2) (i := .invokevirtual 148) (args := [(22, 0), (0, 3)]) (rest := []) (g1 := (hc, r3.2, o)) (r1 := some (0, r3.1)) (by decide +kernel) rfl rfl rfl (st' := [(0, r3.1)]) rfl (S185 (Nat.le_trans (by decide) hd) 3 h _ q12) ?_
          obtain ⟨q13, e⟩ := zG_s e
          exact zF_rbM (by decide +kernel) q13 e
/-- EchoValeModel.readMove()Z -/
def F196 (h : zHM) : Option (Int × zHM) := if ¬ (h 15 4) = 20 then (F176 h).bind fun r1 => (F197 r1).bind fun r2 => if ¬ r2.1 = 0 then zG (0 ≤ (wadd 37 (wmul 3 (h 15 4))) ∧ (wadd 37 (wmul 3 (h 15 4))) < 209) ((F176 (mset r2.2 15 (wadd 37 (wmul 3 (h 15 4))) (r2.2 13 0))).bind fun r3 => (F187 1 200 r3).bind fun r4 => if ¬ r4.1 = 0 then F196_0 zFu (h 15 4) 0 r4.2 else some (0, r4.2)) else some (0, r2.2) else (F185 4 h).bind fun r5 => zG (r5.1 = 0 ∨ r5.1 = 1) (some (r5.1, r5.2))
set_option maxRecDepth 100000 in
theorem S196 {spec : zRn zH2} {hc : zHC} {o : Int → Int} {d : Nat} (hd : 6 ≤ d) (h : zHM) (v : (Int × zHM)) (e : F196 h = some v) : zRu2 spec d 196 [(22, 0)] (hc, h, o) (some (0, v.1)) (hc, v.2, o) := by
  refine zF_in (D := 5) (mx := 3) (L := [some (22, 0), none, none]) (by decide +kernel) rfl rfl hd (fun d hd => ?_)
  unfold F196 at e
  rcases zI_s e with ⟨q1, e⟩ | ⟨q1, e⟩
  · refine zF_blk (m := []) (d := 1) (b := B196_12) (gs := [0 ≤ 4 ∧ 4 < 209, ¬ (h 15 4) = 20]) (c' := (19, [some (22, 0), some (0, (h 15 4)), none], [], (hc, h, o))) K196_12 rfl ⟨by decide, q1, trivial⟩ ?_
    obtain ⟨r1, q2, e⟩ := zB_s e
    refine zF_blk (m := []) (d := 0) (b := B196_0) (gs := []) (c' := (20, [some (22, 0), some (0, (h 15 4)), none], [(22, 0)], (hc, h, o))) K196_0 rfl trivial ?_
    refine zF_call (k := 176) (cl := 12) (n := 1) (i := .invokevirtual 162) (args := [(22, 0)]) (rest := []) (g1 := (hc, r1, o)) (r1 := none) (by decide +kernel) rfl rfl rfl (st' := []) rfl (S176 (Nat.le_trans (by decide) hd)  h _ q2) ?_
    obtain ⟨r2, q3, e⟩ := zB_s e
    refine zF_blk (m := []) (d := 0) (b := B196_1) (gs := []) (c' := (24, [some (22, 0), some (0, (h 15 4)), none], [(22, 0)], (hc, r1, o))) K196_1 rfl trivial ?_
    refine zF_call (k := 197) (cl := 12) (n := 1) (i := .invokevirtual 196) (args := [(22, 0)]) (rest := []) (g1 := (hc, r2.2, o)) (r1 := some (0, r2.1)) (by decide +kernel) rfl rfl rfl (st' := [(0, r2.1)]) rfl (S197 (Nat.le_trans (by decide) hd)  r1 _ q3) ?_
    rcases zI_s e with ⟨q4, e⟩ | ⟨q4, e⟩
    · refine zF_blk (m := []) (d := 1) (b := B196_10) (gs := [¬ r2.1 = 0]) (c' := (32, [some (22, 0), some (0, (h 15 4)), none], [], (hc, r2.2, o))) K196_10 rfl ⟨q4, trivial⟩ ?_
      obtain ⟨q5, e⟩ := zG_s e
      refine zF_blk (m := []) (d := 0) (b := B196_2) (gs := []) (c' := (40, [some (22, 0), some (0, (h 15 4)), none], [(0, (h 15 4)), (0, 3), (0, 37), (1342393079, 0)], (hc, r2.2, o))) K196_2 rfl trivial ?_
      refine zF_blk (m := []) (d := 0) (b := B196_3) (gs := []) (c' := (41, [some (22, 0), some (0, (h 15 4)), none], [(0, (wmul 3 (h 15 4))), (0, 37), (1342393079, 0)], (hc, r2.2, o))) K196_3 rfl trivial ?_
      obtain ⟨r3, q6, e⟩ := zB_s e
      refine zF_blk (m := []) (d := 0) (b := B196_4) (gs := [0 ≤ (wadd 37 (wmul 3 (h 15 4))) ∧ (wadd 37 (wmul 3 (h 15 4))) < 209]) (c' := (48, [some (22, 0), some (0, (h 15 4)), none], [(22, 0)], (hc, (mset r2.2 15 (wadd 37 (wmul 3 (h 15 4))) (r2.2 13 0)), o))) K196_4 rfl ⟨q5, trivial⟩ ?_
      refine zF_call (k := 176) (cl := 12) (n := 1) (i := .invokevirtual 162) (args := [(22, 0)]) (rest := []) (g1 := (hc, r3, o)) (r1 := none) (by decide +kernel) rfl rfl rfl (st' := []) rfl (S176 (Nat.le_trans (by decide) hd)  (mset r2.2 15 (wadd 37 (wmul 3 (h 15 4))) (r2.2 13 0)) _ q6) ?_
      obtain ⟨r4, q7, e⟩ := zB_s e
      refine zF_blk (m := []) (d := 0) (b := B196_5) (gs := []) (c' := (56, [some (22, 0), some (0, (h 15 4)), none], [(0, 200), (0, 1), (22, 0)], (hc, r3, o))) K196_5 rfl trivial ?_
      refine zF_call (k := 187) (cl := 12) (n := 3) (i := .invokevirtual 158) (args := [(22, 0), (0, 1), (0, 200)]) (rest := []) (g1 := (hc, r4.2, o)) (r1 := some (0, r4.1)) (by decide +kernel) rfl rfl rfl (st' := [(0, r4.1)]) rfl (S187 (Nat.le_trans (by decide) hd) 1 200 r3 _ q7) ?_
      rcases zI_s e with ⟨q8, e⟩ | ⟨q8, e⟩
      · refine zF_blk (m := []) (d := 1) (b := B196_8) (gs := [¬ r4.1 = 0]) (c' := (64, [some (22, 0), some (0, (h 15 4)), none], [], (hc, r4.2, o))) K196_8 rfl ⟨q8, trivial⟩ ?_
        refine zF_blk (m := []) (d := 0) (b := B196_6) (gs := []) (c' := (66, [some (22, 0), some (0, (h 15 4)), some (0, 0)], [], (hc, r4.2, o))) K196_6 rfl trivial ?_
        exact T196_0 hd zFu (h 15 4) 0 r4.2 _ e
      · refine zF_blk (m := []) (d := 0) (b := B196_8) (gs := [¬ (¬ r4.1 = 0)]) (c' := (62, [some (22, 0), some (0, (h 15 4)), none], [], (hc, r4.2, o))) K196_8 rfl ⟨q8, trivial⟩ ?_
        refine zF_blk (m := []) (d := 0) (b := B196_7) (gs := []) (c' := (63, [some (22, 0), some (0, (h 15 4)), none], [(0, 0)], (hc, r4.2, o))) K196_7 rfl trivial ?_
        exact zF_rbM (by decide +kernel) (Or.inl rfl) e
    · refine zF_blk (m := []) (d := 0) (b := B196_10) (gs := [¬ (¬ r2.1 = 0)]) (c' := (30, [some (22, 0), some (0, (h 15 4)), none], [], (hc, r2.2, o))) K196_10 rfl ⟨q4, trivial⟩ ?_
      refine zF_blk (m := []) (d := 0) (b := B196_9) (gs := []) (c' := (31, [some (22, 0), some (0, (h 15 4)), none], [(0, 0)], (hc, r2.2, o))) K196_9 rfl trivial ?_
      exact zF_rbM (by decide +kernel) (Or.inl rfl) e
  · refine zF_blk (m := []) (d := 0) (b := B196_12) (gs := [0 ≤ 4 ∧ 4 < 209, ¬ (¬ (h 15 4) = 20)]) (c' := (13, [some (22, 0), some (0, (h 15 4)), none], [], (hc, h, o))) K196_12 rfl ⟨by decide, q1, trivial⟩ ?_
    obtain ⟨r5, q9, e⟩ := zB_s e
    refine zF_blk (m := []) (d := 0) (b := B196_11) (gs := []) (c' := (15, [some (22, 0), some (0, (h 15 4)), none], [(0, 4), (22, 0)], (hc, h, o))) K196_11 rfl trivial ?_
    refine zF_call (k := 185) (cl := 12) (n := 2) (i := .invokevirtual 148) (args := [(22, 0), (0, 4)]) (rest := []) (g1 := (hc, r5.2, o)) (r1 := some (0, r5.1)) (by decide +kernel) rfl rfl rfl (st' := [(0, r5.1)]) rfl (S185 (Nat.le_trans (by decide) hd) 4 h _ q9) ?_
    obtain ⟨q10, e⟩ := zG_s e
    exact zF_rbM (by decide +kernel) q10 e
