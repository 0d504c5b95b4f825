/-! Functions of the methods, by wip/gen/lift.py. -/
def B227_0 : List zRow := [(0, .aload_n 0, 1, (0, 0, 0)), (1, .getfield 13, 3, (12, 14, 5251442)), (4, .sipush 216, 3, (0, 0, 0)), (7, .iaload, 1, (0, 0, 0)), (8, .istore 4, 2, (0, 0, 0)), (10, .sipush 217, 3, (0, 0, 0)), (13, .bipush 8, 2, (0, 0, 0)), (15, .iload 4, 2, (0, 0, 0))]
theorem K227_0 : zRk 227 B227_0 = true := by decide +kernel
def B227_1 : List zRow := [(17, .imul, 1, (0, 0, 0))]
theorem K227_1 : zRk 227 B227_1 = true := by decide +kernel
def B227_2 : List zRow := [(18, .iadd, 1, (0, 0, 0)), (19, .istore 5, 2, (0, 0, 0)), (21, .aload_n 0, 1, (0, 0, 0)), (22, .getfield 13, 3, (12, 14, 5251442)), (25, .sipush 210, 3, (0, 0, 0)), (28, .iload_n 1, 1, (0, 0, 0))]
theorem K227_2 : zRk 227 B227_2 = true := by decide +kernel
def B227_3 : List zRow := [(29, .iadd, 1, (0, 0, 0)), (30, .iaload, 1, (0, 0, 0)), (31, .istore 6, 2, (0, 0, 0)), (33, .aload_n 0, 1, (0, 0, 0)), (34, .getfield 13, 3, (12, 14, 5251442)), (37, .iload 5, 2, (0, 0, 0)), (39, .iconst 0, 1, (0, 0, 0)), (40, .iadd, 1, (0, 0, 0)), (41, .iload_n 2, 1, (0, 0, 0)), (42, .iastore, 1, (0, 0, 0)), (43, .aload_n 0, 1, (0, 0, 0)), (44, .getfield 13, 3, (12, 14, 5251442)), (47, .iload 5, 2, (0, 0, 0)), (49, .iconst 1, 1, (0, 0, 0)), (50, .iadd, 1, (0, 0, 0)), (51, .iload_n 1, 1, (0, 0, 0)), (52, .iastore, 1, (0, 0, 0)), (53, .aload_n 0, 1, (0, 0, 0)), (54, .getfield 13, 3, (12, 14, 5251442)), (57, .iload 5, 2, (0, 0, 0)), (59, .iconst 2, 1, (0, 0, 0)), (60, .iadd, 1, (0, 0, 0)), (61, .aload_n 0, 1, (0, 0, 0)), (62, .getfield 13, 3, (12, 14, 5251442)), (65, .sipush 209, 3, (0, 0, 0)), (68, .iaload, 1, (0, 0, 0)), (69, .iastore, 1, (0, 0, 0)), (70, .aload_n 0, 1, (0, 0, 0)), (71, .getfield 13, 3, (12, 14, 5251442)), (74, .iload 5, 2, (0, 0, 0)), (76, .iconst 3, 1, (0, 0, 0)), (77, .iadd, 1, (0, 0, 0)), (78, .iload 6, 2, (0, 0, 0)), (80, .iastore, 1, (0, 0, 0)), (81, .aload_n 0, 1, (0, 0, 0)), (82, .getfield 13, 3, (12, 14, 5251442)), (85, .iload 5, 2, (0, 0, 0)), (87, .iconst 4, 1, (0, 0, 0)), (88, .iadd, 1, (0, 0, 0)), (89, .aload_n 0, 1, (0, 0, 0)), (90, .iload 6, 2, (0, 0, 0)), (92, .iload_n 3, 1, (0, 0, 0))]
theorem K227_3 : zRk 227 B227_3 = true := by decide +kernel
def B227_4 : List zRow := [(96, .iastore, 1, (0, 0, 0)), (97, .aload_n 0, 1, (0, 0, 0)), (98, .getfield 13, 3, (12, 14, 5251442)), (101, .iload 5, 2, (0, 0, 0)), (103, .iconst 5, 1, (0, 0, 0)), (104, .iadd, 1, (0, 0, 0)), (105, .iconst 1, 1, (0, 0, 0)), (106, .iload_n 1, 1, (0, 0, 0)), (107, .ishl, 1, (0, 0, 0)), (108, .iastore, 1, (0, 0, 0)), (109, .aload_n 0, 1, (0, 0, 0)), (110, .getfield 13, 3, (12, 14, 5251442)), (113, .iload 5, 2, (0, 0, 0)), (115, .bipush 6, 2, (0, 0, 0)), (117, .iadd, 1, (0, 0, 0)), (118, .iconst 0, 1, (0, 0, 0)), (119, .iastore, 1, (0, 0, 0)), (120, .aload_n 0, 1, (0, 0, 0)), (121, .getfield 13, 3, (12, 14, 5251442)), (124, .iload 5, 2, (0, 0, 0)), (126, .bipush 7, 2, (0, 0, 0)), (128, .iadd, 1, (0, 0, 0)), (129, .iconst 0, 1, (0, 0, 0)), (130, .iastore, 1, (0, 0, 0)), (131, .iconst 0, 1, (0, 0, 0)), (132, .istore 7, 2, (0, 0, 0))]
theorem K227_4 : zRk 227 B227_4 = true := by decide +kernel
def B227_5 : List zRow := [(165, .aload_n 0, 1, (0, 0, 0)), (166, .getfield 13, 3, (12, 14, 5251442)), (169, .sipush 216, 3, (0, 0, 0)), (172, .dup2, 1, (0, 0, 0)), (173, .iaload, 1, (0, 0, 0)), (174, .iconst 1, 1, (0, 0, 0)), (175, .iadd, 1, (0, 0, 0)), (176, .iastore, 1, (0, 0, 0)), (177, .aload_n 0, 1, (0, 0, 0)), (178, .getfield 13, 3, (12, 14, 5251442)), (181, .iload 5, 2, (0, 0, 0)), (183, .iconst 4, 1, (0, 0, 0)), (184, .iadd, 1, (0, 0, 0)), (185, .iaload, 1, (0, 0, 0)), (186, .istore 7, 2, (0, 0, 0)), (188, .iconst 0, 1, (0, 0, 0)), (189, .istore 8, 2, (0, 0, 0))]
theorem K227_5 : zRk 227 B227_5 = true := by decide +kernel
def B227_6 : List zRow := [(141, .aload_n 0, 1, (0, 0, 0)), (142, .getfield 13, 3, (12, 14, 5251442)), (145, .sipush 457, 3, (0, 0, 0)), (148, .bipush 18, 2, (0, 0, 0)), (150, .iload 4, 2, (0, 0, 0))]
theorem K227_6 : zRk 227 B227_6 = true := by decide +kernel
def B227_7 : List zRow := [(152, .imul, 1, (0, 0, 0))]
theorem K227_7 : zRk 227 B227_7 = true := by decide +kernel
def B227_8 : List zRow := [(153, .iadd, 1, (0, 0, 0)), (154, .iload 7, 2, (0, 0, 0)), (156, .iadd, 1, (0, 0, 0)), (157, .iconst 0, 1, (0, 0, 0)), (158, .iastore, 1, (0, 0, 0)), (159, .iinc 7 1, 3, (0, 0, 0)), (162, .goto (-28), 3, (0, 0, 0))]
theorem K227_8 : zRk 227 B227_8 = true := by decide +kernel
def B227_9 : List zRow := [(134, .iload 7, 2, (0, 0, 0)), (136, .bipush 18, 2, (0, 0, 0)), (138, .if_icmp .ge 27, 3, (0, 0, 0))]
theorem K227_9 : zRk 227 B227_9 = true := by decide +kernel
def B227_10 : List zRow := [(268, .iload 4, 2, (0, 0, 0))]
theorem K227_10 : zRk 227 B227_10 = true := by decide +kernel
def B227_11 : List zRow := [(207, .iload 6, 2, (0, 0, 0)), (209, .aload_n 0, 1, (0, 0, 0)), (210, .iload 8, 2, (0, 0, 0))]
theorem K227_11 : zRk 227 B227_11 = true := by decide +kernel
def B227_12 : List zRow := [(223, .aload_n 0, 1, (0, 0, 0)), (224, .iload 4, 2, (0, 0, 0)), (226, .iload 8, 2, (0, 0, 0)), (228, .aload_n 0, 1, (0, 0, 0)), (229, .getfield 13, 3, (12, 14, 5251442)), (232, .sipush 209, 3, (0, 0, 0)), (235, .iaload, 1, (0, 0, 0)), (236, .aload_n 0, 1, (0, 0, 0)), (237, .iload 8, 2, (0, 0, 0))]
theorem K227_12 : zRk 227 B227_12 = true := by decide +kernel
def B227_13 : List zRow := [(242, .iadd, 1, (0, 0, 0)), (243, .iload 7, 2, (0, 0, 0)), (245, .iload 6, 2, (0, 0, 0)), (247, .aload_n 0, 1, (0, 0, 0)), (248, .iload 8, 2, (0, 0, 0))]
theorem K227_13 : zRk 227 B227_13 = true := by decide +kernel
def B227_14 : List zRow := [(256, .iconst 2, 1, (0, 0, 0)), (257, .idiv, 1, (0, 0, 0)), (258, .isub, 1, (0, 0, 0))]
theorem K227_14 : zRk 227 B227_14 = true := by decide +kernel
def B227_15 : List zRow := [(218, .iload 7, 2, (0, 0, 0)), (220, .if_icmp .gt 42, 3, (0, 0, 0))]
theorem K227_15 : zRk 227 B227_15 = true := by decide +kernel
def B227_16 : List zRow := [(202, .iload 7, 2, (0, 0, 0)), (204, .ifCond .le 58, 3, (0, 0, 0))]
theorem K227_16 : zRk 227 B227_16 = true := by decide +kernel
def B227_17 : List zRow := [(191, .iload 8, 2, (0, 0, 0)), (193, .aload_n 0, 1, (0, 0, 0)), (194, .getfield 13, 3, (12, 14, 5251442)), (197, .iconst 2, 1, (0, 0, 0)), (198, .iaload, 1, (0, 0, 0)), (199, .if_icmp .ge 69, 3, (0, 0, 0))]
theorem K227_17 : zRk 227 B227_17 = true := by decide +kernel
def B227_18 : List zRow := [(262, .iinc 8 1, 3, (0, 0, 0)), (265, .goto (-74), 3, (0, 0, 0))]
theorem K227_18 : zRk 227 B227_18 = true := by decide +kernel
def F227_2 (k0 : Int → Int → Int → Int → zHM → Option (Int × zHM)) (v4 : Int) (v6 : Int) (v7 : Int) (v8 : Int) (h : zHM) : Option (Int × zHM) := k0 v4 v6 v7 (wadd v8 1) h
set_option maxRecDepth 100000 in
theorem T227_2 {spec : zRn zH2} {hc : zHC} {o : Int → Int} {d : Nat} (hd : 2 ≤ d) (k0 : Int → Int → Int → Int → zHM → Option (Int × zHM)) (hk0 : ∀ (v4 : Int) (v6 : Int) (v7 : Int) (v8 : Int) (h : zHM) (v : (Int × zHM)), k0 v4 v6 v7 v8 h = some v → zFin 0 (fun _ => 0) (zRu2 spec d) 227 (some (0, v.1)) (hc, v.2, o) (191, [some (22, 0), none, none, none, some (0, v4), none, some (0, v6), some (0, v7), some (0, v8)], [], (hc, h, o))) (v4 : Int) (v6 : Int) (v7 : Int) (v8 : Int) (h : zHM) (v : (Int × zHM)) (e : F227_2 k0 v4 v6 v7 v8 h = some v) : zFin 0 (fun _ => 0) (zRu2 spec d) 227 (some (0, v.1)) (hc, v.2, o) (262, [some (22, 0), none, none, none, some (0, v4), none, some (0, v6), some (0, v7), some (0, v8)], [], (hc, h, o)) := by
  unfold F227_2 at e
  refine zF_blk (m := []) (d := 0) (b := B227_18) (gs := []) (c' := (191, [some (22, 0), none, none, none, some (0, v4), none, some (0, v6), some (0, v7), some (0, (wadd v8 1))], [], (hc, h, o))) K227_18 rfl trivial ?_
  exact hk0 v4 v6 v7 (wadd v8 1) h _ e
def F227_1 : Nat → Int → Int → Int → Int → zHM → Option (Int × zHM)
  | 0, _, _, _, _, _ => none
  | n + 1, v4, v6, v7, v8, h => if (h 14 2) ≤ v8 then some (v4, h) else if v7 ≤ 0 then F227_2 (F227_1 n) v4 v6 v7 v8 h else (F229 v8 h).bind fun r1 => (F230 v6 r1).bind fun r2 => if v7 < r2 then F227_2 (F227_1 n) v4 v6 v7 v8 h else (F232 v8 h).bind fun r3 => (F229 v8 h).bind fun r4 => (F230 v6 r4).bind fun r5 => (F233 v4 v8 (wadd (h 14 209) r3) (wsub v7 (wdiv r5 2)) h).bind fun r6 => F227_2 (F227_1 n) v4 v6 v7 v8 r6
set_option maxRecDepth 100000 in
theorem T227_1 {spec : zRn zH2} {hc : zHC} {o : Int → Int} {d : Nat} (hd : 2 ≤ d) : ∀ (n : Nat) (v4 : Int) (v6 : Int) (v7 : Int) (v8 : Int) (h : zHM) (v : (Int × zHM)), F227_1 n v4 v6 v7 v8 h = some v → zFin 0 (fun _ => 0) (zRu2 spec d) 227 (some (0, v.1)) (hc, v.2, o) (191, [some (22, 0), none, none, none, some (0, v4), none, some (0, v6), some (0, v7), some (0, v8)], [], (hc, h, o)) := by
  intro n
  induction n with
  | zero => intro v4 v6 v7 v8 h v e; unfold F227_1 at e; cases e
  | succ n hk0 =>
    intro v4 v6 v7 v8 h v e
    unfold F227_1 at e
    rcases zI_s e with ⟨q1, e⟩ | ⟨q1, e⟩
    · refine zF_blk (m := []) (d := 1) (b := B227_17) (gs := [0 ≤ 2 ∧ 2 < 2140, (h 14 2) ≤ v8]) (c' := (268, [some (22, 0), none, none, none, some (0, v4), none, some (0, v6), some (0, v7), some (0, v8)], [], (hc, h, o))) K227_17 rfl ⟨by decide, q1, trivial⟩ ?_
      refine zF_blk (m := []) (d := 0) (b := B227_10) (gs := []) (c' := (270, [some (22, 0), none, none, none, some (0, v4), none, some (0, v6), some (0, v7), some (0, v8)], [(0, v4)], (hc, h, o))) K227_10 rfl trivial ?_
      exact zF_riM (by decide +kernel) e
    · refine zF_blk (m := []) (d := 0) (b := B227_17) (gs := [0 ≤ 2 ∧ 2 < 2140, ¬ ((h 14 2) ≤ v8)]) (c' := (202, [some (22, 0), none, none, none, some (0, v4), none, some (0, v6), some (0, v7), some (0, v8)], [], (hc, h, o))) K227_17 rfl ⟨by decide, q1, trivial⟩ ?_
      rcases zI_s e with ⟨q2, e⟩ | ⟨q2, e⟩
      · refine zF_blk (m := []) (d := 1) (b := B227_16) (gs := [v7 ≤ 0]) (c' := (262, [some (22, 0), none, none, none, some (0, v4), none, some (0, v6), some (0, v7), some (0, v8)], [], (hc, h, o))) K227_16 rfl ⟨q2, trivial⟩ ?_
        exact T227_2 hd (F227_1 n) hk0 v4 v6 v7 v8 h _ e
      · refine zF_blk (m := []) (d := 0) (b := B227_16) (gs := [¬ (v7 ≤ 0)]) (c' := (207, [some (22, 0), none, none, none, some (0, v4), none, some (0, v6), some (0, v7), some (0, v8)], [], (hc, h, o))) K227_16 rfl ⟨q2, trivial⟩ ?_
        obtain ⟨r1, q3, e⟩ := zB_s e
        refine zF_blk (m := []) (d := 0) (b := B227_11) (gs := []) (c' := (212, [some (22, 0), none, none, none, some (0, v4), none, some (0, v6), some (0, v7), some (0, v8)], [(0, v8), (22, 0), (0, v6)], (hc, h, o))) K227_11 rfl trivial ?_
        refine zF_call (k := 229) (cl := 12) (n := 2) (i := .invokevirtual 276) (args := [(22, 0), (0, v8)]) (rest := [(0, v6)]) (g1 := (hc, h, o)) (r1 := some (0, r1)) (by decide +kernel) rfl rfl rfl (st' := [(0, r1), (0, v6)]) rfl (S229 (Nat.le_trans (by decide) hd) v8 h _ q3) ?_
        obtain ⟨r2, q4, e⟩ := zB_s e
        refine zF_call (k := 230) (cl := 12) (n := 2) (i := .invokestatic 279) (args := [(0, v6), (0, r1)]) (rest := []) (g1 := (hc, h, o)) (r1 := some (0, r2)) (by decide +kernel) rfl rfl rfl (st' := [(0, r2)]) rfl (S230 (Nat.le_trans (by decide) hd) v6 r1 h _ q4) ?_
        rcases zI_s e with ⟨q5, e⟩ | ⟨q5, e⟩
        · refine zF_blk (m := []) (d := 1) (b := B227_15) (gs := [v7 < r2]) (c' := (262, [some (22, 0), none, none, none, some (0, v4), none, some (0, v6), some (0, v7), some (0, v8)], [], (hc, h, o))) K227_15 rfl ⟨q5, trivial⟩ ?_
          exact T227_2 hd (F227_1 n) hk0 v4 v6 v7 v8 h _ e
        · refine zF_blk (m := []) (d := 0) (b := B227_15) (gs := [¬ (v7 < r2)]) (c' := (223, [some (22, 0), none, none, none, some (0, v4), none, some (0, v6), some (0, v7), some (0, v8)], [], (hc, h, o))) K227_15 rfl ⟨q5, trivial⟩ ?_
          obtain ⟨r3, q6, e⟩ := zB_s e
          refine zF_blk (m := []) (d := 0) (b := B227_12) (gs := [0 ≤ 209 ∧ 209 < 2140]) (c' := (239, [some (22, 0), none, none, none, some (0, v4), none, some (0, v6), some (0, v7), some (0, v8)], [(0, v8), (22, 0), (0, (h 14 209)), (0, v8), (0, v4), (22, 0)], (hc, h, o))) K227_12 rfl ⟨by decide, trivial⟩ ?_
          refine zF_call (k := 232) (cl := 12) (n := 2) (i := .invokevirtual 282) (args := [(22, 0), (0, v8)]) (rest := [(0, (h 14 209)), (0, v8), (0, v4), (22, 0)]) (g1 := (hc, h, o)) (r1 := some (0, r3)) (by decide +kernel) rfl rfl rfl (st' := [(0, r3), (0, (h 14 209)), (0, v8), (0, v4), (22, 0)]) rfl (S232 (Nat.le_trans (by decide) hd) v8 h _ q6) ?_
          obtain ⟨r4, q7, e⟩ := zB_s e
          refine zF_blk (m := []) (d := 0) (b := B227_13) (gs := []) (c' := (250, [some (22, 0), none, none, none, some (0, v4), none, some (0, v6), some (0, v7), some (0, v8)], [(0, v8), (22, 0), (0, v6), (0, v7), (0, (wadd (h 14 209) r3)), (0, v8), (0, v4), (22, 0)], (hc, h, o))) K227_13 rfl trivial ?_
          refine zF_call (k := 229) (cl := 12) (n := 2) (i := .invokevirtual 276) (args := [(22, 0), (0, v8)]) (rest := [(0, v6), (0, v7), (0, (wadd (h 14 209) r3)), (0, v8), (0, v4), (22, 0)]) (g1 := (hc, h, o)) (r1 := some (0, r4)) (by decide +kernel) rfl rfl rfl (st' := [(0, r4), (0, v6), (0, v7), (0, (wadd (h 14 209) r3)), (0, v8), (0, v4), (22, 0)]) rfl (S229 (Nat.le_trans (by decide) hd) v8 h _ q7) ?_
          obtain ⟨r5, q8, e⟩ := zB_s e
          refine zF_call (k := 230) (cl := 12) (n := 2) (i := .invokestatic 279) (args := [(0, v6), (0, r4)]) (rest := [(0, v7), (0, (wadd (h 14 209) r3)), (0, v8), (0, v4), (22, 0)]) (g1 := (hc, h, o)) (r1 := some (0, r5)) (by decide +kernel) rfl rfl rfl (st' := [(0, r5), (0, v7), (0, (wadd (h 14 209) r3)), (0, v8), (0, v4), (22, 0)]) rfl (S230 (Nat.le_trans (by decide) hd) v6 r4 h _ q8) ?_
          obtain ⟨r6, q9, e⟩ := zB_s e
          refine zF_blk (m := []) (d := 0) (b := B227_14) (gs := [¬ 2 = 0]) (c' := (259, [some (22, 0), none, none, none, some (0, v4), none, some (0, v6), some (0, v7), some (0, v8)], [(0, (wsub v7 (wdiv r5 2))), (0, (wadd (h 14 209) r3)), (0, v8), (0, v4), (22, 0)], (hc, h, o))) K227_14 rfl ⟨by decide, trivial⟩ ?_
          refine zF_call (k := 233) (cl := 12) (n := 5) (i := .invokevirtual 285) (args := [(22, 0), (0, v4), (0, v8), (0, (wadd (h 14 209) r3)), (0, (wsub v7 (wdiv r5 2)))]) (rest := []) (g1 := (hc, r6, o)) (r1 := none) (by decide +kernel) rfl rfl rfl (st' := []) rfl (S233 (Nat.le_trans (by decide) hd) v4 v8 (wadd (h 14 209) r3) (wsub v7 (wdiv r5 2)) h _ q9) ?_
          exact T227_2 hd (F227_1 n) hk0 v4 v6 v7 v8 r6 _ e
def F227_0 : Nat → Int → Int → Int → Int → zHM → Option (Int × zHM)
  | 0, _, _, _, _, _ => none
  | n + 1, v4, v5, v6, v7, h => if 18 ≤ v7 then zG (0 ≤ (wadd v5 4) ∧ (wadd v5 4) < 2140) (F227_1 zFu v4 v6 ((mset h 14 216 (wadd (h 14 216) 1)) 14 (wadd v5 4)) 0 (mset h 14 216 (wadd (h 14 216) 1))) else zG (0 ≤ (wadd (wadd 457 (wmul 18 v4)) v7) ∧ (wadd (wadd 457 (wmul 18 v4)) v7) < 2140) ((F227_0 n) v4 v5 v6 (wadd v7 1) (mset h 14 (wadd (wadd 457 (wmul 18 v4)) v7) 0))
set_option maxRecDepth 100000 in
theorem T227_0 {spec : zRn zH2} {hc : zHC} {o : Int → Int} {d : Nat} (hd : 2 ≤ d) : ∀ (n : Nat) (v4 : Int) (v5 : Int) (v6 : Int) (v7 : Int) (h : zHM) (v : (Int × zHM)), F227_0 n v4 v5 v6 v7 h = some v → zFin 0 (fun _ => 0) (zRu2 spec d) 227 (some (0, v.1)) (hc, v.2, o) (134, [some (22, 0), none, none, none, some (0, v4), some (0, v5), some (0, v6), some (0, v7), none], [], (hc, h, o)) := by
  intro n
  induction n with
  | zero => intro v4 v5 v6 v7 h v e; unfold F227_0 at e; cases e
  | succ n hk0 =>
    intro v4 v5 v6 v7 h v e
    unfold F227_0 at e
    rcases zI_s e with ⟨q1, e⟩ | ⟨q1, e⟩
    · refine zF_blk (m := []) (d := 1) (b := B227_9) (gs := [18 ≤ v7]) (c' := (165, [some (22, 0), none, none, none, some (0, v4), some (0, v5), some (0, v6), some (0, v7), none], [], (hc, h, o))) K227_9 rfl ⟨q1, trivial⟩ ?_
      obtain ⟨q2, e⟩ := zG_s e
      refine zF_blk (m := []) (d := 0) (b := B227_5) (gs := [0 ≤ 216 ∧ 216 < 2140, 0 ≤ 216 ∧ 216 < 2140, 0 ≤ (wadd v5 4) ∧ (wadd v5 4) < 2140]) (c' := (191, [some (22, 0), none, none, none, some (0, v4), some (0, v5), some (0, v6), some (0, ((mset h 14 216 (wadd (h 14 216) 1)) 14 (wadd v5 4))), some (0, 0)], [], (hc, (mset h 14 216 (wadd (h 14 216) 1)), o))) K227_5 rfl ⟨by decide, by decide, q2, trivial⟩ ?_
      refine zF_blk (m := [true, false, false, false, true, false, true, true, true]) (d := 0) (b := []) (gs := []) (c' := (191, [some (22, 0), none, none, none, some (0, v4), none, some (0, v6), some (0, ((mset h 14 216 (wadd (h 14 216) 1)) 14 (wadd v5 4))), some (0, 0)], [], (hc, (mset h 14 216 (wadd (h 14 216) 1)), o))) rfl rfl trivial ?_
      exact T227_1 hd zFu v4 v6 ((mset h 14 216 (wadd (h 14 216) 1)) 14 (wadd v5 4)) 0 (mset h 14 216 (wadd (h 14 216) 1)) _ e
    · refine zF_blk (m := []) (d := 0) (b := B227_9) (gs := [¬ (18 ≤ v7)]) (c' := (141, [some (22, 0), none, none, none, some (0, v4), some (0, v5), some (0, v6), some (0, v7), none], [], (hc, h, o))) K227_9 rfl ⟨q1, trivial⟩ ?_
      obtain ⟨q3, e⟩ := zG_s e
      refine zF_blk (m := []) (d := 0) (b := B227_6) (gs := []) (c' := (152, [some (22, 0), none, none, none, some (0, v4), some (0, v5), some (0, v6), some (0, v7), none], [(0, v4), (0, 18), (0, 457), (1344370422, 0)], (hc, h, o))) K227_6 rfl trivial ?_
      refine zF_blk (m := []) (d := 0) (b := B227_7) (gs := []) (c' := (153, [some (22, 0), none, none, none, some (0, v4), some (0, v5), some (0, v6), some (0, v7), none], [(0, (wmul 18 v4)), (0, 457), (1344370422, 0)], (hc, h, o))) K227_7 rfl trivial ?_
      refine zF_blk (m := []) (d := 0) (b := B227_8) (gs := [0 ≤ (wadd (wadd 457 (wmul 18 v4)) v7) ∧ (wadd (wadd 457 (wmul 18 v4)) v7) < 2140]) (c' := (134, [some (22, 0), none, none, none, some (0, v4), some (0, v5), some (0, v6), some (0, (wadd v7 1)), none], [], (hc, (mset h 14 (wadd (wadd 457 (wmul 18 v4)) v7) 0), o))) K227_8 rfl ⟨q3, trivial⟩ ?_
      exact hk0 v4 v5 v6 (wadd v7 1) (mset h 14 (wadd (wadd 457 (wmul 18 v4)) v7) 0) _ e
/-- EchoValeModel.sayIt(III)I -/
def F227 (v1 : Int) (v2 : Int) (v3 : Int) (h : zHM) : Option (Int × zHM) := zG (0 ≤ (wadd 210 v1) ∧ (wadd 210 v1) < 2140) (zG (0 ≤ (wadd (wadd 217 (wmul 8 (h 14 216))) 0) ∧ (wadd (wadd 217 (wmul 8 (h 14 216))) 0) < 2140) (zG (0 ≤ (wadd (wadd 217 (wmul 8 (h 14 216))) 1) ∧ (wadd (wadd 217 (wmul 8 (h 14 216))) 1) < 2140) (zG (0 ≤ (wadd (wadd 217 (wmul 8 (h 14 216))) 2) ∧ (wadd (wadd 217 (wmul 8 (h 14 216))) 2) < 2140) (zG (0 ≤ (wadd (wadd 217 (wmul 8 (h 14 216))) 3) ∧ (wadd (wadd 217 (wmul 8 (h 14 216))) 3) < 2140) ((F228 (h 14 (wadd 210 v1)) v3 (mset (mset (mset (mset h 14 (wadd (wadd 217 (wmul 8 (h 14 216))) 0) v2) 14 (wadd (wadd 217 (wmul 8 (h 14 216))) 1) v1) 14 (wadd (wadd 217 (wmul 8 (h 14 216))) 2) ((mset (mset h 14 (wadd (wadd 217 (wmul 8 (h 14 216))) 0) v2) 14 (wadd (wadd 217 (wmul 8 (h 14 216))) 1) v1) 14 209)) 14 (wadd (wadd 217 (wmul 8 (h 14 216))) 3) (h 14 (wadd 210 v1)))).bind fun r1 => zG (0 ≤ (wadd (wadd 217 (wmul 8 (h 14 216))) 4) ∧ (wadd (wadd 217 (wmul 8 (h 14 216))) 4) < 2140) (zG (0 ≤ (wadd (wadd 217 (wmul 8 (h 14 216))) 5) ∧ (wadd (wadd 217 (wmul 8 (h 14 216))) 5) < 2140) (zG (0 ≤ (wadd (wadd 217 (wmul 8 (h 14 216))) 6) ∧ (wadd (wadd 217 (wmul 8 (h 14 216))) 6) < 2140) (zG (0 ≤ (wadd (wadd 217 (wmul 8 (h 14 216))) 7) ∧ (wadd (wadd 217 (wmul 8 (h 14 216))) 7) < 2140) (F227_0 zFu (h 14 216) (wadd 217 (wmul 8 (h 14 216))) (h 14 (wadd 210 v1)) 0 (mset (mset (mset (mset (mset (mset (mset (mset h 14 (wadd (wadd 217 (wmul 8 (h 14 216))) 0) v2) 14 (wadd (wadd 217 (wmul 8 (h 14 216))) 1) v1) 14 (wadd (wadd 217 (wmul 8 (h 14 216))) 2) ((mset (mset h 14 (wadd (wadd 217 (wmul 8 (h 14 216))) 0) v2) 14 (wadd (wadd 217 (wmul 8 (h 14 216))) 1) v1) 14 209)) 14 (wadd (wadd 217 (wmul 8 (h 14 216))) 3) (h 14 (wadd 210 v1))) 14 (wadd (wadd 217 (wmul 8 (h 14 216))) 4) r1) 14 (wadd (wadd 217 (wmul 8 (h 14 216))) 5) (wshl 1 v1)) 14 (wadd (wadd 217 (wmul 8 (h 14 216))) 6) 0) 14 (wadd (wadd 217 (wmul 8 (h 14 216))) 7) 0))))))))))
set_option maxRecDepth 100000 in
theorem S227 {spec : zRn zH2} {hc : zHC} {o : Int → Int} {d : Nat} (hd : 3 ≤ d) (v1 : Int) (v2 : Int) (v3 : Int) (h : zHM) (v : (Int × zHM)) (e : F227 v1 v2 v3 h = some v) : zRu2 spec d 227 [(22, 0), (0, v1), (0, v2), (0, v3)] (hc, h, o) (some (0, v.1)) (hc, v.2, o) := by
  refine zF_in (D := 2) (mx := 9) (L := [some (22, 0), some (0, v1), some (0, v2), some (0, v3), none, none, none, none, none]) (by decide +kernel) rfl rfl hd (fun d hd => ?_)
  unfold F227 at e
  obtain ⟨q1, e⟩ := zG_s e
  obtain ⟨q2, e⟩ := zG_s e
  obtain ⟨q3, e⟩ := zG_s e
  obtain ⟨q4, e⟩ := zG_s e
  obtain ⟨q5, e⟩ := zG_s e
  refine zF_blk (m := []) (d := 0) (b := B227_0) (gs := [0 ≤ 216 ∧ 216 < 2140]) (c' := (17, [some (22, 0), some (0, v1), some (0, v2), some (0, v3), some (0, (h 14 216)), none, none, none, none], [(0, (h 14 216)), (0, 8), (0, 217)], (hc, h, o))) K227_0 rfl ⟨by decide, trivial⟩ ?_
  refine zF_blk (m := []) (d := 0) (b := B227_1) (gs := []) (c' := (18, [some (22, 0), some (0, v1), some (0, v2), some (0, v3), some (0, (h 14 216)), none, none, none, none], [(0, (wmul 8 (h 14 216))), (0, 217)], (hc, h, o))) K227_1 rfl trivial ?_
  refine zF_blk (m := []) (d := 0) (b := B227_2) (gs := []) (c' := (29, [some (22, 0), some (0, v1), some (0, v2), some (0, v3), some (0, (h 14 216)), some (0, (wadd 217 (wmul 8 (h 14 216)))), none, none, none], [(0, v1), (0, 210), (1344370422, 0)], (hc, h, o))) K227_2 rfl trivial ?_
  obtain ⟨r1, q6, e⟩ := zB_s e
  refine zF_blk (m := []) (d := 0) (b := B227_3) (gs := [0 ≤ (wadd 210 v1) ∧ (wadd 210 v1) < 2140, 0 ≤ (wadd (wadd 217 (wmul 8 (h 14 216))) 0) ∧ (wadd (wadd 217 (wmul 8 (h 14 216))) 0) < 2140, 0 ≤ (wadd (wadd 217 (wmul 8 (h 14 216))) 1) ∧ (wadd (wadd 217 (wmul 8 (h 14 216))) 1) < 2140, 0 ≤ 209 ∧ 209 < 2140, 0 ≤ (wadd (wadd 217 (wmul 8 (h 14 216))) 2) ∧ (wadd (wadd 217 (wmul 8 (h 14 216))) 2) < 2140, 0 ≤ (wadd (wadd 217 (wmul 8 (h 14 216))) 3) ∧ (wadd (wadd 217 (wmul 8 (h 14 216))) 3) < 2140]) (c' := (93, [some (22, 0), some (0, v1), some (0, v2), some (0, v3), some (0, (h 14 216)), some (0, (wadd 217 (wmul 8 (h 14 216)))), some (0, (h 14 (wadd 210 v1))), none, none], [(0, v3), (0, (h 14 (wadd 210 v1))), (22, 0), (0, (wadd (wadd 217 (wmul 8 (h 14 216))) 4)), (1344370422, 0)], (hc, (mset (mset (mset (mset h 14 (wadd (wadd 217 (wmul 8 (h 14 216))) 0) v2) 14 (wadd (wadd 217 (wmul 8 (h 14 216))) 1) v1) 14 (wadd (wadd 217 (wmul 8 (h 14 216))) 2) ((mset (mset h 14 (wadd (wadd 217 (wmul 8 (h 14 216))) 0) v2) 14 (wadd (wadd 217 (wmul 8 (h 14 216))) 1) v1) 14 209)) 14 (wadd (wadd 217 (wmul 8 (h 14 216))) 3) (h 14 (wadd 210 v1))), o))) K227_3 rfl ⟨q1, q2, q3, by decide, q4, q5, trivial⟩ ?_
  refine zF_call (k := 228) (cl := 12) (n := 3) (i := .invokevirtual 273) (args := [(22, 0), (0, (h 14 (wadd 210 v1))), (0, v3)]) (rest := [(0, (wadd (wadd 217 (wmul 8 (h 14 216))) 4)), (1344370422, 0)]) (g1 := (hc, (mset (mset (mset (mset h 14 (wadd (wadd 217 (wmul 8 (h 14 216))) 0) v2) 14 (wadd (wadd 217 (wmul 8 (h 14 216))) 1) v1) 14 (wadd (wadd 217 (wmul 8 (h 14 216))) 2) ((mset (mset h 14 (wadd (wadd 217 (wmul 8 (h 14 216))) 0) v2) 14 (wadd (wadd 217 (wmul 8 (h 14 216))) 1) v1) 14 209)) 14 (wadd (wadd 217 (wmul 8 (h 14 216))) 3) (h 14 (wadd 210 v1))), o)) (r1 := some (0, r1)) (by decide +kernel) rfl rfl rfl (st' := [(0, r1), (0, (wadd (wadd 217 (wmul 8 (h 14 216))) 4)), (1344370422, 0)]) rfl (S228 (Nat.le_trans (by decide) hd) (h 14 (wadd 210 v1)) v3 (mset (mset (mset (mset h 14 (wadd (wadd 217 (wmul 8 (h 14 216))) 0) v2) 14 (wadd (wadd 217 (wmul 8 (h 14 216))) 1) v1) 14 (wadd (wadd 217 (wmul 8 (h 14 216))) 2) ((mset (mset h 14 (wadd (wadd 217 (wmul 8 (h 14 216))) 0) v2) 14 (wadd (wadd 217 (wmul 8 (h 14 216))) 1) v1) 14 209)) 14 (wadd (wadd 217 (wmul 8 (h 14 216))) 3) (h 14 (wadd 210 v1))) _ q6) ?_
  obtain ⟨q7, e⟩ := zG_s e
  obtain ⟨q8, e⟩ := zG_s e
  obtain ⟨q9, e⟩ := zG_s e
  obtain ⟨q10, e⟩ := zG_s e
  refine zF_blk (m := []) (d := 0) (b := B227_4) (gs := [0 ≤ (wadd (wadd 217 (wmul 8 (h 14 216))) 4) ∧ (wadd (wadd 217 (wmul 8 (h 14 216))) 4) < 2140, 0 ≤ (wadd (wadd 217 (wmul 8 (h 14 216))) 5) ∧ (wadd (wadd 217 (wmul 8 (h 14 216))) 5) < 2140, 0 ≤ (wadd (wadd 217 (wmul 8 (h 14 216))) 6) ∧ (wadd (wadd 217 (wmul 8 (h 14 216))) 6) < 2140, 0 ≤ (wadd (wadd 217 (wmul 8 (h 14 216))) 7) ∧ (wadd (wadd 217 (wmul 8 (h 14 216))) 7) < 2140]) (c' := (134, [some (22, 0), some (0, v1), some (0, v2), some (0, v3), some (0, (h 14 216)), some (0, (wadd 217 (wmul 8 (h 14 216)))), some (0, (h 14 (wadd 210 v1))), some (0, 0), none], [], (hc, (mset (mset (mset (mset (mset (mset (mset (mset h 14 (wadd (wadd 217 (wmul 8 (h 14 216))) 0) v2) 14 (wadd (wadd 217 (wmul 8 (h 14 216))) 1) v1) 14 (wadd (wadd 217 (wmul 8 (h 14 216))) 2) ((mset (mset h 14 (wadd (wadd 217 (wmul 8 (h 14 216))) 0) v2) 14 (wadd (wadd 217 (wmul 8 (h 14 216))) 1) v1) 14 209)) 14 (wadd (wadd 217 (wmul 8 (h 14 216))) 3) (h 14 (wadd 210 v1))) 14 (wadd (wadd 217 (wmul 8 (h 14 216))) 4) r1) 14 (wadd (wadd 217 (wmul 8 (h 14 216))) 5) (wshl 1 v1)) 14 (wadd (wadd 217 (wmul 8 (h 14 216))) 6) 0) 14 (wadd (wadd 217 (wmul 8 (h 14 216))) 7) 0), o))) K227_4 rfl ⟨q7, q8, q9, q10, trivial⟩ ?_
  refine zF_blk (m := [true, false, false, false, true, true, true, true, false]) (d := 0) (b := []) (gs := []) (c' := (134, [some (22, 0), none, none, none, some (0, (h 14 216)), some (0, (wadd 217 (wmul 8 (h 14 216)))), some (0, (h 14 (wadd 210 v1))), some (0, 0), none], [], (hc, (mset (mset (mset (mset (mset (mset (mset (mset h 14 (wadd (wadd 217 (wmul 8 (h 14 216))) 0) v2) 14 (wadd (wadd 217 (wmul 8 (h 14 216))) 1) v1) 14 (wadd (wadd 217 (wmul 8 (h 14 216))) 2) ((mset (mset h 14 (wadd (wadd 217 (wmul 8 (h 14 216))) 0) v2) 14 (wadd (wadd 217 (wmul 8 (h 14 216))) 1) v1) 14 209)) 14 (wadd (wadd 217 (wmul 8 (h 14 216))) 3) (h 14 (wadd 210 v1))) 14 (wadd (wadd 217 (wmul 8 (h 14 216))) 4) r1) 14 (wadd (wadd 217 (wmul 8 (h 14 216))) 5) (wshl 1 v1)) 14 (wadd (wadd 217 (wmul 8 (h 14 216))) 6) 0) 14 (wadd (wadd 217 (wmul 8 (h 14 216))) 7) 0), o))) rfl rfl trivial ?_
  exact T227_0 hd zFu (h 14 216) (wadd 217 (wmul 8 (h 14 216))) (h 14 (wadd 210 v1)) 0 (mset (mset (mset (mset (mset (mset (mset (mset h 14 (wadd (wadd 217 (wmul 8 (h 14 216))) 0) v2) 14 (wadd (wadd 217 (wmul 8 (h 14 216))) 1) v1) 14 (wadd (wadd 217 (wmul 8 (h 14 216))) 2) ((mset (mset h 14 (wadd (wadd 217 (wmul 8 (h 14 216))) 0) v2) 14 (wadd (wadd 217 (wmul 8 (h 14 216))) 1) v1) 14 209)) 14 (wadd (wadd 217 (wmul 8 (h 14 216))) 3) (h 14 (wadd 210 v1))) 14 (wadd (wadd 217 (wmul 8 (h 14 216))) 4) r1) 14 (wadd (wadd 217 (wmul 8 (h 14 216))) 5) (wshl 1 v1)) 14 (wadd (wadd 217 (wmul 8 (h 14 216))) 6) 0) 14 (wadd (wadd 217 (wmul 8 (h 14 216))) 7) 0) _ e
def B226_0 : List zRow := [(0, .aload_n 0, 1, (0, 0, 0)), (1, .iconst 0, 1, (0, 0, 0)), (2, .putfield 81, 3, (12, 0, 0)), (5, .aload_n 0, 1, (0, 0, 0)), (6, .iload_n 1, 1, (0, 0, 0))]
theorem K226_0 : zRk 226 B226_0 = true := by decide +kernel
def B226_1 : List zRow := [(46, .iconst (-1), 1, (0, 0, 0))]
theorem K226_1 : zRk 226 B226_1 = true := by decide +kernel
def B226_2 : List zRow := [(13, .iload_n 2, 1, (0, 0, 0)), (14, .iconst 1, 1, (0, 0, 0)), (15, .bipush 99, 2, (0, 0, 0))]
theorem K226_2 : zRk 226 B226_2 = true := by decide +kernel
def B226_3 : List zRow := [(23, .iload_n 3, 1, (0, 0, 0)), (24, .iconst 1, 1, (0, 0, 0)), (25, .bipush 9, 2, (0, 0, 0))]
theorem K226_3 : zRk 226 B226_3 = true := by decide +kernel
def B226_4 : List zRow := [(48, .aload_n 0, 1, (0, 0, 0))]
theorem K226_4 : zRk 226 B226_4 = true := by decide +kernel
def B226_5 : List zRow := [(52, .aload_n 0, 1, (0, 0, 0)), (53, .iload_n 1, 1, (0, 0, 0)), (54, .iload_n 2, 1, (0, 0, 0)), (55, .iload_n 3, 1, (0, 0, 0))]
theorem K226_5 : zRk 226 B226_5 = true := by decide +kernel
def B226_6 : List zRow := [(33, .aload_n 0, 1, (0, 0, 0)), (34, .getfield 13, 3, (12, 14, 5251442)), (37, .sipush 216, 3, (0, 0, 0)), (40, .iaload, 1, (0, 0, 0)), (41, .bipush 30, 2, (0, 0, 0)), (43, .if_icmp .ne 5, 3, (0, 0, 0))]
theorem K226_6 : zRk 226 B226_6 = true := by decide +kernel
def B226_7 : List zRow := [(30, .ifCond .eq 16, 3, (0, 0, 0))]
theorem K226_7 : zRk 226 B226_7 = true := by decide +kernel
def B226_8 : List zRow := [(20, .ifCond .eq 26, 3, (0, 0, 0))]
theorem K226_8 : zRk 226 B226_8 = true := by decide +kernel
def B226_9 : List zRow := [(10, .ifCond .eq 36, 3, (0, 0, 0))]
theorem K226_9 : zRk 226 B226_9 = true := by decide +kernel
/-- EchoValeModel.says(III)I -/
def F226 (v1 : Int) (v2 : Int) (v3 : Int) (h : zHM) : Option (Int × zHM) := (F210 v1 (mset h 0 0 0)).bind fun r1 => if r1 = 0 then some ((-1), (mset h 0 0 0)) else (F188 v2 1 99).bind fun r2 => if r2 = 0 then some ((-1), (mset h 0 0 0)) else (F188 v3 1 9).bind fun r3 => if r3 = 0 then some ((-1), (mset h 0 0 0)) else if ¬ (h 14 216) = 30 then (F225 (mset h 0 0 0)).bind fun r4 => (F227 v1 v2 v3 r4).bind fun r5 => some (r5.1, r5.2) else some ((-1), (mset h 0 0 0))
set_option maxRecDepth 100000 in
theorem S226 {spec : zRn zH2} {hc : zHC} {o : Int → Int} {d : Nat} (hd : 4 ≤ d) (v1 : Int) (v2 : Int) (v3 : Int) (h : zHM) (v : (Int × zHM)) (e : F226 v1 v2 v3 h = some v) : zRu2 spec d 226 [(22, 0), (0, v1), (0, v2), (0, v3)] (hc, h, o) (some (0, v.1)) (hc, v.2, o) := by
  refine zF_in (D := 3) (mx := 4) (L := [some (22, 0), some (0, v1), some (0, v2), some (0, v3)]) (by decide +kernel) rfl rfl hd (fun d hd => ?_)
  unfold F226 at e
  obtain ⟨r1, q1, e⟩ := zB_s e
  refine zF_blk (m := []) (d := 0) (b := B226_0) (gs := []) (c' := (7, [some (22, 0), some (0, v1), some (0, v2), some (0, v3)], [(0, v1), (22, 0)], (hc, (mset h 0 0 0), o))) K226_0 rfl trivial ?_
  refine zF_call (k := 210) (cl := 12) (n := 2) (i := .invokevirtual 260) (args := [(22, 0), (0, v1)]) (rest := []) (g1 := (hc, (mset h 0 0 0), o)) (r1 := some (0, r1)) (by decide +kernel) rfl rfl rfl (st' := [(0, r1)]) rfl (S210 (Nat.le_trans (by decide) hd) v1 (mset h 0 0 0) _ q1) ?_
  rcases zI_s e with ⟨q2, e⟩ | ⟨q2, e⟩
  · refine zF_blk (m := []) (d := 1) (b := B226_9) (gs := [r1 = 0]) (c' := (46, [some (22, 0), some (0, v1), some (0, v2), some (0, v3)], [], (hc, (mset h 0 0 0), o))) K226_9 rfl ⟨q2, trivial⟩ ?_
    refine zF_blk (m := []) (d := 0) (b := B226_1) (gs := []) (c' := (47, [some (22, 0), some (0, v1), some (0, v2), some (0, v3)], [(0, (-1))], (hc, (mset h 0 0 0), o))) K226_1 rfl trivial ?_
    exact zF_riM (by decide +kernel) e
  · refine zF_blk (m := []) (d := 0) (b := B226_9) (gs := [¬ (r1 = 0)]) (c' := (13, [some (22, 0), some (0, v1), some (0, v2), some (0, v3)], [], (hc, (mset h 0 0 0), o))) K226_9 rfl ⟨q2, trivial⟩ ?_
    obtain ⟨r2, q3, e⟩ := zB_s e
    refine zF_blk (m := []) (d := 0) (b := B226_2) (gs := []) (c' := (17, [some (22, 0), some (0, v1), some (0, v2), some (0, v3)], [(0, 99), (0, 1), (0, v2)], (hc, (mset h 0 0 0), o))) K226_2 rfl trivial ?_
    refine zF_call (k := 188) (cl := 12) (n := 3) (i := .invokestatic 151) (args := [(0, v2), (0, 1), (0, 99)]) (rest := []) (g1 := (hc, (mset h 0 0 0), o)) (r1 := some (0, r2)) (by decide +kernel) rfl rfl rfl (st' := [(0, r2)]) rfl (S188 (Nat.le_trans (by decide) hd) v2 1 99 (mset h 0 0 0) _ q3) ?_
    rcases zI_s e with ⟨q4, e⟩ | ⟨q4, e⟩
    · refine zF_blk (m := []) (d := 1) (b := B226_8) (gs := [r2 = 0]) (c' := (46, [some (22, 0), some (0, v1), some (0, v2), some (0, v3)], [], (hc, (mset h 0 0 0), o))) K226_8 rfl ⟨q4, trivial⟩ ?_
      refine zF_blk (m := []) (d := 0) (b := B226_1) (gs := []) (c' := (47, [some (22, 0), some (0, v1), some (0, v2), some (0, v3)], [(0, (-1))], (hc, (mset h 0 0 0), o))) K226_1 rfl trivial ?_
      exact zF_riM (by decide +kernel) e
    · refine zF_blk (m := []) (d := 0) (b := B226_8) (gs := [¬ (r2 = 0)]) (c' := (23, [some (22, 0), some (0, v1), some (0, v2), some (0, v3)], [], (hc, (mset h 0 0 0), o))) K226_8 rfl ⟨q4, trivial⟩ ?_
      obtain ⟨r3, q5, e⟩ := zB_s e
      refine zF_blk (m := []) (d := 0) (b := B226_3) (gs := []) (c' := (27, [some (22, 0), some (0, v1), some (0, v2), some (0, v3)], [(0, 9), (0, 1), (0, v3)], (hc, (mset h 0 0 0), o))) K226_3 rfl trivial ?_
      refine zF_call (k := 188) (cl := 12) (n := 3) (i := .invokestatic 151) (args := [(0, v3), (0, 1), (0, 9)]) (rest := []) (g1 := (hc, (mset h 0 0 0), o)) (r1 := some (0, r3)) (by decide +kernel) rfl rfl rfl (st' := [(0, r3)]) rfl (S188 (Nat.le_trans (by decide) hd) v3 1 9 (mset h 0 0 0) _ q5) ?_
      rcases zI_s e with ⟨q6, e⟩ | ⟨q6, e⟩
      · refine zF_blk (m := []) (d := 1) (b := B226_7) (gs := [r3 = 0]) (c' := (46, [some (22, 0), some (0, v1), some (0, v2), some (0, v3)], [], (hc, (mset h 0 0 0), o))) K226_7 rfl ⟨q6, trivial⟩ ?_
        refine zF_blk (m := []) (d := 0) (b := B226_1) (gs := []) (c' := (47, [some (22, 0), some (0, v1), some (0, v2), some (0, v3)], [(0, (-1))], (hc, (mset h 0 0 0), o))) K226_1 rfl trivial ?_
        exact zF_riM (by decide +kernel) e
      · refine zF_blk (m := []) (d := 0) (b := B226_7) (gs := [¬ (r3 = 0)]) (c' := (33, [some (22, 0), some (0, v1), some (0, v2), some (0, v3)], [], (hc, (mset h 0 0 0), o))) K226_7 rfl ⟨q6, trivial⟩ ?_
        rcases zI_s e with ⟨q7, e⟩ | ⟨q7, e⟩
        · refine zF_blk (m := []) (d := 1) (b := B226_6) (gs := [0 ≤ 216 ∧ 216 < 2140, ¬ (h 14 216) = 30]) (c' := (48, [some (22, 0), some (0, v1), some (0, v2), some (0, v3)], [], (hc, (mset h 0 0 0), o))) K226_6 rfl ⟨by decide, q7, trivial⟩ ?_
          obtain ⟨r4, q8, e⟩ := zB_s e
          refine zF_blk (m := []) (d := 0) (b := B226_4) (gs := []) (c' := (49, [some (22, 0), some (0, v1), some (0, v2), some (0, v3)], [(22, 0)], (hc, (mset h 0 0 0), o))) K226_4 rfl trivial ?_
          refine zF_call (k := 225) (cl := 12) (n := 1) (i := .invokevirtual 308) (args := [(22, 0)]) (rest := []) (g1 := (hc, r4, o)) (r1 := none) (by decide +kernel) rfl rfl rfl (st' := []) rfl (S225 (Nat.le_trans (by decide) hd)  (mset h 0 0 0) _ q8) ?_
          obtain ⟨r5, q9, e⟩ := zB_s e
          refine zF_blk (m := []) (d := 0) (b := B226_5) (gs := []) (c' := (56, [some (22, 0), some (0, v1), some (0, v2), some (0, v3)], [(0, v3), (0, v2), (0, v1), (22, 0)], (hc, r4, o))) K226_5 rfl trivial ?_
          refine zF_call (k := 227) (cl := 12) (n := 4) (i := .invokevirtual 311) (args := [(22, 0), (0, v1), (0, v2), (0, v3)]) (rest := []) (g1 := (hc, r5.2, o)) (r1 := some (0, r5.1)) (by decide +kernel) rfl rfl rfl (st' := [(0, r5.1)]) rfl (S227 (Nat.le_trans (by decide) hd) v1 v2 v3 r4 _ q9) ?_
          exact zF_riM (by decide +kernel) e
        · refine zF_blk (m := []) (d := 0) (b := B226_6) (gs := [0 ≤ 216 ∧ 216 < 2140, ¬ (¬ (h 14 216) = 30)]) (c' := (46, [some (22, 0), some (0, v1), some (0, v2), some (0, v3)], [], (hc, (mset h 0 0 0), o))) K226_6 rfl ⟨by decide, q7, trivial⟩ ?_
          refine zF_blk (m := []) (d := 0) (b := B226_1) (gs := []) (c' := (47, [some (22, 0), some (0, v1), some (0, v2), some (0, v3)], [(0, (-1))], (hc, (mset h 0 0 0), o))) K226_1 rfl trivial ?_
          exact zF_riM (by decide +kernel) e
