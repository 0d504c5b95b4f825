/-! Functions of the methods, by wip/gen/lift.py. -/
def B265_0 : List zRow := [(39, .aload_n 0, 1, (0, 0, 0)), (40, .getfield 60, 3, (12, 31, 5242906)), (43, .iload_n 1, 1, (0, 0, 0)), (44, .iaload, 1, (0, 0, 0)), (45, .iload_n 3, 1, (0, 0, 0)), (46, .if_icmp .lt 4, 3, (0, 0, 0))]
theorem K265_0 : zRk 265 B265_0 = true := by decide +kernel
def B265_1 : List zRow := [(29, .aload_n 0, 1, (0, 0, 0)), (30, .getfield 57, 3, (12, 30, 5242906)), (33, .iload_n 1, 1, (0, 0, 0)), (34, .iaload, 1, (0, 0, 0)), (35, .iload_n 2, 1, (0, 0, 0)), (36, .if_icmp .ne 14, 3, (0, 0, 0))]
theorem K265_1 : zRk 265 B265_1 = true := by decide +kernel
def B265_2 : List zRow := [(19, .aload_n 0, 1, (0, 0, 0)), (20, .getfield 57, 3, (12, 30, 5242906)), (23, .iload_n 1, 1, (0, 0, 0)), (24, .iaload, 1, (0, 0, 0)), (25, .iload_n 2, 1, (0, 0, 0)), (26, .if_icmp .lt 23, 3, (0, 0, 0))]
theorem K265_2 : zRk 265 B265_2 = true := by decide +kernel
def B265_3 : List zRow := [(9, .aload_n 0, 1, (0, 0, 0)), (10, .getfield 57, 3, (12, 30, 5242906)), (13, .iload_n 1, 1, (0, 0, 0)), (14, .iaload, 1, (0, 0, 0)), (15, .iconst (-1), 1, (0, 0, 0)), (16, .if_icmp .eq 34, 3, (0, 0, 0))]
theorem K265_3 : zRk 265 B265_3 = true := by decide +kernel
def B265_4 : List zRow := [(0, .aload_n 0, 1, (0, 0, 0)), (1, .getfield 63, 3, (12, 32, 5242906)), (4, .iload_n 1, 1, (0, 0, 0)), (5, .iaload, 1, (0, 0, 0)), (6, .ifCond .gt 43, 3, (0, 0, 0))]
theorem K265_4 : zRk 265 B265_4 = true := by decide +kernel
def B265_5 : List zRow := [(50, .aload_n 0, 1, (0, 0, 0)), (51, .getfield 57, 3, (12, 30, 5242906)), (54, .iload_n 1, 1, (0, 0, 0)), (55, .iload_n 2, 1, (0, 0, 0)), (56, .iastore, 1, (0, 0, 0)), (57, .aload_n 0, 1, (0, 0, 0)), (58, .getfield 60, 3, (12, 31, 5242906)), (61, .iload_n 1, 1, (0, 0, 0)), (62, .iload_n 3, 1, (0, 0, 0)), (63, .iastore, 1, (0, 0, 0))]
theorem K265_5 : zRk 265 B265_5 = true := by decide +kernel
def F265_0 (v1 : Int) (v2 : Int) (v3 : Int) (h : zHM) : Option zHM := zG (0 ≤ v1 ∧ v1 < 6) (zG (0 ≤ v1 ∧ v1 < 6) (some (mset (mset h 30 v1 v2) 31 v1 v3)))
set_option maxRecDepth 100000 in
theorem T265_0 {spec : zRn zH2} {hc : zHC} {o : Int → Int} {d : Nat} (hd : 0 ≤ d) (v1 : Int) (v2 : Int) (v3 : Int) (h : zHM) (v : zHM) (e : F265_0 v1 v2 v3 h = some v) : zFin 0 (fun _ => 0) (zRu2 spec d) 265 none (hc, v, o) (50, [some (22, 0), some (0, v1), some (0, v2), some (0, v3)], [], (hc, h, o)) := by
  unfold F265_0 at e
  obtain ⟨q1, e⟩ := zG_s e
  obtain ⟨q1, e⟩ := zG_s e
  refine zF_blk (m := []) (d := 0) (b := B265_5) (gs := [0 ≤ v1 ∧ v1 < 6, 0 ≤ v1 ∧ v1 < 6]) (c' := (64, [some (22, 0), some (0, v1), some (0, v2), some (0, v3)], [], (hc, (mset (mset h 30 v1 v2) 31 v1 v3), o))) K265_5 rfl ⟨q1, q1, trivial⟩ ?_
  obtain rfl := Option.some.inj e
  exact zF_rv (by decide +kernel)
/-- EchoValeModel.cometh(III)V -/
def F265 (v1 : Int) (v2 : Int) (v3 : Int) (h : zHM) : Option zHM := zG (0 ≤ v1 ∧ v1 < 6) (if 0 < (h 32 v1) then some h else zG (0 ≤ v1 ∧ v1 < 6) (if (h 30 v1) = (-1) then F265_0 v1 v2 v3 h else zG (0 ≤ v1 ∧ v1 < 6) (if (h 30 v1) < v2 then some h else zG (0 ≤ v1 ∧ v1 < 6) (if ¬ (h 30 v1) = v2 then F265_0 v1 v2 v3 h else zG (0 ≤ v1 ∧ v1 < 6) (if (h 31 v1) < v3 then F265_0 v1 v2 v3 h else some h)))))
set_option maxRecDepth 100000 in
theorem S265 {spec : zRn zH2} {hc : zHC} {o : Int → Int} {d : Nat} (hd : 1 ≤ d) (v1 : Int) (v2 : Int) (v3 : Int) (h : zHM) (v : zHM) (e : F265 v1 v2 v3 h = some v) : zRu2 spec d 265 [(22, 0), (0, v1), (0, v2), (0, v3)] (hc, h, o) none (hc, v, o) := by
  refine zF_in (D := 0) (mx := 4) (L := [some (22, 0), some (0, v1), some (0, v2), some (0, v3)]) (by decide +kernel) rfl rfl hd (fun d hd => ?_)
  unfold F265 at e
  obtain ⟨q1, e⟩ := zG_s e
  rcases zI_s e with ⟨q2, e⟩ | ⟨q2, e⟩
  · refine zF_blk (m := []) (d := 1) (b := B265_4) (gs := [0 ≤ v1 ∧ v1 < 6, 0 < (h 32 v1)]) (c' := (49, [some (22, 0), some (0, v1), some (0, v2), some (0, v3)], [], (hc, h, o))) K265_4 rfl ⟨q1, q2, trivial⟩ ?_
    obtain rfl := Option.some.inj e
    exact zF_rv (by decide +kernel)
  · refine zF_blk (m := []) (d := 0) (b := B265_4) (gs := [0 ≤ v1 ∧ v1 < 6, ¬ (0 < (h 32 v1))]) (c' := (9, [some (22, 0), some (0, v1), some (0, v2), some (0, v3)], [], (hc, h, o))) K265_4 rfl ⟨q1, q2, trivial⟩ ?_
    obtain ⟨q3, e⟩ := zG_s e
    rcases zI_s e with ⟨q4, e⟩ | ⟨q4, e⟩
    · refine zF_blk (m := []) (d := 1) (b := B265_3) (gs := [0 ≤ v1 ∧ v1 < 6, (h 30 v1) = (-1)]) (c' := (50, [some (22, 0), some (0, v1), some (0, v2), some (0, v3)], [], (hc, h, o))) K265_3 rfl ⟨q3, q4, trivial⟩ ?_
      exact T265_0 hd v1 v2 v3 h _ e
    · refine zF_blk (m := []) (d := 0) (b := B265_3) (gs := [0 ≤ v1 ∧ v1 < 6, ¬ ((h 30 v1) = (-1))]) (c' := (19, [some (22, 0), some (0, v1), some (0, v2), some (0, v3)], [], (hc, h, o))) K265_3 rfl ⟨q3, q4, trivial⟩ ?_
      obtain ⟨q5, e⟩ := zG_s e
      rcases zI_s e with ⟨q6, e⟩ | ⟨q6, e⟩
      · refine zF_blk (m := []) (d := 1) (b := B265_2) (gs := [0 ≤ v1 ∧ v1 < 6, (h 30 v1) < v2]) (c' := (49, [some (22, 0), some (0, v1), some (0, v2), some (0, v3)], [], (hc, h, o))) K265_2 rfl ⟨q5, q6, trivial⟩ ?_
        obtain rfl := Option.some.inj e
        exact zF_rv (by decide +kernel)
      · refine zF_blk (m := []) (d := 0) (b := B265_2) (gs := [0 ≤ v1 ∧ v1 < 6, ¬ ((h 30 v1) < v2)]) (c' := (29, [some (22, 0), some (0, v1), some (0, v2), some (0, v3)], [], (hc, h, o))) K265_2 rfl ⟨q5, q6, trivial⟩ ?_
        obtain ⟨q7, e⟩ := zG_s e
        rcases zI_s e with ⟨q8, e⟩ | ⟨q8, e⟩
        · refine zF_blk (m := []) (d := 1) (b := B265_1) (gs := [0 ≤ v1 ∧ v1 < 6, ¬ (h 30 v1) = v2]) (c' := (50, [some (22, 0), some (0, v1), some (0, v2), some (0, v3)], [], (hc, h, o))) K265_1 rfl ⟨q7, q8, trivial⟩ ?_
          exact T265_0 hd v1 v2 v3 h _ e
        · refine zF_blk (m := []) (d := 0) (b := B265_1) (gs := [0 ≤ v1 ∧ v1 < 6, ¬ (¬ (h 30 v1) = v2)]) (c' := (39, [some (22, 0), some (0, v1), some (0, v2), some (0, v3)], [], (hc, h, o))) K265_1 rfl ⟨q7, q8, trivial⟩ ?_
          obtain ⟨q9, e⟩ := zG_s e
          rcases zI_s e with ⟨q10, e⟩ | ⟨q10, e⟩
          · refine zF_blk (m := []) (d := 1) (b := B265_0) (gs := [0 ≤ v1 ∧ v1 < 6, (h 31 v1) < v3]) (c' := (50, [some (22, 0), some (0, v1), some (0, v2), some (0, v3)], [], (hc, h, o))) K265_0 rfl ⟨q9, q10, trivial⟩ ?_
            exact T265_0 hd v1 v2 v3 h _ e
          · refine zF_blk (m := []) (d := 0) (b := B265_0) (gs := [0 ≤ v1 ∧ v1 < 6, ¬ ((h 31 v1) < v3)]) (c' := (49, [some (22, 0), some (0, v1), some (0, v2), some (0, v3)], [], (hc, h, o))) K265_0 rfl ⟨q9, q10, trivial⟩ ?_
            obtain rfl := Option.some.inj e
            exact zF_rv (by decide +kernel)
def B264_0 : List zRow := [(0, .aload_n 0, 1, (0, 0, 0)), (1, .getfield 13, 3, (12, 14, 5251442)), (4, .iconst 2, 1, (0, 0, 0)), (5, .iaload, 1, (0, 0, 0)), (6, .istore 4, 2, (0, 0, 0)), (8, .iconst 0, 1, (0, 0, 0)), (9, .istore 5, 2, (0, 0, 0))]
theorem K264_0 : zRk 264 B264_0 = true := by decide +kernel
def B264_1 : List zRow := [(48, .iconst 0, 1, (0, 0, 0)), (49, .istore 5, 2, (0, 0, 0))]
theorem K264_1 : zRk 264 B264_1 = true := by decide +kernel
def B264_2 : List zRow := [(18, .aload_n 0, 1, (0, 0, 0)), (19, .getfield 57, 3, (12, 30, 5242906)), (22, .iload 5, 2, (0, 0, 0)), (24, .iconst (-1), 1, (0, 0, 0)), (25, .iastore, 1, (0, 0, 0)), (26, .aload_n 0, 1, (0, 0, 0)), (27, .getfield 63, 3, (12, 32, 5242906)), (30, .iload 5, 2, (0, 0, 0)), (32, .iconst 0, 1, (0, 0, 0)), (33, .iastore, 1, (0, 0, 0)), (34, .aload_n 0, 1, (0, 0, 0)), (35, .getfield 66, 3, (12, 33, 5242906)), (38, .iload 5, 2, (0, 0, 0)), (40, .iconst 0, 1, (0, 0, 0)), (41, .iastore, 1, (0, 0, 0)), (42, .iinc 5 1, 3, (0, 0, 0)), (45, .goto (-34), 3, (0, 0, 0))]
theorem K264_2 : zRk 264 B264_2 = true := by decide +kernel
def B264_3 : List zRow := [(11, .iload 5, 2, (0, 0, 0)), (13, .iload 4, 2, (0, 0, 0)), (15, .if_icmp .ge 33, 3, (0, 0, 0))]
theorem K264_3 : zRk 264 B264_3 = true := by decide +kernel
def B264_4 : List zRow := [(97, .iconst 0, 1, (0, 0, 0)), (98, .istore 5, 2, (0, 0, 0))]
theorem K264_4 : zRk 264 B264_4 = true := by decide +kernel
def B264_5 : List zRow := [(58, .aload_n 0, 1, (0, 0, 0)), (59, .iload 5, 2, (0, 0, 0)), (61, .iload_n 1, 1, (0, 0, 0)), (62, .iload_n 3, 1, (0, 0, 0))]
theorem K264_5 : zRk 264 B264_5 = true := by decide +kernel
def B264_6 : List zRow := [(69, .aload_n 0, 1, (0, 0, 0)), (70, .iload 5, 2, (0, 0, 0)), (72, .iload_n 2, 1, (0, 0, 0)), (73, .aload_n 0, 1, (0, 0, 0)), (74, .iload 5, 2, (0, 0, 0))]
theorem K264_6 : zRk 264 B264_6 = true := by decide +kernel
def B264_7 : List zRow := [(79, .iadd, 1, (0, 0, 0)), (80, .aload_n 0, 1, (0, 0, 0)), (81, .iload 5, 2, (0, 0, 0)), (83, .iload_n 1, 1, (0, 0, 0)), (84, .iload_n 3, 1, (0, 0, 0))]
theorem K264_7 : zRk 264 B264_7 = true := by decide +kernel
def B264_8 : List zRow := [(66, .ifCond .le 25, 3, (0, 0, 0))]
theorem K264_8 : zRk 264 B264_8 = true := by decide +kernel
def B264_9 : List zRow := [(51, .iload 5, 2, (0, 0, 0)), (53, .iload 4, 2, (0, 0, 0)), (55, .if_icmp .ge 42, 3, (0, 0, 0))]
theorem K264_9 : zRk 264 B264_9 = true := by decide +kernel
def B264_10 : List zRow := [(91, .iinc 5 1, 3, (0, 0, 0)), (94, .goto (-43), 3, (0, 0, 0))]
theorem K264_10 : zRk 264 B264_10 = true := by decide +kernel
def B264_11 : List zRow := [(107, .iconst (-1), 1, (0, 0, 0)), (108, .istore 6, 2, (0, 0, 0)), (110, .iconst 0, 1, (0, 0, 0)), (111, .istore 7, 2, (0, 0, 0))]
theorem K264_11 : zRk 264 B264_11 = true := by decide +kernel
def B264_12 : List zRow := [(100, .iload 5, 2, (0, 0, 0)), (102, .iload 4, 2, (0, 0, 0)), (104, .if_icmp .ge 232, 3, (0, 0, 0))]
theorem K264_12 : zRk 264 B264_12 = true := by decide +kernel
def B264_13 : List zRow := [(181, .aload_n 0, 1, (0, 0, 0)), (182, .getfield 63, 3, (12, 32, 5242906)), (185, .iload 6, 2, (0, 0, 0)), (187, .iconst 1, 1, (0, 0, 0)), (188, .iastore, 1, (0, 0, 0)), (189, .aload_n 0, 1, (0, 0, 0)), (190, .getfield 60, 3, (12, 31, 5242906)), (193, .iload 6, 2, (0, 0, 0)), (195, .iaload, 1, (0, 0, 0)), (196, .aload_n 0, 1, (0, 0, 0)), (197, .iload 6, 2, (0, 0, 0))]
theorem K264_13 : zRk 264 B264_13 = true := by decide +kernel
def B264_14 : List zRow := [(202, .aload_n 0, 1, (0, 0, 0)), (203, .aload_n 0, 1, (0, 0, 0)), (204, .getfield 57, 3, (12, 30, 5242906)), (207, .iload 6, 2, (0, 0, 0)), (209, .iaload, 1, (0, 0, 0))]
theorem K264_14 : zRk 264 B264_14 = true := by decide +kernel
def B264_15 : List zRow := [(213, .isub, 1, (0, 0, 0))]
theorem K264_15 : zRk 264 B264_15 = true := by decide +kernel
def B264_16 : List zRow := [(234, .iload 7, 2, (0, 0, 0))]
theorem K264_16 : zRk 264 B264_16 = true := by decide +kernel
def B264_17 : List zRow := [(230, .iconst 0, 1, (0, 0, 0)), (231, .goto 5, 3, (0, 0, 0))]
theorem K264_17 : zRk 264 B264_17 = true := by decide +kernel
def B264_18 : List zRow := [(217, .istore 7, 2, (0, 0, 0)), (219, .aload_n 0, 1, (0, 0, 0)), (220, .getfield 66, 3, (12, 33, 5242906)), (223, .iload 6, 2, (0, 0, 0)), (225, .iload 7, 2, (0, 0, 0)), (227, .ifCond .ge 7, 3, (0, 0, 0))]
theorem K264_18 : zRk 264 B264_18 = true := by decide +kernel
def B264_19 : List zRow := [(174, .iload 6, 2, (0, 0, 0)), (176, .iconst (-1), 1, (0, 0, 0)), (177, .if_icmp .ne 4, 3, (0, 0, 0))]
theorem K264_19 : zRk 264 B264_19 = true := by decide +kernel
def B264_20 : List zRow := [(147, .aload_n 0, 1, (0, 0, 0)), (148, .getfield 57, 3, (12, 30, 5242906)), (151, .iload 7, 2, (0, 0, 0)), (153, .iaload, 1, (0, 0, 0)), (154, .aload_n 0, 1, (0, 0, 0)), (155, .getfield 57, 3, (12, 30, 5242906)), (158, .iload 6, 2, (0, 0, 0)), (160, .iaload, 1, (0, 0, 0)), (161, .if_icmp .ge 7, 3, (0, 0, 0))]
theorem K264_20 : zRk 264 B264_20 = true := by decide +kernel
def B264_21 : List zRow := [(141, .iload 6, 2, (0, 0, 0)), (143, .iconst (-1), 1, (0, 0, 0)), (144, .if_icmp .eq 20, 3, (0, 0, 0))]
theorem K264_21 : zRk 264 B264_21 = true := by decide +kernel
def B264_22 : List zRow := [(130, .aload_n 0, 1, (0, 0, 0)), (131, .getfield 57, 3, (12, 30, 5242906)), (134, .iload 7, 2, (0, 0, 0)), (136, .iaload, 1, (0, 0, 0)), (137, .iconst (-1), 1, (0, 0, 0)), (138, .if_icmp .eq 30, 3, (0, 0, 0))]
theorem K264_22 : zRk 264 B264_22 = true := by decide +kernel
def B264_23 : List zRow := [(120, .aload_n 0, 1, (0, 0, 0)), (121, .getfield 63, 3, (12, 32, 5242906)), (124, .iload 7, 2, (0, 0, 0)), (126, .iaload, 1, (0, 0, 0)), (127, .ifCond .ne 41, 3, (0, 0, 0))]
theorem K264_23 : zRk 264 B264_23 = true := by decide +kernel
def B264_24 : List zRow := [(113, .iload 7, 2, (0, 0, 0)), (115, .iload 4, 2, (0, 0, 0)), (117, .if_icmp .ge 57, 3, (0, 0, 0))]
theorem K264_24 : zRk 264 B264_24 = true := by decide +kernel
def B264_25 : List zRow := [(164, .iload 7, 2, (0, 0, 0)), (166, .istore 6, 2, (0, 0, 0))]
theorem K264_25 : zRk 264 B264_25 = true := by decide +kernel
def B264_26 : List zRow := [(168, .iinc 7 1, 3, (0, 0, 0)), (171, .goto (-58), 3, (0, 0, 0))]
theorem K264_26 : zRk 264 B264_26 = true := by decide +kernel
def B264_27 : List zRow := [(236, .iastore, 1, (0, 0, 0)), (237, .iconst 0, 1, (0, 0, 0)), (238, .istore 8, 2, (0, 0, 0))]
theorem K264_27 : zRk 264 B264_27 = true := by decide +kernel
def B264_28 : List zRow := [(252, .aload_n 0, 1, (0, 0, 0)), (253, .iload 6, 2, (0, 0, 0))]
theorem K264_28 : zRk 264 B264_28 = true := by decide +kernel
def B264_29 : List zRow := [(258, .aload_n 0, 1, (0, 0, 0)), (259, .iload 8, 2, (0, 0, 0))]
theorem K264_29 : zRk 264 B264_29 = true := by decide +kernel
def B264_30 : List zRow := [(295, .aload_n 0, 1, (0, 0, 0)), (296, .iload 8, 2, (0, 0, 0)), (298, .aload_n 0, 1, (0, 0, 0)), (299, .getfield 57, 3, (12, 30, 5242906)), (302, .iload 6, 2, (0, 0, 0)), (304, .iaload, 1, (0, 0, 0)), (305, .aload_n 0, 1, (0, 0, 0)), (306, .iload 8, 2, (0, 0, 0))]
theorem K264_30 : zRk 264 B264_30 = true := by decide +kernel
def B264_31 : List zRow := [(311, .iadd, 1, (0, 0, 0)), (312, .iload 7, 2, (0, 0, 0)), (314, .iconst 1, 1, (0, 0, 0)), (315, .isub, 1, (0, 0, 0)), (316, .iload 9, 2, (0, 0, 0)), (318, .iconst 2, 1, (0, 0, 0)), (319, .idiv, 1, (0, 0, 0)), (320, .isub, 1, (0, 0, 0))]
theorem K264_31 : zRk 264 B264_31 = true := by decide +kernel
def B264_32 : List zRow := [(283, .iload 7, 2, (0, 0, 0)), (285, .iconst 1, 1, (0, 0, 0)), (286, .isub, 1, (0, 0, 0)), (287, .iload 9, 2, (0, 0, 0)), (289, .iconst 2, 1, (0, 0, 0)), (290, .idiv, 1, (0, 0, 0)), (291, .isub, 1, (0, 0, 0)), (292, .ifCond .le 32, 3, (0, 0, 0))]
theorem K264_32 : zRk 264 B264_32 = true := by decide +kernel
def B264_33 : List zRow := [(276, .iload 9, 2, (0, 0, 0)), (278, .iload 7, 2, (0, 0, 0)), (280, .if_icmp .gt 44, 3, (0, 0, 0))]
theorem K264_33 : zRk 264 B264_33 = true := by decide +kernel
def B264_34 : List zRow := [(267, .istore 9, 2, (0, 0, 0)), (269, .iload 8, 2, (0, 0, 0)), (271, .iload 6, 2, (0, 0, 0)), (273, .if_icmp .eq 51, 3, (0, 0, 0))]
theorem K264_34 : zRk 264 B264_34 = true := by decide +kernel
def B264_35 : List zRow := [(247, .iload 7, 2, (0, 0, 0)), (249, .ifCond .le 81, 3, (0, 0, 0))]
theorem K264_35 : zRk 264 B264_35 = true := by decide +kernel
def B264_36 : List zRow := [(240, .iload 8, 2, (0, 0, 0)), (242, .iload 4, 2, (0, 0, 0)), (244, .if_icmp .ge 86, 3, (0, 0, 0))]
theorem K264_36 : zRk 264 B264_36 = true := by decide +kernel
def B264_37 : List zRow := [(324, .iinc 8 1, 3, (0, 0, 0)), (327, .goto (-87), 3, (0, 0, 0))]
theorem K264_37 : zRk 264 B264_37 = true := by decide +kernel
def B264_38 : List zRow := [(330, .iinc 5 1, 3, (0, 0, 0)), (333, .goto (-233), 3, (0, 0, 0))]
theorem K264_38 : zRk 264 B264_38 = true := by decide +kernel
def F264_9 (k0 : Int → Int → zHM → Option zHM) (v4 : Int) (v5 : Int) (h : zHM) : Option zHM := k0 v4 (wadd v5 1) h
set_option maxRecDepth 100000 in
theorem T264_9 {spec : zRn zH2} {hc : zHC} {o : Int → Int} {d : Nat} (hd : 3 ≤ d) (k0 : Int → Int → zHM → Option zHM) (hk0 : ∀ (v4 : Int) (v5 : Int) (h : zHM) (v : zHM), k0 v4 v5 h = some v → zFin 0 (fun _ => 0) (zRu2 spec d) 264 none (hc, v, o) (100, [some (22, 0), none, none, none, some (0, v4), some (0, v5), none, none, none, none], [], (hc, h, o))) (v4 : Int) (v5 : Int) (h : zHM) (v : zHM) (e : F264_9 k0 v4 v5 h = some v) : zFin 0 (fun _ => 0) (zRu2 spec d) 264 none (hc, v, o) (330, [some (22, 0), none, none, none, some (0, v4), some (0, v5), none, none, none, none], [], (hc, h, o)) := by
  unfold F264_9 at e
  refine zF_blk (m := []) (d := 0) (b := B264_38) (gs := []) (c' := (100, [some (22, 0), none, none, none, some (0, v4), some (0, (wadd v5 1)), none, none, none, none], [], (hc, h, o))) K264_38 rfl trivial ?_
  exact hk0 v4 (wadd v5 1) h _ e
def F264_10 (k0 : Int → Int → zHM → Option zHM) (k1 : Int → Int → Int → Int → Int → zHM → Option zHM) (v4 : Int) (v5 : Int) (v6 : Int) (v7 : Int) (v8 : Int) (h : zHM) : Option zHM := k1 v4 v5 v6 v7 (wadd v8 1) h
set_option maxRecDepth 100000 in
theorem T264_10 {spec : zRn zH2} {hc : zHC} {o : Int → Int} {d : Nat} (hd : 3 ≤ d) (k0 : Int → Int → zHM → Option zHM) (hk0 : ∀ (v4 : Int) (v5 : Int) (h : zHM) (v : zHM), k0 v4 v5 h = some v → zFin 0 (fun _ => 0) (zRu2 spec d) 264 none (hc, v, o) (100, [some (22, 0), none, none, none, some (0, v4), some (0, v5), none, none, none, none], [], (hc, h, o))) (k1 : Int → Int → Int → Int → Int → zHM → Option zHM) (hk1 : ∀ (v4 : Int) (v5 : Int) (v6 : Int) (v7 : Int) (v8 : Int) (h : zHM) (v : zHM), k1 v4 v5 v6 v7 v8 h = some v → zFin 0 (fun _ => 0) (zRu2 spec d) 264 none (hc, v, o) (240, [some (22, 0), none, none, none, some (0, v4), some (0, v5), some (0, v6), some (0, v7), some (0, v8), none], [], (hc, h, o))) (v4 : Int) (v5 : Int) (v6 : Int) (v7 : Int) (v8 : Int) (h : zHM) (v : zHM) (e : F264_10 k0 k1 v4 v5 v6 v7 v8 h = some v) : zFin 0 (fun _ => 0) (zRu2 spec d) 264 none (hc, v, o) (324, [some (22, 0), none, none, none, some (0, v4), some (0, v5), some (0, v6), some (0, v7), some (0, v8), none], [], (hc, h, o)) := by
  unfold F264_10 at e
  refine zF_blk (m := []) (d := 0) (b := B264_37) (gs := []) (c' := (240, [some (22, 0), none, none, none, some (0, v4), some (0, v5), some (0, v6), some (0, v7), some (0, (wadd v8 1)), none], [], (hc, h, o))) K264_37 rfl trivial ?_
  exact hk1 v4 v5 v6 v7 (wadd v8 1) h _ e
def F264_8 (k0 : Int → Int → zHM → Option zHM) : Nat → Int → Int → Int → Int → Int → zHM → Option zHM
  | 0, _, _, _, _, _, _ => none
  | n + 1, v4, v5, v6, v7, v8, h => if v4 ≤ v8 then F264_9 k0 v4 v5 h else if v7 ≤ 0 then F264_9 k0 v4 v5 h else (F229 v6 h).bind fun r1 => (F229 v8 h).bind fun r2 => (F230 r1 r2).bind fun r3 => if v8 = v6 then F264_10 k0 (F264_8 k0 n) v4 v5 v6 v7 v8 h else if v7 < r3 then F264_10 k0 (F264_8 k0 n) v4 v5 v6 v7 v8 h else if (wsub (wsub v7 1) (wdiv r3 2)) ≤ 0 then F264_10 k0 (F264_8 k0 n) v4 v5 v6 v7 v8 h else zG (0 ≤ v6 ∧ v6 < 6) ((F232 v8 h).bind fun r4 => (F265 v8 (wadd (h 30 v6) r4) (wsub (wsub v7 1) (wdiv r3 2)) h).bind fun r5 => F264_10 k0 (F264_8 k0 n) v4 v5 v6 v7 v8 r5)
set_option maxRecDepth 100000 in
theorem T264_8 {spec : zRn zH2} {hc : zHC} {o : Int → Int} {d : Nat} (hd : 3 ≤ d) (k0 : Int → Int → zHM → Option zHM) (hk0 : ∀ (v4 : Int) (v5 : Int) (h : zHM) (v : zHM), k0 v4 v5 h = some v → zFin 0 (fun _ => 0) (zRu2 spec d) 264 none (hc, v, o) (100, [some (22, 0), none, none, none, some (0, v4), some (0, v5), none, none, none, none], [], (hc, h, o))) : ∀ (n : Nat) (v4 : Int) (v5 : Int) (v6 : Int) (v7 : Int) (v8 : Int) (h : zHM) (v : zHM), F264_8 k0 n v4 v5 v6 v7 v8 h = some v → zFin 0 (fun _ => 0) (zRu2 spec d) 264 none (hc, v, o) (240, [some (22, 0), none, none, none, some (0, v4), some (0, v5), some (0, v6), some (0, v7), some (0, v8), none], [], (hc, h, o)) := by
  intro n
  induction n with
  | zero => intro v4 v5 v6 v7 v8 h v e; unfold F264_8 at e; cases e
  | succ n hk1 =>
    intro v4 v5 v6 v7 v8 h v e
    unfold F264_8 at e
    rcases zI_s e with ⟨q1, e⟩ | ⟨q1, e⟩
    · refine zF_blk (m := []) (d := 1) (b := B264_36) (gs := [v4 ≤ v8]) (c' := (330, [some (22, 0), none, none, none, some (0, v4), some (0, v5), some (0, v6), some (0, v7), some (0, v8), none], [], (hc, h, o))) K264_36 rfl ⟨q1, trivial⟩ ?_
      refine zF_blk (m := [true, false, false, false, true, true, false, false, false, false]) (d := 0) (b := []) (gs := []) (c' := (330, [some (22, 0), none, none, none, some (0, v4), some (0, v5), none, none, none, none], [], (hc, h, o))) rfl rfl trivial ?_
      exact T264_9 hd k0 hk0 v4 v5 h _ e
    · refine zF_blk (m := []) (d := 0) (b := B264_36) (gs := [¬ (v4 ≤ v8)]) (c' := (247, [some (22, 0), none, none, none, some (0, v4), some (0, v5), some (0, v6), some (0, v7), some (0, v8), none], [], (hc, h, o))) K264_36 rfl ⟨q1, trivial⟩ ?_
      rcases zI_s e with ⟨q2, e⟩ | ⟨q2, e⟩
      · refine zF_blk (m := []) (d := 1) (b := B264_35) (gs := [v7 ≤ 0]) (c' := (330, [some (22, 0), none, none, none, some (0, v4), some (0, v5), some (0, v6), some (0, v7), some (0, v8), none], [], (hc, h, o))) K264_35 rfl ⟨q2, trivial⟩ ?_
        refine zF_blk (m := [true, false, false, false, true, true, false, false, false, false]) (d := 0) (b := []) (gs := []) (c' := (330, [some (22, 0), none, none, none, some (0, v4), some (0, v5), none, none, none, none], [], (hc, h, o))) rfl rfl trivial ?_
        exact T264_9 hd k0 hk0 v4 v5 h _ e
      · refine zF_blk (m := []) (d := 0) (b := B264_35) (gs := [¬ (v7 ≤ 0)]) (c' := (252, [some (22, 0), none, none, none, some (0, v4), some (0, v5), some (0, v6), some (0, v7), some (0, v8), none], [], (hc, h, o))) K264_35 rfl ⟨q2, trivial⟩ ?_
        obtain ⟨r1, q3, e⟩ := zB_s e
        refine zF_blk (m := []) (d := 0) (b := B264_28) (gs := []) (c' := (255, [some (22, 0), none, none, none, some (0, v4), some (0, v5), some (0, v6), some (0, v7), some (0, v8), none], [(0, v6), (22, 0)], (hc, h, o))) K264_28 rfl trivial ?_
        refine zF_call (k := 229) (cl := 12) (n := 2) (i := .invokevirtual 276) (args := [(22, 0), (0, v6)]) (rest := []) (g1 := (hc, h, o)) (r1 := some (0, r1)) (by decide +kernel) rfl rfl rfl (st' := [(0, r1)]) rfl (S229 (Nat.le_trans (by decide) hd) v6 h _ q3) ?_
        obtain ⟨r2, q4, e⟩ := zB_s e
        refine zF_blk (m := []) (d := 0) (b := B264_29) (gs := []) (c' := (261, [some (22, 0), none, none, none, some (0, v4), some (0, v5), some (0, v6), some (0, v7), some (0, v8), none], [(0, v8), (22, 0), (0, r1)], (hc, h, o))) K264_29 rfl trivial ?_
        refine zF_call (k := 229) (cl := 12) (n := 2) (i := .invokevirtual 276) (args := [(22, 0), (0, v8)]) (rest := [(0, r1)]) (g1 := (hc, h, o)) (r1 := some (0, r2)) (by decide +kernel) rfl rfl rfl (st' := [(0, r2), (0, r1)]) rfl (S229 (Nat.le_trans (by decide) hd) v8 h _ q4) ?_
        obtain ⟨r3, q5, e⟩ := zB_s e
        refine zF_call (k := 230) (cl := 12) (n := 2) (i := .invokestatic 279) (args := [(0, r1), (0, r2)]) (rest := []) (g1 := (hc, h, o)) (r1 := some (0, r3)) (by decide +kernel) rfl rfl rfl (st' := [(0, r3)]) rfl (S230 (Nat.le_trans (by decide) hd) r1 r2 h _ q5) ?_
        rcases zI_s e with ⟨q6, e⟩ | ⟨q6, e⟩
        · refine zF_blk (m := []) (d := 1) (b := B264_34) (gs := [v8 = v6]) (c' := (324, [some (22, 0), none, none, none, some (0, v4), some (0, v5), some (0, v6), some (0, v7), some (0, v8), some (0, r3)], [], (hc, h, o))) K264_34 rfl ⟨q6, trivial⟩ ?_
          refine zF_blk (m := [true, false, false, false, true, true, true, true, true, false]) (d := 0) (b := []) (gs := []) (c' := (324, [some (22, 0), none, none, none, some (0, v4), some (0, v5), some (0, v6), some (0, v7), some (0, v8), none], [], (hc, h, o))) rfl rfl trivial ?_
          exact T264_10 hd k0 hk0 (F264_8 k0 n) hk1 v4 v5 v6 v7 v8 h _ e
        · refine zF_blk (m := []) (d := 0) (b := B264_34) (gs := [¬ (v8 = v6)]) (c' := (276, [some (22, 0), none, none, none, some (0, v4), some (0, v5), some (0, v6), some (0, v7), some (0, v8), some (0, r3)], [], (hc, h, o))) K264_34 rfl ⟨q6, trivial⟩ ?_
          rcases zI_s e with ⟨q7, e⟩ | ⟨q7, e⟩
          · refine zF_blk (m := []) (d := 1) (b := B264_33) (gs := [v7 < r3]) (c' := (324, [some (22, 0), none, none, none, some (0, v4), some (0, v5), some (0, v6), some (0, v7), some (0, v8), some (0, r3)], [], (hc, h, o))) K264_33 rfl ⟨q7, trivial⟩ ?_
            refine zF_blk (m := [true, false, false, false, true, true, true, true, true, false]) (d := 0) (b := []) (gs := []) (c' := (324, [some (22, 0), none, none, none, some (0, v4), some (0, v5), some (0, v6), some (0, v7), some (0, v8), none], [], (hc, h, o))) rfl rfl trivial ?_
            exact T264_10 hd k0 hk0 (F264_8 k0 n) hk1 v4 v5 v6 v7 v8 h _ e
          · refine zF_blk (m := []) (d := 0) (b := B264_33) (gs := [¬ (v7 < r3)]) (c' := (283, [some (22, 0), none, none, none, some (0, v4), some (0, v5), some (0, v6), some (0, v7), some (0, v8), some (0, r3)], [], (hc, h, o))) K264_33 rfl ⟨q7, trivial⟩ ?_
            rcases zI_s e with ⟨q8, e⟩ | ⟨q8, e⟩
            · refine zF_blk (m := []) (d := 1) (b := B264_32) (gs := [¬ 2 = 0, (wsub (wsub v7 1) (wdiv r3 2)) ≤ 0]) (c' := (324, [some (22, 0), none, none, none, some (0, v4), some (0, v5), some (0, v6), some (0, v7), some (0, v8), some (0, r3)], [], (hc, h, o))) K264_32 rfl ⟨by decide, q8, trivial⟩ ?_
              refine zF_blk (m := [true, false, false, false, true, true, true, true, true, false]) (d := 0) (b := []) (gs := []) (c' := (324, [some (22, 0), none, none, none, some (0, v4), some (0, v5), some (0, v6), some (0, v7), some (0, v8), none], [], (hc, h, o))) rfl rfl trivial ?_
              exact T264_10 hd k0 hk0 (F264_8 k0 n) hk1 v4 v5 v6 v7 v8 h _ e
            · refine zF_blk (m := []) (d := 0) (b := B264_32) (gs := [¬ 2 = 0, ¬ ((wsub (wsub v7 1) (wdiv r3 2)) ≤ 0)]) (c' := (295, [some (22, 0), none, none, none, some (0, v4), some (0, v5), some (0, v6), some (0, v7), some (0, v8), some (0, r3)], [], (hc, h, o))) K264_32 rfl ⟨by decide, q8, trivial⟩ ?_
              obtain ⟨q9, e⟩ := zG_s e
              obtain ⟨r4, q10, e⟩ := zB_s e
              refine zF_blk (m := []) (d := 0) (b := B264_30) (gs := [0 ≤ v6 ∧ v6 < 6]) (c' := (308, [some (22, 0), none, none, none, some (0, v4), some (0, v5), some (0, v6), some (0, v7), some (0, v8), some (0, r3)], [(0, v8), (22, 0), (0, (h 30 v6)), (0, v8), (22, 0)], (hc, h, o))) K264_30 rfl ⟨q9, trivial⟩ ?_
              refine zF_call (k := 232) (cl := 12) (n := 2) (i := .invokevirtual 282) (args := [(22, 0), (0, v8)]) (rest := [(0, (h 30 v6)), (0, v8), (22, 0)]) (g1 := (hc, h, o)) (r1 := some (0, r4)) (by decide +kernel) rfl rfl rfl (st' := [(0, r4), (0, (h 30 v6)), (0, v8), (22, 0)]) rfl (S232 (Nat.le_trans (by decide) hd) v8 h _ q10) ?_
              obtain ⟨r5, q11, e⟩ := zB_s e
              refine zF_blk (m := []) (d := 0) (b := B264_31) (gs := [¬ 2 = 0]) (c' := (321, [some (22, 0), none, none, none, some (0, v4), some (0, v5), some (0, v6), some (0, v7), some (0, v8), some (0, r3)], [(0, (wsub (wsub v7 1) (wdiv r3 2))), (0, (wadd (h 30 v6) r4)), (0, v8), (22, 0)], (hc, h, o))) K264_31 rfl ⟨by decide, trivial⟩ ?_
              refine zF_call (k := 265) (cl := 12) (n := 4) (i := .invokevirtual 342) (args := [(22, 0), (0, v8), (0, (wadd (h 30 v6) r4)), (0, (wsub (wsub v7 1) (wdiv r3 2)))]) (rest := []) (g1 := (hc, r5, o)) (r1 := none) (by decide +kernel) rfl rfl rfl (st' := []) rfl (S265 (Nat.le_trans (by decide) hd) v8 (wadd (h 30 v6) r4) (wsub (wsub v7 1) (wdiv r3 2)) h _ q11) ?_
              refine zF_blk (m := [true, false, false, false, true, true, true, true, true, false]) (d := 0) (b := []) (gs := []) (c' := (324, [some (22, 0), none, none, none, some (0, v4), some (0, v5), some (0, v6), some (0, v7), some (0, v8), none], [], (hc, r5, o))) rfl rfl trivial ?_
              exact T264_10 hd k0 hk0 (F264_8 k0 n) hk1 v4 v5 v6 v7 v8 r5 _ e
def F264_5 (k0 : Int → Int → zHM → Option zHM) (v4 : Int) (v5 : Int) (v6 : Int) (v7 : Int) (s0 : Int) (s1 : Int) (h : zHM) : Option zHM := zG (0 ≤ s1 ∧ s1 < 6) (F264_8 k0 zFu v4 v5 v6 v7 0 (mset h 33 s1 s0))
set_option maxRecDepth 100000 in
theorem T264_5 {spec : zRn zH2} {hc : zHC} {o : Int → Int} {d : Nat} (hd : 3 ≤ d) (k0 : Int → Int → zHM → Option zHM) (hk0 : ∀ (v4 : Int) (v5 : Int) (h : zHM) (v : zHM), k0 v4 v5 h = some v → zFin 0 (fun _ => 0) (zRu2 spec d) 264 none (hc, v, o) (100, [some (22, 0), none, none, none, some (0, v4), some (0, v5), none, none, none, none], [], (hc, h, o))) (v4 : Int) (v5 : Int) (v6 : Int) (v7 : Int) (s0 : Int) (s1 : Int) (h : zHM) (v : zHM) (e : F264_5 k0 v4 v5 v6 v7 s0 s1 h = some v) : zFin 0 (fun _ => 0) (zRu2 spec d) 264 none (hc, v, o) (236, [some (22, 0), none, none, none, some (0, v4), some (0, v5), some (0, v6), some (0, v7), none, none], [(0, s0), (0, s1), (1342185225, 0)], (hc, h, o)) := by
  unfold F264_5 at e
  obtain ⟨q1, e⟩ := zG_s e
  refine zF_blk (m := []) (d := 0) (b := B264_27) (gs := [0 ≤ s1 ∧ s1 < 6]) (c' := (240, [some (22, 0), none, none, none, some (0, v4), some (0, v5), some (0, v6), some (0, v7), some (0, 0), none], [], (hc, (mset h 33 s1 s0), o))) K264_27 rfl ⟨q1, trivial⟩ ?_
  exact T264_8 hd k0 hk0 zFu v4 v5 v6 v7 0 (mset h 33 s1 s0) _ e
def F264_6 (k0 : Int → Int → zHM → Option zHM) (k1 : Int → Int → Int → Int → zHM → Option zHM) (v4 : Int) (v5 : Int) (v6 : Int) (v7 : Int) (h : zHM) : Option zHM := k1 v4 v5 v6 (wadd v7 1) h
set_option maxRecDepth 100000 in
theorem T264_6 {spec : zRn zH2} {hc : zHC} {o : Int → Int} {d : Nat} (hd : 3 ≤ d) (k0 : Int → Int → zHM → Option zHM) (hk0 : ∀ (v4 : Int) (v5 : Int) (h : zHM) (v : zHM), k0 v4 v5 h = some v → zFin 0 (fun _ => 0) (zRu2 spec d) 264 none (hc, v, o) (100, [some (22, 0), none, none, none, some (0, v4), some (0, v5), none, none, none, none], [], (hc, h, o))) (k1 : Int → Int → Int → Int → zHM → Option zHM) (hk1 : ∀ (v4 : Int) (v5 : Int) (v6 : Int) (v7 : Int) (h : zHM) (v : zHM), k1 v4 v5 v6 v7 h = some v → zFin 0 (fun _ => 0) (zRu2 spec d) 264 none (hc, v, o) (113, [some (22, 0), none, none, none, some (0, v4), some (0, v5), some (0, v6), some (0, v7), none, none], [], (hc, h, o))) (v4 : Int) (v5 : Int) (v6 : Int) (v7 : Int) (h : zHM) (v : zHM) (e : F264_6 k0 k1 v4 v5 v6 v7 h = some v) : zFin 0 (fun _ => 0) (zRu2 spec d) 264 none (hc, v, o) (168, [some (22, 0), none, none, none, some (0, v4), some (0, v5), some (0, v6), some (0, v7), none, none], [], (hc, h, o)) := by
  unfold F264_6 at e
  refine zF_blk (m := []) (d := 0) (b := B264_26) (gs := []) (c' := (113, [some (22, 0), none, none, none, some (0, v4), some (0, v5), some (0, v6), some (0, (wadd v7 1)), none, none], [], (hc, h, o))) K264_26 rfl trivial ?_
  exact hk1 v4 v5 v6 (wadd v7 1) h _ e
def F264_7 (k0 : Int → Int → zHM → Option zHM) (k1 : Int → Int → Int → Int → zHM → Option zHM) (v4 : Int) (v5 : Int) (v7 : Int) (h : zHM) : Option zHM := F264_6 k0 k1 v4 v5 v7 v7 h
set_option maxRecDepth 100000 in
theorem T264_7 {spec : zRn zH2} {hc : zHC} {o : Int → Int} {d : Nat} (hd : 3 ≤ d) (k0 : Int → Int → zHM → Option zHM) (hk0 : ∀ (v4 : Int) (v5 : Int) (h : zHM) (v : zHM), k0 v4 v5 h = some v → zFin 0 (fun _ => 0) (zRu2 spec d) 264 none (hc, v, o) (100, [some (22, 0), none, none, none, some (0, v4), some (0, v5), none, none, none, none], [], (hc, h, o))) (k1 : Int → Int → Int → Int → zHM → Option zHM) (hk1 : ∀ (v4 : Int) (v5 : Int) (v6 : Int) (v7 : Int) (h : zHM) (v : zHM), k1 v4 v5 v6 v7 h = some v → zFin 0 (fun _ => 0) (zRu2 spec d) 264 none (hc, v, o) (113, [some (22, 0), none, none, none, some (0, v4), some (0, v5), some (0, v6), some (0, v7), none, none], [], (hc, h, o))) (v4 : Int) (v5 : Int) (v7 : Int) (h : zHM) (v : zHM) (e : F264_7 k0 k1 v4 v5 v7 h = some v) : zFin 0 (fun _ => 0) (zRu2 spec d) 264 none (hc, v, o) (164, [some (22, 0), none, none, none, some (0, v4), some (0, v5), none, some (0, v7), none, none], [], (hc, h, o)) := by
  unfold F264_7 at e
  refine zF_blk (m := []) (d := 0) (b := B264_25) (gs := []) (c' := (168, [some (22, 0), none, none, none, some (0, v4), some (0, v5), some (0, v7), some (0, v7), none, none], [], (hc, h, o))) K264_25 rfl trivial ?_
  exact T264_6 hd k0 hk0 k1 hk1 v4 v5 v7 v7 h _ e
def F264_4 (k0 : Int → Int → zHM → Option zHM) : Nat → Int → Int → Int → Int → zHM → Option zHM
  | 0, _, _, _, _, _ => none
  | n + 1, v4, v5, v6, v7, h => if v4 ≤ v7 then if ¬ v6 = (-1) then zG (0 ≤ v6 ∧ v6 < 6) (zG (0 ≤ v6 ∧ v6 < 6) ((F207 v6 (mset h 32 v6 1)).bind fun r1 => zG (0 ≤ v6 ∧ v6 < 6) ((F208 (h 30 v6) (mset h 32 v6 1)).bind fun r2 => (F238 (h 31 v6) (wsub r1 r2)).bind fun r3 => if 0 ≤ r3 then F264_5 k0 v4 v5 v6 r3 r3 v6 (mset h 32 v6 1) else F264_5 k0 v4 v5 v6 r3 0 v6 (mset h 32 v6 1)))) else some h else zG (0 ≤ v7 ∧ v7 < 6) (if ¬ (h 32 v7) = 0 then F264_6 k0 (F264_4 k0 n) v4 v5 v6 v7 h else zG (0 ≤ v7 ∧ v7 < 6) (if (h 30 v7) = (-1) then F264_6 k0 (F264_4 k0 n) v4 v5 v6 v7 h else if v6 = (-1) then F264_7 k0 (F264_4 k0 n) v4 v5 v7 h else zG (0 ≤ v7 ∧ v7 < 6) (zG (0 ≤ v6 ∧ v6 < 6) (if (h 30 v6) ≤ (h 30 v7) then F264_6 k0 (F264_4 k0 n) v4 v5 v6 v7 h else F264_7 k0 (F264_4 k0 n) v4 v5 v7 h))))
set_option maxRecDepth 100000 in
theorem T264_4 {spec : zRn zH2} {hc : zHC} {o : Int → Int} {d : Nat} (hd : 3 ≤ d) (k0 : Int → Int → zHM → Option zHM) (hk0 : ∀ (v4 : Int) (v5 : Int) (h : zHM) (v : zHM), k0 v4 v5 h = some v → zFin 0 (fun _ => 0) (zRu2 spec d) 264 none (hc, v, o) (100, [some (22, 0), none, none, none, some (0, v4), some (0, v5), none, none, none, none], [], (hc, h, o))) : ∀ (n : Nat) (v4 : Int) (v5 : Int) (v6 : Int) (v7 : Int) (h : zHM) (v : zHM), F264_4 k0 n v4 v5 v6 v7 h = some v → zFin 0 (fun _ => 0) (zRu2 spec d) 264 none (hc, v, o) (113, [some (22, 0), none, none, none, some (0, v4), some (0, v5), some (0, v6), some (0, v7), none, none], [], (hc, h, o)) := by
  intro n
  induction n with
  | zero => intro v4 v5 v6 v7 h v e; unfold F264_4 at e; cases e
  | succ n hk1 =>
    intro v4 v5 v6 v7 h v e
    unfold F264_4 at e
    rcases zI_s e with ⟨q1, e⟩ | ⟨q1, e⟩
    · refine zF_blk (m := []) (d := 1) (b := B264_24) (gs := [v4 ≤ v7]) (c' := (174, [some (22, 0), none, none, none, some (0, v4), some (0, v5), some (0, v6), some (0, v7), none, none], [], (hc, h, o))) K264_24 rfl ⟨q1, trivial⟩ ?_
      rcases zI_s e with ⟨q2, e⟩ | ⟨q2, e⟩
      · refine zF_blk (m := []) (d := 1) (b := B264_19) (gs := [¬ v6 = (-1)]) (c' := (181, [some (22, 0), none, none, none, some (0, v4), some (0, v5), some (0, v6), some (0, v7), none, none], [], (hc, h, o))) K264_19 rfl ⟨q2, trivial⟩ ?_
        obtain ⟨q3, e⟩ := zG_s e
        obtain ⟨q3, e⟩ := zG_s e
        obtain ⟨r1, q4, e⟩ := zB_s e
        refine zF_blk (m := []) (d := 0) (b := B264_13) (gs := [0 ≤ v6 ∧ v6 < 6, 0 ≤ v6 ∧ v6 < 6]) (c' := (199, [some (22, 0), none, none, none, some (0, v4), some (0, v5), some (0, v6), some (0, v7), none, none], [(0, v6), (22, 0), (0, (h 31 v6))], (hc, (mset h 32 v6 1), o))) K264_13 rfl ⟨q3, q3, trivial⟩ ?_
        refine zF_call (k := 207) (cl := 12) (n := 2) (i := .invokevirtual 241) (args := [(22, 0), (0, v6)]) (rest := [(0, (h 31 v6))]) (g1 := (hc, (mset h 32 v6 1), o)) (r1 := some (0, r1)) (by decide +kernel) rfl rfl rfl (st' := [(0, r1), (0, (h 31 v6))]) rfl (S207 (Nat.le_trans (by decide) hd) v6 (mset h 32 v6 1) _ q4) ?_
        obtain ⟨q5, e⟩ := zG_s e
        obtain ⟨r2, q6, e⟩ := zB_s e
        refine zF_blk (m := []) (d := 0) (b := B264_14) (gs := [0 ≤ v6 ∧ v6 < 6]) (c' := (210, [some (22, 0), none, none, none, some (0, v4), some (0, v5), some (0, v6), some (0, v7), none, none], [(0, (h 30 v6)), (22, 0), (0, r1), (0, (h 31 v6))], (hc, (mset h 32 v6 1), o))) K264_14 rfl ⟨q5, trivial⟩ ?_
        refine zF_call (k := 208) (cl := 12) (n := 2) (i := .invokevirtual 244) (args := [(22, 0), (0, (h 30 v6))]) (rest := [(0, r1), (0, (h 31 v6))]) (g1 := (hc, (mset h 32 v6 1), o)) (r1 := some (0, r2)) (by decide +kernel) rfl rfl rfl (st' := [(0, r2), (0, r1), (0, (h 31 v6))]) rfl (S208 (Nat.le_trans (by decide) hd) (h 30 v6) (mset h 32 v6 1) _ q6) ?_
        obtain ⟨r3, q7, e⟩ := zB_s e
        refine zF_blk (m := []) (d := 0) (b := B264_15) (gs := []) (c' := (214, [some (22, 0), none, none, none, some (0, v4), some (0, v5), some (0, v6), some (0, v7), none, none], [(0, (wsub r1 r2)), (0, (h 31 v6))], (hc, (mset h 32 v6 1), o))) K264_15 rfl trivial ?_
        refine zF_call (k := 238) (cl := 12) (n := 2) (i := .invokestatic 295) (args := [(0, (h 31 v6)), (0, (wsub r1 r2))]) (rest := []) (g1 := (hc, (mset h 32 v6 1), o)) (r1 := some (0, r3)) (by decide +kernel) rfl rfl rfl (st' := [(0, r3)]) rfl (S238 (Nat.le_trans (by decide) hd) (h 31 v6) (wsub r1 r2) (mset h 32 v6 1) _ q7) ?_
        rcases zI_s e with ⟨q8, e⟩ | ⟨q8, e⟩
        · refine zF_blk (m := []) (d := 1) (b := B264_18) (gs := [0 ≤ r3]) (c' := (234, [some (22, 0), none, none, none, some (0, v4), some (0, v5), some (0, v6), some (0, r3), none, none], [(0, v6), (1342185225, 0)], (hc, (mset h 32 v6 1), o))) K264_18 rfl ⟨q8, trivial⟩ ?_
          refine zF_blk (m := []) (d := 0) (b := B264_16) (gs := []) (c' := (236, [some (22, 0), none, none, none, some (0, v4), some (0, v5), some (0, v6), some (0, r3), none, none], [(0, r3), (0, v6), (1342185225, 0)], (hc, (mset h 32 v6 1), o))) K264_16 rfl trivial ?_
          exact T264_5 hd k0 hk0 v4 v5 v6 r3 r3 v6 (mset h 32 v6 1) _ e
        · refine zF_blk (m := []) (d := 0) (b := B264_18) (gs := [¬ (0 ≤ r3)]) (c' := (230, [some (22, 0), none, none, none, some (0, v4), some (0, v5), some (0, v6), some (0, r3), none, none], [(0, v6), (1342185225, 0)], (hc, (mset h 32 v6 1), o))) K264_18 rfl ⟨q8, trivial⟩ ?_
          refine zF_blk (m := []) (d := 0) (b := B264_17) (gs := []) (c' := (236, [some (22, 0), none, none, none, some (0, v4), some (0, v5), some (0, v6), some (0, r3), none, none], [(0, 0), (0, v6), (1342185225, 0)], (hc, (mset h 32 v6 1), o))) K264_17 rfl trivial ?_
          exact T264_5 hd k0 hk0 v4 v5 v6 r3 0 v6 (mset h 32 v6 1) _ e
      · refine zF_blk (m := []) (d := 0) (b := B264_19) (gs := [¬ (¬ v6 = (-1))]) (c' := (180, [some (22, 0), none, none, none, some (0, v4), some (0, v5), some (0, v6), some (0, v7), none, none], [], (hc, h, o))) K264_19 rfl ⟨q2, trivial⟩ ?_
        obtain rfl := Option.some.inj e
        exact zF_rv (by decide +kernel)
    · refine zF_blk (m := []) (d := 0) (b := B264_24) (gs := [¬ (v4 ≤ v7)]) (c' := (120, [some (22, 0), none, none, none, some (0, v4), some (0, v5), some (0, v6), some (0, v7), none, none], [], (hc, h, o))) K264_24 rfl ⟨q1, trivial⟩ ?_
      obtain ⟨q9, e⟩ := zG_s e
      rcases zI_s e with ⟨q10, e⟩ | ⟨q10, e⟩
      · refine zF_blk (m := []) (d := 1) (b := B264_23) (gs := [0 ≤ v7 ∧ v7 < 6, ¬ (h 32 v7) = 0]) (c' := (168, [some (22, 0), none, none, none, some (0, v4), some (0, v5), some (0, v6), some (0, v7), none, none], [], (hc, h, o))) K264_23 rfl ⟨q9, q10, trivial⟩ ?_
        exact T264_6 hd k0 hk0 (F264_4 k0 n) hk1 v4 v5 v6 v7 h _ e
      · refine zF_blk (m := []) (d := 0) (b := B264_23) (gs := [0 ≤ v7 ∧ v7 < 6, ¬ (¬ (h 32 v7) = 0)]) (c' := (130, [some (22, 0), none, none, none, some (0, v4), some (0, v5), some (0, v6), some (0, v7), none, none], [], (hc, h, o))) K264_23 rfl ⟨q9, q10, trivial⟩ ?_
        obtain ⟨q11, e⟩ := zG_s e
        rcases zI_s e with ⟨q12, e⟩ | ⟨q12, e⟩
        · refine zF_blk (m := []) (d := 1) (b := B264_22) (gs := [0 ≤ v7 ∧ v7 < 6, (h 30 v7) = (-1)]) (c' := (168, [some (22, 0), none, none, none, some (0, v4), some (0, v5), some (0, v6), some (0, v7), none, none], [], (hc, h, o))) K264_22 rfl ⟨q11, q12, trivial⟩ ?_
          exact T264_6 hd k0 hk0 (F264_4 k0 n) hk1 v4 v5 v6 v7 h _ e
        · refine zF_blk (m := []) (d := 0) (b := B264_22) (gs := [0 ≤ v7 ∧ v7 < 6, ¬ ((h 30 v7) = (-1))]) (c' := (141, [some (22, 0), none, none, none, some (0, v4), some (0, v5), some (0, v6), some (0, v7), none, none], [], (hc, h, o))) K264_22 rfl ⟨q11, q12, trivial⟩ ?_
          rcases zI_s e with ⟨q13, e⟩ | ⟨q13, e⟩
          · refine zF_blk (m := []) (d := 1) (b := B264_21) (gs := [v6 = (-1)]) (c' := (164, [some (22, 0), none, none, none, some (0, v4), some (0, v5), some (0, v6), some (0, v7), none, none], [], (hc, h, o))) K264_21 rfl ⟨q13, trivial⟩ ?_
            refine zF_blk (m := [true, false, false, false, true, true, false, true, false, false]) (d := 0) (b := []) (gs := []) (c' := (164, [some (22, 0), none, none, none, some (0, v4), some (0, v5), none, some (0, v7), none, none], [], (hc, h, o))) rfl rfl trivial ?_
            exact T264_7 hd k0 hk0 (F264_4 k0 n) hk1 v4 v5 v7 h _ e
          · refine zF_blk (m := []) (d := 0) (b := B264_21) (gs := [¬ (v6 = (-1))]) (c' := (147, [some (22, 0), none, none, none, some (0, v4), some (0, v5), some (0, v6), some (0, v7), none, none], [], (hc, h, o))) K264_21 rfl ⟨q13, trivial⟩ ?_
            obtain ⟨q14, e⟩ := zG_s e
            obtain ⟨q15, e⟩ := zG_s e
            rcases zI_s e with ⟨q16, e⟩ | ⟨q16, e⟩
            · refine zF_blk (m := []) (d := 1) (b := B264_20) (gs := [0 ≤ v7 ∧ v7 < 6, 0 ≤ v6 ∧ v6 < 6, (h 30 v6) ≤ (h 30 v7)]) (c' := (168, [some (22, 0), none, none, none, some (0, v4), some (0, v5), some (0, v6), some (0, v7), none, none], [], (hc, h, o))) K264_20 rfl ⟨q14, q15, q16, trivial⟩ ?_
              exact T264_6 hd k0 hk0 (F264_4 k0 n) hk1 v4 v5 v6 v7 h _ e
            · refine zF_blk (m := []) (d := 0) (b := B264_20) (gs := [0 ≤ v7 ∧ v7 < 6, 0 ≤ v6 ∧ v6 < 6, ¬ ((h 30 v6) ≤ (h 30 v7))]) (c' := (164, [some (22, 0), none, none, none, some (0, v4), some (0, v5), some (0, v6), some (0, v7), none, none], [], (hc, h, o))) K264_20 rfl ⟨q14, q15, q16, trivial⟩ ?_
              refine zF_blk (m := [true, false, false, false, true, true, false, true, false, false]) (d := 0) (b := []) (gs := []) (c' := (164, [some (22, 0), none, none, none, some (0, v4), some (0, v5), none, some (0, v7), none, none], [], (hc, h, o))) rfl rfl trivial ?_
              exact T264_7 hd k0 hk0 (F264_4 k0 n) hk1 v4 v5 v7 h _ e
def F264_2 : Nat → Int → Int → zHM → Option zHM
  | 0, _, _, _ => none
  | n + 1, v4, v5, h => if v4 ≤ v5 then some h else F264_4 (F264_2 n) zFu v4 v5 (-1) 0 h
set_option maxRecDepth 100000 in
theorem T264_2 {spec : zRn zH2} {hc : zHC} {o : Int → Int} {d : Nat} (hd : 3 ≤ d) : ∀ (n : Nat) (v4 : Int) (v5 : Int) (h : zHM) (v : zHM), F264_2 n v4 v5 h = some v → zFin 0 (fun _ => 0) (zRu2 spec d) 264 none (hc, v, o) (100, [some (22, 0), none, none, none, some (0, v4), some (0, v5), none, none, none, none], [], (hc, h, o)) := by
  intro n
  induction n with
  | zero => intro v4 v5 h v e; unfold F264_2 at e; cases e
  | succ n hk0 =>
    intro v4 v5 h v e
    unfold F264_2 at e
    rcases zI_s e with ⟨q1, e⟩ | ⟨q1, e⟩
    · refine zF_blk (m := []) (d := 1) (b := B264_12) (gs := [v4 ≤ v5]) (c' := (336, [some (22, 0), none, none, none, some (0, v4), some (0, v5), none, none, none, none], [], (hc, h, o))) K264_12 rfl ⟨q1, trivial⟩ ?_
      obtain rfl := Option.some.inj e
      exact zF_rv (by decide +kernel)
    · refine zF_blk (m := []) (d := 0) (b := B264_12) (gs := [¬ (v4 ≤ v5)]) (c' := (107, [some (22, 0), none, none, none, some (0, v4), some (0, v5), none, none, none, none], [], (hc, h, o))) K264_12 rfl ⟨q1, trivial⟩ ?_
      refine zF_blk (m := []) (d := 0) (b := B264_11) (gs := []) (c' := (113, [some (22, 0), none, none, none, some (0, v4), some (0, v5), some (0, (-1)), some (0, 0), none, none], [], (hc, h, o))) K264_11 rfl trivial ?_
      exact T264_4 hd (F264_2 n) hk0 zFu v4 v5 (-1) 0 h _ e
def F264_3 (k0 : Int → Int → Int → Int → Int → zHM → Option zHM) (v1 : Int) (v2 : Int) (v3 : Int) (v4 : Int) (v5 : Int) (h : zHM) : Option zHM := k0 v1 v2 v3 v4 (wadd v5 1) h
set_option maxRecDepth 100000 in
theorem T264_3 {spec : zRn zH2} {hc : zHC} {o : Int → Int} {d : Nat} (hd : 3 ≤ d) (k0 : Int → Int → Int → Int → Int → zHM → Option zHM) (hk0 : ∀ (v1 : Int) (v2 : Int) (v3 : Int) (v4 : Int) (v5 : Int) (h : zHM) (v : zHM), k0 v1 v2 v3 v4 v5 h = some v → zFin 0 (fun _ => 0) (zRu2 spec d) 264 none (hc, v, o) (51, [some (22, 0), some (0, v1), some (0, v2), some (0, v3), some (0, v4), some (0, v5), none, none, none, none], [], (hc, h, o))) (v1 : Int) (v2 : Int) (v3 : Int) (v4 : Int) (v5 : Int) (h : zHM) (v : zHM) (e : F264_3 k0 v1 v2 v3 v4 v5 h = some v) : zFin 0 (fun _ => 0) (zRu2 spec d) 264 none (hc, v, o) (91, [some (22, 0), some (0, v1), some (0, v2), some (0, v3), some (0, v4), some (0, v5), none, none, none, none], [], (hc, h, o)) := by
  unfold F264_3 at e
  refine zF_blk (m := []) (d := 0) (b := B264_10) (gs := []) (c' := (51, [some (22, 0), some (0, v1), some (0, v2), some (0, v3), some (0, v4), some (0, (wadd v5 1)), none, none, none, none], [], (hc, h, o))) K264_10 rfl trivial ?_
  exact hk0 v1 v2 v3 v4 (wadd v5 1) h _ e
def F264_1 : Nat → Int → Int → Int → Int → Int → zHM → Option zHM
  | 0, _, _, _, _, _, _ => none
  | n + 1, v1, v2, v3, v4, v5, h => if v4 ≤ v5 then F264_2 zFu v4 0 h else (F259 v5 v1 v3 h).bind fun r1 => if r1 ≤ 0 then F264_3 (F264_1 n) v1 v2 v3 v4 v5 h else (F232 v5 h).bind fun r2 => (F259 v5 v1 v3 h).bind fun r3 => (F265 v5 (wadd v2 r2) r3 h).bind fun r4 => F264_3 (F264_1 n) v1 v2 v3 v4 v5 r4
set_option maxRecDepth 100000 in
theorem T264_1 {spec : zRn zH2} {hc : zHC} {o : Int → Int} {d : Nat} (hd : 3 ≤ d) : ∀ (n : Nat) (v1 : Int) (v2 : Int) (v3 : Int) (v4 : Int) (v5 : Int) (h : zHM) (v : zHM), F264_1 n v1 v2 v3 v4 v5 h = some v → zFin 0 (fun _ => 0) (zRu2 spec d) 264 none (hc, v, o) (51, [some (22, 0), some (0, v1), some (0, v2), some (0, v3), some (0, v4), some (0, v5), none, none, none, none], [], (hc, h, o)) := by
  intro n
  induction n with
  | zero => intro v1 v2 v3 v4 v5 h v e; unfold F264_1 at e; cases e
  | succ n hk0 =>
    intro v1 v2 v3 v4 v5 h v e
    unfold F264_1 at e
    rcases zI_s e with ⟨q1, e⟩ | ⟨q1, e⟩
    · refine zF_blk (m := []) (d := 1) (b := B264_9) (gs := [v4 ≤ v5]) (c' := (97, [some (22, 0), some (0, v1), some (0, v2), some (0, v3), some (0, v4), some (0, v5), none, none, none, none], [], (hc, h, o))) K264_9 rfl ⟨q1, trivial⟩ ?_
      refine zF_blk (m := []) (d := 0) (b := B264_4) (gs := []) (c' := (100, [some (22, 0), some (0, v1), some (0, v2), some (0, v3), some (0, v4), some (0, 0), none, none, none, none], [], (hc, h, o))) K264_4 rfl trivial ?_
      refine zF_blk (m := [true, false, false, false, true, true, false, false, false, false]) (d := 0) (b := []) (gs := []) (c' := (100, [some (22, 0), none, none, none, some (0, v4), some (0, 0), none, none, none, none], [], (hc, h, o))) rfl rfl trivial ?_
      exact T264_2 hd zFu v4 0 h _ e
    · refine zF_blk (m := []) (d := 0) (b := B264_9) (gs := [¬ (v4 ≤ v5)]) (c' := (58, [some (22, 0), some (0, v1), some (0, v2), some (0, v3), some (0, v4), some (0, v5), none, none, none, none], [], (hc, h, o))) K264_9 rfl ⟨q1, trivial⟩ ?_
      obtain ⟨r1, q2, e⟩ := zB_s e
      refine zF_blk (m := []) (d := 0) (b := B264_5) (gs := []) (c' := (63, [some (22, 0), some (0, v1), some (0, v2), some (0, v3), some (0, v4), some (0, v5), none, none, none, none], [(0, v3), (0, v1), (0, v5), (22, 0)], (hc, h, o))) K264_5 rfl trivial ?_
      refine zF_call (k := 259) (cl := 12) (n := 4) (i := .invokevirtual 339) (args := [(22, 0), (0, v5), (0, v1), (0, v3)]) (rest := []) (g1 := (hc, h, o)) (r1 := some (0, r1)) (by decide +kernel) rfl rfl rfl (st' := [(0, r1)]) rfl (S259 (Nat.le_trans (by decide) hd) v5 v1 v3 h _ q2) ?_
      rcases zI_s e with ⟨q3, e⟩ | ⟨q3, e⟩
      · refine zF_blk (m := []) (d := 1) (b := B264_8) (gs := [r1 ≤ 0]) (c' := (91, [some (22, 0), some (0, v1), some (0, v2), some (0, v3), some (0, v4), some (0, v5), none, none, none, none], [], (hc, h, o))) K264_8 rfl ⟨q3, trivial⟩ ?_
        exact T264_3 hd (F264_1 n) hk0 v1 v2 v3 v4 v5 h _ e
      · refine zF_blk (m := []) (d := 0) (b := B264_8) (gs := [¬ (r1 ≤ 0)]) (c' := (69, [some (22, 0), some (0, v1), some (0, v2), some (0, v3), some (0, v4), some (0, v5), none, none, none, none], [], (hc, h, o))) K264_8 rfl ⟨q3, trivial⟩ ?_
        obtain ⟨r2, q4, e⟩ := zB_s e
        refine zF_blk (m := []) (d := 0) (b := B264_6) (gs := []) (c' := (76, [some (22, 0), some (0, v1), some (0, v2), some (0, v3), some (0, v4), some (0, v5), none, none, none, none], [(0, v5), (22, 0), (0, v2), (0, v5), (22, 0)], (hc, h, o))) K264_6 rfl trivial ?_
        refine zF_call (k := 232) (cl := 12) (n := 2) (i := .invokevirtual 282) (args := [(22, 0), (0, v5)]) (rest := [(0, v2), (0, v5), (22, 0)]) (g1 := (hc, h, o)) (r1 := some (0, r2)) (by decide +kernel) rfl rfl rfl (st' := [(0, r2), (0, v2), (0, v5), (22, 0)]) rfl (S232 (Nat.le_trans (by decide) hd) v5 h _ q4) ?_
        obtain ⟨r3, q5, e⟩ := zB_s e
        refine zF_blk (m := []) (d := 0) (b := B264_7) (gs := []) (c' := (85, [some (22, 0), some (0, v1), some (0, v2), some (0, v3), some (0, v4), some (0, v5), none, none, none, none], [(0, v3), (0, v1), (0, v5), (22, 0), (0, (wadd v2 r2)), (0, v5), (22, 0)], (hc, h, o))) K264_7 rfl trivial ?_
        refine zF_call (k := 259) (cl := 12) (n := 4) (i := .invokevirtual 339) (args := [(22, 0), (0, v5), (0, v1), (0, v3)]) (rest := [(0, (wadd v2 r2)), (0, v5), (22, 0)]) (g1 := (hc, h, o)) (r1 := some (0, r3)) (by decide +kernel) rfl rfl rfl (st' := [(0, r3), (0, (wadd v2 r2)), (0, v5), (22, 0)]) rfl (S259 (Nat.le_trans (by decide) hd) v5 v1 v3 h _ q5) ?_
        obtain ⟨r4, q6, e⟩ := zB_s e
        refine zF_call (k := 265) (cl := 12) (n := 4) (i := .invokevirtual 342) (args := [(22, 0), (0, v5), (0, (wadd v2 r2)), (0, r3)]) (rest := []) (g1 := (hc, r4, o)) (r1 := none) (by decide +kernel) rfl rfl rfl (st' := []) rfl (S265 (Nat.le_trans (by decide) hd) v5 (wadd v2 r2) r3 h _ q6) ?_
        exact T264_3 hd (F264_1 n) hk0 v1 v2 v3 v4 v5 r4 _ e
def F264_0 : Nat → Int → Int → Int → Int → Int → zHM → Option zHM
  | 0, _, _, _, _, _, _ => none
  | n + 1, v1, v2, v3, v4, v5, h => if v4 ≤ v5 then F264_1 zFu v1 v2 v3 v4 0 h else zG (0 ≤ v5 ∧ v5 < 6) (zG (0 ≤ v5 ∧ v5 < 6) (zG (0 ≤ v5 ∧ v5 < 6) ((F264_0 n) v1 v2 v3 v4 (wadd v5 1) (mset (mset (mset h 30 v5 (-1)) 32 v5 0) 33 v5 0))))
set_option maxRecDepth 100000 in
theorem T264_0 {spec : zRn zH2} {hc : zHC} {o : Int → Int} {d : Nat} (hd : 3 ≤ d) : ∀ (n : Nat) (v1 : Int) (v2 : Int) (v3 : Int) (v4 : Int) (v5 : Int) (h : zHM) (v : zHM), F264_0 n v1 v2 v3 v4 v5 h = some v → zFin 0 (fun _ => 0) (zRu2 spec d) 264 none (hc, v, o) (11, [some (22, 0), some (0, v1), some (0, v2), some (0, v3), some (0, v4), some (0, v5), none, none, none, none], [], (hc, h, o)) := by
  intro n
  induction n with
  | zero => intro v1 v2 v3 v4 v5 h v e; unfold F264_0 at e; cases e
  | succ n hk0 =>
    intro v1 v2 v3 v4 v5 h v e
    unfold F264_0 at e
    rcases zI_s e with ⟨q1, e⟩ | ⟨q1, e⟩
    · refine zF_blk (m := []) (d := 1) (b := B264_3) (gs := [v4 ≤ v5]) (c' := (48, [some (22, 0), some (0, v1), some (0, v2), some (0, v3), some (0, v4), some (0, v5), none, none, none, none], [], (hc, h, o))) K264_3 rfl ⟨q1, trivial⟩ ?_
      refine zF_blk (m := []) (d := 0) (b := B264_1) (gs := []) (c' := (51, [some (22, 0), some (0, v1), some (0, v2), some (0, v3), some (0, v4), some (0, 0), none, none, none, none], [], (hc, h, o))) K264_1 rfl trivial ?_
      exact T264_1 hd zFu v1 v2 v3 v4 0 h _ e
    · refine zF_blk (m := []) (d := 0) (b := B264_3) (gs := [¬ (v4 ≤ v5)]) (c' := (18, [some (22, 0), some (0, v1), some (0, v2), some (0, v3), some (0, v4), some (0, v5), none, none, none, none], [], (hc, h, o))) K264_3 rfl ⟨q1, trivial⟩ ?_
      obtain ⟨q2, e⟩ := zG_s e
      obtain ⟨q2, e⟩ := zG_s e
      obtain ⟨q2, e⟩ := zG_s e
      refine zF_blk (m := []) (d := 0) (b := B264_2) (gs := [0 ≤ v5 ∧ v5 < 6, 0 ≤ v5 ∧ v5 < 6, 0 ≤ v5 ∧ v5 < 6]) (c' := (11, [some (22, 0), some (0, v1), some (0, v2), some (0, v3), some (0, v4), some (0, (wadd v5 1)), none, none, none, none], [], (hc, (mset (mset (mset h 30 v5 (-1)) 32 v5 0) 33 v5 0), o))) K264_2 rfl ⟨q2, q2, q2, trivial⟩ ?_
      exact hk0 v1 v2 v3 v4 (wadd v5 1) (mset (mset (mset h 30 v5 (-1)) 32 v5 0) 33 v5 0) _ e
/-- EchoValeModel.soundAll(III)V -/
def F264 (v1 : Int) (v2 : Int) (v3 : Int) (h : zHM) : Option zHM := F264_0 zFu v1 v2 v3 (h 14 2) 0 h
set_option maxRecDepth 100000 in
theorem S264 {spec : zRn zH2} {hc : zHC} {o : Int → Int} {d : Nat} (hd : 4 ≤ d) (v1 : Int) (v2 : Int) (v3 : Int) (h : zHM) (v : zHM) (e : F264 v1 v2 v3 h = some v) : zRu2 spec d 264 [(22, 0), (0, v1), (0, v2), (0, v3)] (hc, h, o) none (hc, v, o) := by
  refine zF_in (D := 3) (mx := 10) (L := [some (22, 0), some (0, v1), some (0, v2), some (0, v3), none, none, none, none, none, none]) (by decide +kernel) rfl rfl hd (fun d hd => ?_)
  unfold F264 at e
  refine zF_blk (m := []) (d := 0) (b := B264_0) (gs := [0 ≤ 2 ∧ 2 < 2140]) (c' := (11, [some (22, 0), some (0, v1), some (0, v2), some (0, v3), some (0, (h 14 2)), some (0, 0), none, none, none, none], [], (hc, h, o))) K264_0 rfl ⟨by decide, trivial⟩ ?_
  exact T264_0 hd zFu v1 v2 v3 (h 14 2) 0 h _ e
