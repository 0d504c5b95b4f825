/-! Functions of the methods, by wip/gen/lift.py. -/
def B277_0 : List zRow := [(0, .aload_n 0, 1, (0, 0, 0)), (1, .getfield 72, 3, (12, 42, 5243682)), (4, .aload_n 0, 1, (0, 0, 0)), (5, .getfield 385, 3, (12, 44, 0)), (8, .iload_n 1, 1, (0, 0, 0)), (9, .iastore, 1, (0, 0, 0)), (10, .aload_n 0, 1, (0, 0, 0)), (11, .dup, 1, (0, 0, 0)), (12, .getfield 385, 3, (12, 44, 0)), (15, .iconst 1, 1, (0, 0, 0)), (16, .iadd, 1, (0, 0, 0)), (17, .putfield 385, 3, (12, 44, 0))]
theorem K277_0 : zRk 277 B277_0 = true := by decide +kernel
/-- EchoValeModel.put(I)V -/
def F277 (v1 : Int) (h : zHM) : Option zHM := zG (0 ≤ (h 44 0) ∧ (h 44 0) < 200) (some (mset (mset h 42 (h 44 0) v1) 44 0 (wadd (h 44 0) 1)))
set_option maxRecDepth 100000 in
theorem S277 {spec : zRn zH2} {hc : zHC} {o : Int → Int} {d : Nat} (hd : 1 ≤ d) (v1 : Int) (h : zHM) (v : zHM) (e : F277 v1 h = some v) : zRu2 spec d 277 [(22, 0), (0, v1)] (hc, h, o) none (hc, v, o) := by
  refine zF_in (D := 0) (mx := 2) (L := [some (22, 0), some (0, v1)]) (by decide +kernel) rfl rfl hd (fun d hd => ?_)
  unfold F277 at e
  obtain ⟨q1, e⟩ := zG_s e
  refine zF_blk (m := []) (d := 0) (b := B277_0) (gs := [0 ≤ (h 44 0) ∧ (h 44 0) < 200]) (c' := (20, [some (22, 0), some (0, v1)], [], (hc, (mset (mset h 42 (h 44 0) v1) 44 0 (wadd (h 44 0) 1)), o))) K277_0 rfl ⟨q1, trivial⟩ ?_
  obtain rfl := Option.some.inj e
  exact zF_rv (by decide +kernel)
def B278_0 : List zRow := [(0, .aload_n 0, 1, (0, 0, 0)), (1, .bipush 32, 2, (0, 0, 0))]
theorem K278_0 : zRk 278 B278_0 = true := by decide +kernel
def B278_1 : List zRow := [(12, .aload_n 0, 1, (0, 0, 0)), (13, .bipush 48, 2, (0, 0, 0)), (15, .iload_n 1, 1, (0, 0, 0)), (16, .bipush 100, 2, (0, 0, 0)), (18, .idiv, 1, (0, 0, 0))]
theorem K278_1 : zRk 278 B278_1 = true := by decide +kernel
def B278_2 : List zRow := [(19, .iadd, 1, (0, 0, 0))]
theorem K278_2 : zRk 278 B278_2 = true := by decide +kernel
def B278_3 : List zRow := [(6, .iload_n 1, 1, (0, 0, 0)), (7, .bipush 99, 2, (0, 0, 0)), (9, .if_icmp .le 14, 3, (0, 0, 0))]
theorem K278_3 : zRk 278 B278_3 = true := by decide +kernel
def B278_4 : List zRow := [(29, .aload_n 0, 1, (0, 0, 0)), (30, .bipush 48, 2, (0, 0, 0)), (32, .iload_n 1, 1, (0, 0, 0)), (33, .bipush 10, 2, (0, 0, 0)), (35, .idiv, 1, (0, 0, 0)), (36, .bipush 10, 2, (0, 0, 0)), (38, .irem, 1, (0, 0, 0))]
theorem K278_4 : zRk 278 B278_4 = true := by decide +kernel
def B278_5 : List zRow := [(39, .iadd, 1, (0, 0, 0))]
theorem K278_5 : zRk 278 B278_5 = true := by decide +kernel
def B278_6 : List zRow := [(23, .iload_n 1, 1, (0, 0, 0)), (24, .bipush 9, 2, (0, 0, 0)), (26, .if_icmp .le 17, 3, (0, 0, 0))]
theorem K278_6 : zRk 278 B278_6 = true := by decide +kernel
def B278_7 : List zRow := [(43, .aload_n 0, 1, (0, 0, 0)), (44, .bipush 48, 2, (0, 0, 0)), (46, .iload_n 1, 1, (0, 0, 0)), (47, .bipush 10, 2, (0, 0, 0)), (49, .irem, 1, (0, 0, 0))]
theorem K278_7 : zRk 278 B278_7 = true := by decide +kernel
def B278_8 : List zRow := [(50, .iadd, 1, (0, 0, 0))]
theorem K278_8 : zRk 278 B278_8 = true := by decide +kernel
def F278_1 (v1 : Int) (h : zHM) : Option zHM := (F277 (wadd 48 (wrem v1 10)) h).bind fun r1 => some r1
set_option maxRecDepth 100000 in
theorem T278_1 {spec : zRn zH2} {hc : zHC} {o : Int → Int} {d : Nat} (hd : 1 ≤ d) (v1 : Int) (h : zHM) (v : zHM) (e : F278_1 v1 h = some v) : zFin 0 (fun _ => 0) (zRu2 spec d) 278 none (hc, v, o) (43, [some (22, 0), some (0, v1)], [], (hc, h, o)) := by
  unfold F278_1 at e
  refine zF_blk (m := []) (d := 0) (b := B278_7) (gs := [¬ 10 = 0]) (c' := (50, [some (22, 0), some (0, v1)], [(0, (wrem v1 10)), (0, 48), (22, 0)], (hc, h, o))) K278_7 rfl ⟨by decide, trivial⟩ ?_
  obtain ⟨r1, q1, e⟩ := zB_s e
  refine zF_blk (m := []) (d := 0) (b := B278_8) (gs := []) (c' := (51, [some (22, 0), some (0, v1)], [(0, (wadd 48 (wrem v1 10))), (22, 0)], (hc, h, o))) K278_8 rfl trivial ?_
  refine zF_call (k := 277) (cl := 12) (n := 2) (i := .invokevirtual 388) (args := [(22, 0), (0, (wadd 48 (wrem v1 10)))]) (rest := []) (g1 := (hc, r1, o)) (r1 := none) (by decide +kernel) rfl rfl rfl (st' := []) rfl (S277 (Nat.le_trans (by decide) hd) (wadd 48 (wrem v1 10)) h _ q1) ?_
  obtain rfl := Option.some.inj e
  exact zF_rv (by decide +kernel)
def F278_0 (v1 : Int) (h : zHM) : Option zHM := if v1 ≤ 9 then F278_1 v1 h else (F277 (wadd 48 (wrem (wdiv v1 10) 10)) h).bind fun r1 => F278_1 v1 r1
set_option maxRecDepth 100000 in
theorem T278_0 {spec : zRn zH2} {hc : zHC} {o : Int → Int} {d : Nat} (hd : 1 ≤ d) (v1 : Int) (h : zHM) (v : zHM) (e : F278_0 v1 h = some v) : zFin 0 (fun _ => 0) (zRu2 spec d) 278 none (hc, v, o) (23, [some (22, 0), some (0, v1)], [], (hc, h, o)) := by
  unfold F278_0 at e
  rcases zI_s e with ⟨q1, e⟩ | ⟨q1, e⟩
  · refine zF_blk (m := []) (d := 1) (b := B278_6) (gs := [v1 ≤ 9]) (c' := (43, [some (22, 0), some (0, v1)], [], (hc, h, o))) K278_6 rfl ⟨q1, trivial⟩ ?_
    exact T278_1 hd v1 h _ e
  · refine zF_blk (m := []) (d := 0) (b := B278_6) (gs := [¬ (v1 ≤ 9)]) (c' := (29, [some (22, 0), some (0, v1)], [], (hc, h, o))) K278_6 rfl ⟨q1, trivial⟩ ?_
    refine zF_blk (m := []) (d := 0) (b := B278_4) (gs := [¬ 10 = 0, ¬ 10 = 0]) (c' := (39, [some (22, 0), some (0, v1)], [(0, (wrem (wdiv v1 10) 10)), (0, 48), (22, 0)], (hc, h, o))) K278_4 rfl ⟨by decide, by decide, trivial⟩ ?_
    obtain ⟨r1, q2, e⟩ := zB_s e
    refine zF_blk (m := []) (d := 0) (b := B278_5) (gs := []) (c' := (40, [some (22, 0), some (0, v1)], [(0, (wadd 48 (wrem (wdiv v1 10) 10))), (22, 0)], (hc, h, o))) K278_5 rfl trivial ?_
    refine zF_call (k := 277) (cl := 12) (n := 2) (i := .invokevirtual 388) (args := [(22, 0), (0, (wadd 48 (wrem (wdiv v1 10) 10)))]) (rest := []) (g1 := (hc, r1, o)) (r1 := none) (by decide +kernel) rfl rfl rfl (st' := []) rfl (S277 (Nat.le_trans (by decide) hd) (wadd 48 (wrem (wdiv v1 10) 10)) h _ q2) ?_
    exact T278_1 hd v1 r1 _ e
/-- EchoValeModel.putNumber(I)V -/
def F278 (v1 : Int) (h : zHM) : Option zHM := (F277 32 h).bind fun r1 => if v1 ≤ 99 then F278_0 v1 r1 else (F277 (wadd 48 (wdiv v1 100)) r1).bind fun r2 => F278_0 v1 r2
set_option maxRecDepth 100000 in
theorem S278 {spec : zRn zH2} {hc : zHC} {o : Int → Int} {d : Nat} (hd : 2 ≤ d) (v1 : Int) (h : zHM) (v : zHM) (e : F278 v1 h = some v) : zRu2 spec d 278 [(22, 0), (0, v1)] (hc, h, o) none (hc, v, o) := by
  refine zF_in (D := 1) (mx := 2) (L := [some (22, 0), some (0, v1)]) (by decide +kernel) rfl rfl hd (fun d hd => ?_)
  unfold F278 at e
  obtain ⟨r1, q1, e⟩ := zB_s e
  refine zF_blk (m := []) (d := 0) (b := B278_0) (gs := []) (c' := (3, [some (22, 0), some (0, v1)], [(0, 32), (22, 0)], (hc, h, o))) K278_0 rfl trivial ?_
  refine zF_call (k := 277) (cl := 12) (n := 2) (i := .invokevirtual 388) (args := [(22, 0), (0, 32)]) (rest := []) (g1 := (hc, r1, o)) (r1 := none) (by decide +kernel) rfl rfl rfl (st' := []) rfl (S277 (Nat.le_trans (by decide) hd) 32 h _ q1) ?_
  rcases zI_s e with ⟨q2, e⟩ | ⟨q2, e⟩
  · refine zF_blk (m := []) (d := 1) (b := B278_3) (gs := [v1 ≤ 99]) (c' := (23, [some (22, 0), some (0, v1)], [], (hc, r1, o))) K278_3 rfl ⟨q2, trivial⟩ ?_
    exact T278_0 hd v1 r1 _ e
  · refine zF_blk (m := []) (d := 0) (b := B278_3) (gs := [¬ (v1 ≤ 99)]) (c' := (12, [some (22, 0), some (0, v1)], [], (hc, r1, o))) K278_3 rfl ⟨q2, trivial⟩ ?_
    refine zF_blk (m := []) (d := 0) (b := B278_1) (gs := [¬ 100 = 0]) (c' := (19, [some (22, 0), some (0, v1)], [(0, (wdiv v1 100)), (0, 48), (22, 0)], (hc, r1, o))) K278_1 rfl ⟨by decide, trivial⟩ ?_
    obtain ⟨r2, q3, e⟩ := zB_s e
    refine zF_blk (m := []) (d := 0) (b := B278_2) (gs := []) (c' := (20, [some (22, 0), some (0, v1)], [(0, (wadd 48 (wdiv v1 100))), (22, 0)], (hc, r1, o))) K278_2 rfl trivial ?_
    refine zF_call (k := 277) (cl := 12) (n := 2) (i := .invokevirtual 388) (args := [(22, 0), (0, (wadd 48 (wdiv v1 100)))]) (rest := []) (g1 := (hc, r2, o)) (r1 := none) (by decide +kernel) rfl rfl rfl (st' := []) rfl (S277 (Nat.le_trans (by decide) hd) (wadd 48 (wdiv v1 100)) r1 _ q3) ?_
    exact T278_0 hd v1 r2 _ e
def B276_0 : List zRow := [(0, .aload_n 0, 1, (0, 0, 0)), (1, .iconst 0, 1, (0, 0, 0)), (2, .putfield 81, 3, (12, 0, 0)), (5, .aload_n 0, 1, (0, 0, 0)), (6, .iload_n 1, 1, (0, 0, 0))]
theorem K276_0 : zRk 276 B276_0 = true := by decide +kernel
def B276_1 : List zRow := [(15, .aload_n 0, 1, (0, 0, 0)), (16, .iconst 0, 1, (0, 0, 0)), (17, .putfield 385, 3, (12, 44, 0)), (20, .iconst 0, 1, (0, 0, 0)), (21, .istore_n 2, 1, (0, 0, 0))]
theorem K276_1 : zRk 276 B276_1 = true := by decide +kernel
def B276_2 : List zRow := [(13, .iconst (-1), 1, (0, 0, 0))]
theorem K276_2 : zRk 276 B276_2 = true := by decide +kernel
def B276_3 : List zRow := [(10, .ifCond .ne 5, 3, (0, 0, 0))]
theorem K276_3 : zRk 276 B276_3 = true := by decide +kernel
def B276_4 : List zRow := [(175, .aload_n 0, 1, (0, 0, 0)), (176, .getfield 385, 3, (12, 44, 0))]
theorem K276_4 : zRk 276 B276_4 = true := by decide +kernel
def B276_5 : List zRow := [(34, .sipush 998, 3, (0, 0, 0)), (37, .iconst 5, 1, (0, 0, 0)), (38, .iload_n 2, 1, (0, 0, 0))]
theorem K276_5 : zRk 276 B276_5 = true := by decide +kernel
def B276_6 : List zRow := [(39, .imul, 1, (0, 0, 0))]
theorem K276_6 : zRk 276 B276_6 = true := by decide +kernel
def B276_7 : List zRow := [(55, .iconst 0, 1, (0, 0, 0)), (56, .istore 4, 2, (0, 0, 0)), (58, .aload_n 0, 1, (0, 0, 0)), (59, .getfield 28, 3, (12, 19, 5505074)), (62, .aload_n 0, 1, (0, 0, 0)), (63, .getfield 13, 3, (12, 14, 5251442)), (66, .iload_n 3, 1, (0, 0, 0)), (67, .iconst 1, 1, (0, 0, 0)), (68, .iadd, 1, (0, 0, 0)), (69, .iaload, 1, (0, 0, 0)), (70, .laload, 1, (0, 0, 0)), (71, .lstore 5, 2, (0, 0, 0))]
theorem K276_7 : zRk 276 B276_7 = true := by decide +kernel
def B276_8 : List zRow := [(52, .goto 117, 3, (0, 0, 0))]
theorem K276_8 : zRk 276 B276_8 = true := by decide +kernel
def B276_9 : List zRow := [(40, .iadd, 1, (0, 0, 0)), (41, .istore_n 3, 1, (0, 0, 0)), (42, .aload_n 0, 1, (0, 0, 0)), (43, .getfield 13, 3, (12, 14, 5251442)), (46, .iload_n 3, 1, (0, 0, 0)), (47, .iaload, 1, (0, 0, 0)), (48, .iload_n 1, 1, (0, 0, 0)), (49, .if_icmp .eq 6, 3, (0, 0, 0))]
theorem K276_9 : zRk 276 B276_9 = true := by decide +kernel
def B276_10 : List zRow := [(22, .iload_n 2, 1, (0, 0, 0)), (23, .aload_n 0, 1, (0, 0, 0)), (24, .getfield 13, 3, (12, 14, 5251442)), (27, .sipush 997, 3, (0, 0, 0)), (30, .iaload, 1, (0, 0, 0)), (31, .if_icmp .ge 144, 3, (0, 0, 0))]
theorem K276_10 : zRk 276 B276_10 = true := by decide +kernel
def B276_11 : List zRow := [(169, .iinc 2 1, 3, (0, 0, 0)), (172, .goto (-150), 3, (0, 0, 0))]
theorem K276_11 : zRk 276 B276_11 = true := by decide +kernel
def B276_12 : List zRow := [(111, .iload 4, 2, (0, 0, 0)), (113, .iconst 1, 1, (0, 0, 0)), (114, .isub, 1, (0, 0, 0)), (115, .istore 5, 2, (0, 0, 0))]
theorem K276_12 : zRk 276 B276_12 = true := by decide +kernel
def B276_13 : List zRow := [(80, .aload_n 0, 1, (0, 0, 0)), (81, .getfield 75, 3, (12, 43, 5242910)), (84, .iload 4, 2, (0, 0, 0)), (86, .lload 5, 2, (0, 0, 0)), (88, .ldc2_w 130, 3, (0, 0, 27)), (91, .lrem, 1, (0, 0, 0)), (92, .l2i, 1, (0, 0, 0)), (93, .bipush 96, 2, (0, 0, 0)), (95, .iadd, 1, (0, 0, 0)), (96, .iastore, 1, (0, 0, 0)), (97, .iinc 4 1, 3, (0, 0, 0)), (100, .lload 5, 2, (0, 0, 0)), (102, .ldc2_w 130, 3, (0, 0, 27)), (105, .ldiv, 1, (0, 0, 0)), (106, .lstore 5, 2, (0, 0, 0)), (108, .goto (-35), 3, (0, 0, 0))]
theorem K276_13 : zRk 276 B276_13 = true := by decide +kernel
def B276_14 : List zRow := [(73, .lload 5, 2, (0, 0, 0)), (75, .lconst 0, 1, (0, 0, 0)), (76, .lcmp, 1, (0, 0, 0)), (77, .ifCond .le 34, 3, (0, 0, 0))]
theorem K276_14 : zRk 276 B276_14 = true := by decide +kernel
def B276_15 : List zRow := [(139, .aload_n 0, 1, (0, 0, 0)), (140, .aload_n 0, 1, (0, 0, 0)), (141, .getfield 13, 3, (12, 14, 5251442)), (144, .iload_n 3, 1, (0, 0, 0)), (145, .iconst 2, 1, (0, 0, 0)), (146, .iadd, 1, (0, 0, 0)), (147, .iaload, 1, (0, 0, 0))]
theorem K276_15 : zRk 276 B276_15 = true := by decide +kernel
def B276_16 : List zRow := [(151, .aload_n 0, 1, (0, 0, 0)), (152, .aload_n 0, 1, (0, 0, 0)), (153, .getfield 13, 3, (12, 14, 5251442)), (156, .iload_n 3, 1, (0, 0, 0)), (157, .iconst 3, 1, (0, 0, 0)), (158, .iadd, 1, (0, 0, 0)), (159, .iaload, 1, (0, 0, 0))]
theorem K276_16 : zRk 276 B276_16 = true := by decide +kernel
def B276_17 : List zRow := [(163, .aload_n 0, 1, (0, 0, 0)), (164, .bipush 59, 2, (0, 0, 0))]
theorem K276_17 : zRk 276 B276_17 = true := by decide +kernel
def B276_18 : List zRow := [(122, .aload_n 0, 1, (0, 0, 0)), (123, .aload_n 0, 1, (0, 0, 0)), (124, .getfield 75, 3, (12, 43, 5242910)), (127, .iload 5, 2, (0, 0, 0)), (129, .iaload, 1, (0, 0, 0))]
theorem K276_18 : zRk 276 B276_18 = true := by decide +kernel
def B276_19 : List zRow := [(133, .iinc 5 (-1), 3, (0, 0, 0)), (136, .goto (-19), 3, (0, 0, 0))]
theorem K276_19 : zRk 276 B276_19 = true := by decide +kernel
def B276_20 : List zRow := [(117, .iload 5, 2, (0, 0, 0)), (119, .ifCond .lt 20, 3, (0, 0, 0))]
theorem K276_20 : zRk 276 B276_20 = true := by decide +kernel
def F276_2 (k0 : Int → Int → zHM → Option (Int × zHM)) (v1 : Int) (v2 : Int) (h : zHM) : Option (Int × zHM) := k0 v1 (wadd v2 1) h
set_option maxRecDepth 100000 in
theorem T276_2 {spec : zRn zH2} {hc : zHC} {o : Int → Int} {d : Nat} (hd : 2 ≤ d) (k0 : Int → Int → zHM → Option (Int × zHM)) (hk0 : ∀ (v1 : Int) (v2 : Int) (h : zHM) (v : (Int × zHM)), k0 v1 v2 h = some v → zFin 0 (fun _ => 0) (zRu2 spec d) 276 (some (0, v.1)) (hc, v.2, o) (22, [some (22, 0), some (0, v1), some (0, v2), none, none, none, none], [], (hc, h, o))) (v1 : Int) (v2 : Int) (h : zHM) (v : (Int × zHM)) (e : F276_2 k0 v1 v2 h = some v) : zFin 0 (fun _ => 0) (zRu2 spec d) 276 (some (0, v.1)) (hc, v.2, o) (169, [some (22, 0), some (0, v1), some (0, v2), none, none, none, none], [], (hc, h, o)) := by
  unfold F276_2 at e
  refine zF_blk (m := []) (d := 0) (b := B276_11) (gs := []) (c' := (22, [some (22, 0), some (0, v1), some (0, (wadd v2 1)), none, none, none, none], [], (hc, h, o))) K276_11 rfl trivial ?_
  exact hk0 v1 (wadd v2 1) h _ e
def F276_3 (k0 : Int → Int → zHM → Option (Int × zHM)) : Nat → Int → Int → Int → Int → zHM → Option (Int × zHM)
  | 0, _, _, _, _, _ => none
  | n + 1, v1, v2, v3, v5, h => if v5 < 0 then zG (0 ≤ (wadd v3 2) ∧ (wadd v3 2) < 2140) ((F278 (h 14 (wadd v3 2)) h).bind fun r1 => zG (0 ≤ (wadd v3 3) ∧ (wadd v3 3) < 2140) ((F278 (r1 14 (wadd v3 3)) r1).bind fun r2 => (F277 59 r2).bind fun r3 => F276_2 k0 v1 v2 r3)) else zG (0 ≤ v5 ∧ v5 < 7) ((F277 (h 43 v5) h).bind fun r4 => (F276_3 k0 n) v1 v2 v3 (wadd v5 (-1)) r4)
set_option maxRecDepth 100000 in
theorem T276_3 {spec : zRn zH2} {hc : zHC} {o : Int → Int} {d : Nat} (hd : 2 ≤ d) (k0 : Int → Int → zHM → Option (Int × zHM)) (hk0 : ∀ (v1 : Int) (v2 : Int) (h : zHM) (v : (Int × zHM)), k0 v1 v2 h = some v → zFin 0 (fun _ => 0) (zRu2 spec d) 276 (some (0, v.1)) (hc, v.2, o) (22, [some (22, 0), some (0, v1), some (0, v2), none, none, none, none], [], (hc, h, o))) : ∀ (n : Nat) (v1 : Int) (v2 : Int) (v3 : Int) (v5 : Int) (h : zHM) (v : (Int × zHM)), F276_3 k0 n v1 v2 v3 v5 h = some v → zFin 0 (fun _ => 0) (zRu2 spec d) 276 (some (0, v.1)) (hc, v.2, o) (117, [some (22, 0), some (0, v1), some (0, v2), some (0, v3), none, some (0, v5), none], [], (hc, h, o)) := by
  intro n
  induction n with
  | zero => intro v1 v2 v3 v5 h v e; unfold F276_3 at e; cases e
  | succ n hk1 =>
    intro v1 v2 v3 v5 h v e
    unfold F276_3 at e
    rcases zI_s e with ⟨q1, e⟩ | ⟨q1, e⟩
    · refine zF_blk (m := []) (d := 1) (b := B276_20) (gs := [v5 < 0]) (c' := (139, [some (22, 0), some (0, v1), some (0, v2), some (0, v3), none, some (0, v5), none], [], (hc, h, o))) K276_20 rfl ⟨q1, trivial⟩ ?_
      obtain ⟨q2, e⟩ := zG_s e
      obtain ⟨r1, q3, e⟩ := zB_s e
      refine zF_blk (m := []) (d := 0) (b := B276_15) (gs := [0 ≤ (wadd v3 2) ∧ (wadd v3 2) < 2140]) (c' := (148, [some (22, 0), some (0, v1), some (0, v2), some (0, v3), none, some (0, v5), none], [(0, (h 14 (wadd v3 2))), (22, 0)], (hc, h, o))) K276_15 rfl ⟨q2, trivial⟩ ?_
      refine zF_call (k := 278) (cl := 12) (n := 2) (i := .invokevirtual 391) (args := [(22, 0), (0, (h 14 (wadd v3 2)))]) (rest := []) (g1 := (hc, r1, o)) (r1 := none) (by decide +kernel) rfl rfl rfl (st' := []) rfl (S278 (Nat.le_trans (by decide) hd) (h 14 (wadd v3 2)) h _ q3) ?_
      obtain ⟨q4, e⟩ := zG_s e
      obtain ⟨r2, q5, e⟩ := zB_s e
      refine zF_blk (m := []) (d := 0) (b := B276_16) (gs := [0 ≤ (wadd v3 3) ∧ (wadd v3 3) < 2140]) (c' := (160, [some (22, 0), some (0, v1), some (0, v2), some (0, v3), none, some (0, v5), none], [(0, (r1 14 (wadd v3 3))), (22, 0)], (hc, r1, o))) K276_16 rfl ⟨q4, trivial⟩ ?_
      refine zF_call (k := 278) (cl := 12) (n := 2) (i := .invokevirtual 391) (args := [(22, 0), (0, (r1 14 (wadd v3 3)))]) (rest := []) (g1 := (hc, r2, o)) (r1 := none) (by decide +kernel) rfl rfl rfl (st' := []) rfl (S278 (Nat.le_trans (by decide) hd) (r1 14 (wadd v3 3)) r1 _ q5) ?_
      obtain ⟨r3, q6, e⟩ := zB_s e
      refine zF_blk (m := []) (d := 0) (b := B276_17) (gs := []) (c' := (166, [some (22, 0), some (0, v1), some (0, v2), some (0, v3), none, some (0, v5), none], [(0, 59), (22, 0)], (hc, r2, o))) K276_17 rfl trivial ?_
      refine zF_call (k := 277) (cl := 12) (n := 2) (i := .invokevirtual 388) (args := [(22, 0), (0, 59)]) (rest := []) (g1 := (hc, r3, o)) (r1 := none) (by decide +kernel) rfl rfl rfl (st' := []) rfl (S277 (Nat.le_trans (by decide) hd) 59 r2 _ q6) ?_
      refine zF_blk (m := [true, true, true, false, false, false, false]) (d := 0) (b := []) (gs := []) (c' := (169, [some (22, 0), some (0, v1), some (0, v2), none, none, none, none], [], (hc, r3, o))) rfl rfl trivial ?_
      exact T276_2 hd k0 hk0 v1 v2 r3 _ e
    · refine zF_blk (m := []) (d := 0) (b := B276_20) (gs := [¬ (v5 < 0)]) (c' := (122, [some (22, 0), some (0, v1), some (0, v2), some (0, v3), none, some (0, v5), none], [], (hc, h, o))) K276_20 rfl ⟨q1, trivial⟩ ?_
      obtain ⟨q7, e⟩ := zG_s e
      obtain ⟨r4, q8, e⟩ := zB_s e
      refine zF_blk (m := []) (d := 0) (b := B276_18) (gs := [0 ≤ v5 ∧ v5 < 7]) (c' := (130, [some (22, 0), some (0, v1), some (0, v2), some (0, v3), none, some (0, v5), none], [(0, (h 43 v5)), (22, 0)], (hc, h, o))) K276_18 rfl ⟨q7, trivial⟩ ?_
      refine zF_call (k := 277) (cl := 12) (n := 2) (i := .invokevirtual 388) (args := [(22, 0), (0, (h 43 v5))]) (rest := []) (g1 := (hc, r4, o)) (r1 := none) (by decide +kernel) rfl rfl rfl (st' := []) rfl (S277 (Nat.le_trans (by decide) hd) (h 43 v5) h _ q8) ?_
      refine zF_blk (m := []) (d := 0) (b := B276_19) (gs := []) (c' := (117, [some (22, 0), some (0, v1), some (0, v2), some (0, v3), none, some (0, (wadd v5 (-1))), none], [], (hc, r4, o))) K276_19 rfl trivial ?_
      exact hk1 v1 v2 v3 (wadd v5 (-1)) r4 _ e
def F276_1 (k0 : Int → Int → zHM → Option (Int × zHM)) : Nat → Int → Int → Int → Int → Int → zHM → Option (Int × zHM)
  | 0, _, _, _, _, _, _ => none
  | n + 1, v1, v2, v3, v4, v5, h => if (qcmp v5 0) ≤ 0 then F276_3 k0 zFu v1 v2 v3 (wsub v4 1) h else zG (0 ≤ v4 ∧ v4 < 7) ((F276_1 k0 n) v1 v2 v3 (wadd v4 1) (qdiv v5 27) (mset h 43 v4 (wadd (wl2i (qrem v5 27)) 96)))
set_option maxRecDepth 100000 in
theorem T276_1 {spec : zRn zH2} {hc : zHC} {o : Int → Int} {d : Nat} (hd : 2 ≤ d) (k0 : Int → Int → zHM → Option (Int × zHM)) (hk0 : ∀ (v1 : Int) (v2 : Int) (h : zHM) (v : (Int × zHM)), k0 v1 v2 h = some v → zFin 0 (fun _ => 0) (zRu2 spec d) 276 (some (0, v.1)) (hc, v.2, o) (22, [some (22, 0), some (0, v1), some (0, v2), none, none, none, none], [], (hc, h, o))) : ∀ (n : Nat) (v1 : Int) (v2 : Int) (v3 : Int) (v4 : Int) (v5 : Int) (h : zHM) (v : (Int × zHM)), F276_1 k0 n v1 v2 v3 v4 v5 h = some v → zFin 0 (fun _ => 0) (zRu2 spec d) 276 (some (0, v.1)) (hc, v.2, o) (73, [some (22, 0), some (0, v1), some (0, v2), some (0, v3), some (0, v4), some (1, v5), none], [], (hc, h, o)) := by
  intro n
  induction n with
  | zero => intro v1 v2 v3 v4 v5 h v e; unfold F276_1 at e; cases e
  | succ n hk1 =>
    intro v1 v2 v3 v4 v5 h v e
    unfold F276_1 at e
    rcases zI_s e with ⟨q1, e⟩ | ⟨q1, e⟩
    · refine zF_blk (m := []) (d := 1) (b := B276_14) (gs := [(qcmp v5 0) ≤ 0]) (c' := (111, [some (22, 0), some (0, v1), some (0, v2), some (0, v3), some (0, v4), some (1, v5), none], [], (hc, h, o))) K276_14 rfl ⟨q1, trivial⟩ ?_
      refine zF_blk (m := []) (d := 0) (b := B276_12) (gs := []) (c' := (117, [some (22, 0), some (0, v1), some (0, v2), some (0, v3), some (0, v4), some (0, (wsub v4 1)), none], [], (hc, h, o))) K276_12 rfl trivial ?_
      refine zF_blk (m := [true, true, true, true, false, true, false]) (d := 0) (b := []) (gs := []) (c' := (117, [some (22, 0), some (0, v1), some (0, v2), some (0, v3), none, some (0, (wsub v4 1)), none], [], (hc, h, o))) rfl rfl trivial ?_
      exact T276_3 hd k0 hk0 zFu v1 v2 v3 (wsub v4 1) h _ e
    · refine zF_blk (m := []) (d := 0) (b := B276_14) (gs := [¬ ((qcmp v5 0) ≤ 0)]) (c' := (80, [some (22, 0), some (0, v1), some (0, v2), some (0, v3), some (0, v4), some (1, v5), none], [], (hc, h, o))) K276_14 rfl ⟨q1, trivial⟩ ?_
      obtain ⟨q2, e⟩ := zG_s e
      refine zF_blk (m := []) (d := 0) (b := B276_13) (gs := [¬ 27 = 0, 0 ≤ v4 ∧ v4 < 7, ¬ 27 = 0]) (c' := (73, [some (22, 0), some (0, v1), some (0, v2), some (0, v3), some (0, (wadd v4 1)), some (1, (qdiv v5 27)), none], [], (hc, (mset h 43 v4 (wadd (wl2i (qrem v5 27)) 96)), o))) K276_13 rfl ⟨by decide, q2, by decide, trivial⟩ ?_
      exact hk1 v1 v2 v3 (wadd v4 1) (qdiv v5 27) (mset h 43 v4 (wadd (wl2i (qrem v5 27)) 96)) _ e
def F276_0 : Nat → Int → Int → zHM → Option (Int × zHM)
  | 0, _, _, _ => none
  | n + 1, v1, v2, h => if (h 14 997) ≤ v2 then some ((h 44 0), h) else zG (0 ≤ (wadd 998 (wmul 5 v2)) ∧ (wadd 998 (wmul 5 v2)) < 2140) (if (h 14 (wadd 998 (wmul 5 v2))) = v1 then zG (0 ≤ (wadd (wadd 998 (wmul 5 v2)) 1) ∧ (wadd (wadd 998 (wmul 5 v2)) 1) < 2140) (zG (0 ≤ (h 14 (wadd (wadd 998 (wmul 5 v2)) 1)) ∧ (h 14 (wadd (wadd 998 (wmul 5 v2)) 1)) < 12) (F276_1 (F276_0 n) zFu v1 v2 (wadd 998 (wmul 5 v2)) 0 (h 19 (h 14 (wadd (wadd 998 (wmul 5 v2)) 1))) h)) else F276_2 (F276_0 n) v1 v2 h)
set_option maxRecDepth 100000 in
theorem T276_0 {spec : zRn zH2} {hc : zHC} {o : Int → Int} {d : Nat} (hd : 2 ≤ d) : ∀ (n : Nat) (v1 : Int) (v2 : Int) (h : zHM) (v : (Int × zHM)), F276_0 n v1 v2 h = some v → zFin 0 (fun _ => 0) (zRu2 spec d) 276 (some (0, v.1)) (hc, v.2, o) (22, [some (22, 0), some (0, v1), some (0, v2), none, none, none, none], [], (hc, h, o)) := by
  intro n
  induction n with
  | zero => intro v1 v2 h v e; unfold F276_0 at e; cases e
  | succ n hk0 =>
    intro v1 v2 h v e
    unfold F276_0 at e
    rcases zI_s e with ⟨q1, e⟩ | ⟨q1, e⟩
    · refine zF_blk (m := []) (d := 1) (b := B276_10) (gs := [0 ≤ 997 ∧ 997 < 2140, (h 14 997) ≤ v2]) (c' := (175, [some (22, 0), some (0, v1), some (0, v2), none, none, none, none], [], (hc, h, o))) K276_10 rfl ⟨by decide, q1, trivial⟩ ?_
      refine zF_blk (m := []) (d := 0) (b := B276_4) (gs := []) (c' := (179, [some (22, 0), some (0, v1), some (0, v2), none, none, none, none], [(0, (h 44 0))], (hc, h, o))) K276_4 rfl trivial ?_
      exact zF_riM (by decide +kernel) e
    · refine zF_blk (m := []) (d := 0) (b := B276_10) (gs := [0 ≤ 997 ∧ 997 < 2140, ¬ ((h 14 997) ≤ v2)]) (c' := (34, [some (22, 0), some (0, v1), some (0, v2), none, none, none, none], [], (hc, h, o))) K276_10 rfl ⟨by decide, q1, trivial⟩ ?_
      obtain ⟨q2, e⟩ := zG_s e
      refine zF_blk (m := []) (d := 0) (b := B276_5) (gs := []) (c' := (39, [some (22, 0), some (0, v1), some (0, v2), none, none, none, none], [(0, v2), (0, 5), (0, 998)], (hc, h, o))) K276_5 rfl trivial ?_
      refine zF_blk (m := []) (d := 0) (b := B276_6) (gs := []) (c' := (40, [some (22, 0), some (0, v1), some (0, v2), none, none, none, none], [(0, (wmul 5 v2)), (0, 998)], (hc, h, o))) K276_6 rfl trivial ?_
      rcases zI_s e with ⟨q3, e⟩ | ⟨q3, e⟩
      · refine zF_blk (m := []) (d := 1) (b := B276_9) (gs := [0 ≤ (wadd 998 (wmul 5 v2)) ∧ (wadd 998 (wmul 5 v2)) < 2140, (h 14 (wadd 998 (wmul 5 v2))) = v1]) (c' := (55, [some (22, 0), some (0, v1), some (0, v2), some (0, (wadd 998 (wmul 5 v2))), none, none, none], [], (hc, h, o))) K276_9 rfl ⟨q2, q3, trivial⟩ ?_
        obtain ⟨q4, e⟩ := zG_s e
        obtain ⟨q5, e⟩ := zG_s e
        refine zF_blk (m := []) (d := 0) (b := B276_7) (gs := [0 ≤ (wadd (wadd 998 (wmul 5 v2)) 1) ∧ (wadd (wadd 998 (wmul 5 v2)) 1) < 2140, 0 ≤ (h 14 (wadd (wadd 998 (wmul 5 v2)) 1)) ∧ (h 14 (wadd (wadd 998 (wmul 5 v2)) 1)) < 12]) (c' := (73, [some (22, 0), some (0, v1), some (0, v2), some (0, (wadd 998 (wmul 5 v2))), some (0, 0), some (1, (h 19 (h 14 (wadd (wadd 998 (wmul 5 v2)) 1)))), none], [], (hc, h, o))) K276_7 rfl ⟨q4, q5, trivial⟩ ?_
        exact T276_1 hd (F276_0 n) hk0 zFu v1 v2 (wadd 998 (wmul 5 v2)) 0 (h 19 (h 14 (wadd (wadd 998 (wmul 5 v2)) 1))) h _ e
      · refine zF_blk (m := []) (d := 0) (b := B276_9) (gs := [0 ≤ (wadd 998 (wmul 5 v2)) ∧ (wadd 998 (wmul 5 v2)) < 2140, ¬ ((h 14 (wadd 998 (wmul 5 v2))) = v1)]) (c' := (52, [some (22, 0), some (0, v1), some (0, v2), some (0, (wadd 998 (wmul 5 v2))), none, none, none], [], (hc, h, o))) K276_9 rfl ⟨q2, q3, trivial⟩ ?_
        refine zF_blk (m := []) (d := 0) (b := B276_8) (gs := []) (c' := (169, [some (22, 0), some (0, v1), some (0, v2), some (0, (wadd 998 (wmul 5 v2))), none, none, none], [], (hc, h, o))) K276_8 rfl trivial ?_
        refine zF_blk (m := [true, true, true, false, false, false, false]) (d := 0) (b := []) (gs := []) (c' := (169, [some (22, 0), some (0, v1), some (0, v2), none, none, none, none], [], (hc, h, o))) rfl rfl trivial ?_
        exact T276_2 hd (F276_0 n) hk0 v1 v2 h _ e
/-- EchoValeModel.write(I)I -/
def F276 (v1 : Int) (h : zHM) : Option (Int × zHM) := (F217 v1 (mset h 0 0 0)).bind fun r1 => if ¬ r1 = 0 then F276_0 zFu v1 0 (mset (mset h 0 0 0) 44 0 0) else some ((-1), (mset h 0 0 0))
set_option maxRecDepth 100000 in
theorem S276 {spec : zRn zH2} {hc : zHC} {o : Int → Int} {d : Nat} (hd : 3 ≤ d) (v1 : Int) (h : zHM) (v : (Int × zHM)) (e : F276 v1 h = some v) : zRu2 spec d 276 [(22, 0), (0, v1)] (hc, h, o) (some (0, v.1)) (hc, v.2, o) := by
  refine zF_in (D := 2) (mx := 7) (L := [some (22, 0), some (0, v1), none, none, none, none, none]) (by decide +kernel) rfl rfl hd (fun d hd => ?_)
  unfold F276 at e
  obtain ⟨r1, q1, e⟩ := zB_s e
  refine zF_blk (m := []) (d := 0) (b := B276_0) (gs := []) (c' := (7, [some (22, 0), some (0, v1), none, none, none, none, none], [(0, v1), (22, 0)], (hc, (mset h 0 0 0), o))) K276_0 rfl trivial ?_
  refine zF_call (k := 217) (cl := 12) (n := 2) (i := .invokevirtual 266) (args := [(22, 0), (0, v1)]) (rest := []) (g1 := (hc, (mset h 0 0 0), o)) (r1 := some (0, r1)) (by decide +kernel) rfl rfl rfl (st' := [(0, r1)]) rfl (S217 (Nat.le_trans (by decide) hd) v1 (mset h 0 0 0) _ q1) ?_
  rcases zI_s e with ⟨q2, e⟩ | ⟨q2, e⟩
  · refine zF_blk (m := []) (d := 1) (b := B276_3) (gs := [¬ r1 = 0]) (c' := (15, [some (22, 0), some (0, v1), none, none, none, none, none], [], (hc, (mset h 0 0 0), o))) K276_3 rfl ⟨q2, trivial⟩ ?_
    refine zF_blk (m := []) (d := 0) (b := B276_1) (gs := []) (c' := (22, [some (22, 0), some (0, v1), some (0, 0), none, none, none, none], [], (hc, (mset (mset h 0 0 0) 44 0 0), o))) K276_1 rfl trivial ?_
    exact T276_0 hd zFu v1 0 (mset (mset h 0 0 0) 44 0 0) _ e
  · refine zF_blk (m := []) (d := 0) (b := B276_3) (gs := [¬ (¬ r1 = 0)]) (c' := (13, [some (22, 0), some (0, v1), none, none, none, none, none], [], (hc, (mset h 0 0 0), o))) K276_3 rfl ⟨q2, trivial⟩ ?_
    refine zF_blk (m := []) (d := 0) (b := B276_2) (gs := []) (c' := (14, [some (22, 0), some (0, v1), none, none, none, none, none], [(0, (-1))], (hc, (mset h 0 0 0), o))) K276_2 rfl trivial ?_
    exact zF_riM (by decide +kernel) e
def B146_0 : List zRow := [(21, .iconst (-1), 1, (0, 0, 0))]
theorem K146_0 : zRk 146 B146_0 = true := by decide +kernel
def B146_1 : List zRow := [(12, .aload_n 0, 1, (0, 0, 0)), (13, .getfield 95, 3, (11, 13, 5243266)), (16, .iload_n 1, 1, (0, 0, 0)), (17, .iaload, 1, (0, 0, 0)), (18, .goto 4, 3, (0, 0, 0))]
theorem K146_1 : zRk 146 B146_1 = true := by decide +kernel
def B146_2 : List zRow := [(4, .iload_n 1, 1, (0, 0, 0)), (5, .aload_n 0, 1, (0, 0, 0)), (6, .getfield 327, 3, (11, 14, 0)), (9, .if_icmp .ge 12, 3, (0, 0, 0))]
theorem K146_2 : zRk 146 B146_2 = true := by decide +kernel
def B146_3 : List zRow := [(0, .iload_n 1, 1, (0, 0, 0)), (1, .ifCond .lt 20, 3, (0, 0, 0))]
theorem K146_3 : zRk 146 B146_3 = true := by decide +kernel
/-- EchoVale.byteAt(I)I -/
def F146 (v1 : Int) (h : zHC) : Option Int := if v1 < 0 then some (-1) else if (h 718 0 0) ≤ v1 then some (-1) else zG (0 ≤ v1 ∧ v1 < 96) (some (h 717 0 v1))
set_option maxRecDepth 100000 in
theorem S146 {spec : zRn zH2} {hm : zHM} {o : Int → Int} {d : Nat} (hd : 1 ≤ d) (v1 : Int) (h : zHC) (v : Int) (e : F146 v1 h = some v) : zRu2 spec d 146 [(21, 0), (0, v1)] (h, hm, o) (some (0, v)) (h, hm, o) := by
  refine zF_in (D := 0) (mx := 2) (L := [some (21, 0), some (0, v1)]) (by decide +kernel) rfl rfl hd (fun d hd => ?_)
  unfold F146 at e
  rcases zI_s e with ⟨q1, e⟩ | ⟨q1, e⟩
  · refine zF_blk (m := []) (d := 1) (b := B146_3) (gs := [v1 < 0]) (c' := (21, [some (21, 0), some (0, v1)], [], (h, hm, o))) K146_3 rfl ⟨q1, trivial⟩ ?_
    refine zF_blk (m := []) (d := 0) (b := B146_0) (gs := []) (c' := (22, [some (21, 0), some (0, v1)], [(0, (-1))], (h, hm, o))) K146_0 rfl trivial ?_
    obtain rfl := Option.some.inj e
    exact zF_ri (by decide +kernel)
  · refine zF_blk (m := []) (d := 0) (b := B146_3) (gs := [¬ (v1 < 0)]) (c' := (4, [some (21, 0), some (0, v1)], [], (h, hm, o))) K146_3 rfl ⟨q1, trivial⟩ ?_
    rcases zI_s e with ⟨q2, e⟩ | ⟨q2, e⟩
    · refine zF_blk (m := []) (d := 1) (b := B146_2) (gs := [(h 718 0 0) ≤ v1]) (c' := (21, [some (21, 0), some (0, v1)], [], (h, hm, o))) K146_2 rfl ⟨q2, trivial⟩ ?_
      refine zF_blk (m := []) (d := 0) (b := B146_0) (gs := []) (c' := (22, [some (21, 0), some (0, v1)], [(0, (-1))], (h, hm, o))) K146_0 rfl trivial ?_
      obtain rfl := Option.some.inj e
      exact zF_ri (by decide +kernel)
    · refine zF_blk (m := []) (d := 0) (b := B146_2) (gs := [¬ ((h 718 0 0) ≤ v1)]) (c' := (12, [some (21, 0), some (0, v1)], [], (h, hm, o))) K146_2 rfl ⟨q2, trivial⟩ ?_
      obtain ⟨q3, e⟩ := zG_s e
      refine zF_blk (m := []) (d := 0) (b := B146_1) (gs := [0 ≤ v1 ∧ v1 < 96]) (c' := (22, [some (21, 0), some (0, v1)], [(0, (h 717 0 v1))], (h, hm, o))) K146_1 rfl ⟨q3, trivial⟩ ?_
      obtain rfl := Option.some.inj e
      exact zF_ri (by decide +kernel)
