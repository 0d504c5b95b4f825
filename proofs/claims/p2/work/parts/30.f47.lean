/-! Functions of the methods, by wip/gen/lift.py. -/
def B272_0 : List zRow := [(0, .aload_n 0, 1, (0, 0, 0)), (1, .aload_n 0, 1, (0, 0, 0)), (2, .getfield 369, 3, (12, 38, 0)), (5, .ldc_w 372, 3, (0, 0, 1103515245)), (8, .imul, 1, (0, 0, 0)), (9, .sipush 12345, 3, (0, 0, 0)), (12, .iadd, 1, (0, 0, 0)), (13, .putfield 369, 3, (12, 38, 0)), (16, .aload_n 0, 1, (0, 0, 0))]
theorem K272_0 : zRk 272 B272_0 = true := by decide +kernel
def B272_1 : List zRow := [(17, .getfield 369, 3, (12, 38, 0)), (20, .bipush 8, 2, (0, 0, 0)), (22, .iushr, 1, (0, 0, 0)), (23, .iload_n 1, 1, (0, 0, 0)), (24, .irem, 1, (0, 0, 0))]
theorem K272_1 : zRk 272 B272_1 = true := by decide +kernel
/-- EchoValeModel.draw(I)I -/
def F272 (v1 : Int) (h : zHM) : Option (Int × zHM) := zG (¬ v1 = 0) (some ((wrem (wushr ((mset h 38 0 (wadd (wmul (h 38 0) 1103515245) 12345)) 38 0) 8) v1), (mset h 38 0 (wadd (wmul (h 38 0) 1103515245) 12345))))
set_option maxRecDepth 100000 in
theorem S272 {spec : zRn zH2} {hc : zHC} {o : Int → Int} {d : Nat} (hd : 1 ≤ d) (v1 : Int) (h : zHM) (v : (Int × zHM)) (e : F272 v1 h = some v) : zRu2 spec d 272 [(22, 0), (0, v1)] (hc, h, o) (some (0, v.1)) (hc, v.2, o) := by
  refine zF_in (D := 0) (mx := 2) (L := [some (22, 0), some (0, v1)]) (by decide +kernel) rfl rfl hd (fun d hd => ?_)
  unfold F272 at e
  obtain ⟨q1, e⟩ := zG_s e
  refine zF_blk (m := []) (d := 0) (b := B272_0) (gs := []) (c' := (17, [some (22, 0), some (0, v1)], [(22, 0)], (hc, (mset h 38 0 (wadd (wmul (h 38 0) 1103515245) 12345)), o))) K272_0 rfl trivial ?_
  refine zF_blk (m := []) (d := 0) (b := B272_1) (gs := [¬ v1 = 0]) (c' := (25, [some (22, 0), some (0, v1)], [(0, (wrem (wushr ((mset h 38 0 (wadd (wmul (h 38 0) 1103515245) 12345)) 38 0) 8) v1))], (hc, (mset h 38 0 (wadd (wmul (h 38 0) 1103515245) 12345)), o))) K272_1 rfl ⟨q1, trivial⟩ ?_
  exact zF_riM (by decide +kernel) e
def B271_0 : List zRow := [(0, .aload_n 0, 1, (0, 0, 0)), (1, .iload_n 2, 1, (0, 0, 0)), (2, .putfield 369, 3, (12, 38, 0)), (5, .aload_n 0, 1, (0, 0, 0)), (6, .iconst 0, 1, (0, 0, 0)), (7, .putfield 373, 3, (12, 39, 0)), (10, .aload_n 0, 1, (0, 0, 0)), (11, .iconst 0, 1, (0, 0, 0)), (12, .putfield 376, 3, (12, 40, 0)), (15, .iconst 0, 1, (0, 0, 0)), (16, .istore_n 3, 1, (0, 0, 0))]
theorem K271_0 : zRk 271 B271_0 = true := by decide +kernel
def B271_1 : List zRow := [(156, .iload_n 3, 1, (0, 0, 0))]
theorem K271_1 : zRk 271 B271_1 = true := by decide +kernel
def B271_2 : List zRow := [(36, .iconst 0, 1, (0, 0, 0)), (37, .istore 4, 2, (0, 0, 0)), (39, .aload_n 0, 1, (0, 0, 0)), (40, .iconst 4, 1, (0, 0, 0))]
theorem K271_2 : zRk 271 B271_2 = true := by decide +kernel
def B271_3 : List zRow := [(47, .aload_n 0, 1, (0, 0, 0)), (48, .iconst 5, 1, (0, 0, 0))]
theorem K271_3 : zRk 271 B271_3 = true := by decide +kernel
def B271_4 : List zRow := [(52, .istore 4, 2, (0, 0, 0)), (54, .aload_n 0, 1, (0, 0, 0)), (55, .dup, 1, (0, 0, 0)), (56, .getfield 373, 3, (12, 39, 0)), (59, .iconst 1, 1, (0, 0, 0)), (60, .iadd, 1, (0, 0, 0)), (61, .putfield 373, 3, (12, 39, 0))]
theorem K271_4 : zRk 271 B271_4 = true := by decide +kernel
def B271_5 : List zRow := [(44, .ifCond .ne 20, 3, (0, 0, 0))]
theorem K271_5 : zRk 271 B271_5 = true := by decide +kernel
def B271_6 : List zRow := [(22, .aload_n 0, 1, (0, 0, 0)), (23, .getfield 13, 3, (12, 14, 5251442)), (26, .sipush 209, 3, (0, 0, 0)), (29, .iaload, 1, (0, 0, 0)), (30, .sipush 400, 3, (0, 0, 0)), (33, .if_icmp .ge 123, 3, (0, 0, 0))]
theorem K271_6 : zRk 271 B271_6 = true := by decide +kernel
def B271_7 : List zRow := [(17, .iload_n 3, 1, (0, 0, 0)), (18, .iload_n 1, 1, (0, 0, 0)), (19, .if_icmp .ge 137, 3, (0, 0, 0))]
theorem K271_7 : zRk 271 B271_7 = true := by decide +kernel
def B271_8 : List zRow := [(64, .aload_n 0, 1, (0, 0, 0)), (65, .iload 4, 2, (0, 0, 0))]
theorem K271_8 : zRk 271 B271_8 = true := by decide +kernel
def B271_9 : List zRow := [(70, .aload_n 0, 1, (0, 0, 0)), (71, .iconst 3, 1, (0, 0, 0))]
theorem K271_9 : zRk 271 B271_9 = true := by decide +kernel
def B271_10 : List zRow := [(81, .aload_n 0, 1, (0, 0, 0)), (82, .aload_n 0, 1, (0, 0, 0)), (83, .getfield 13, 3, (12, 14, 5251442)), (86, .iconst 3, 1, (0, 0, 0)), (87, .iaload, 1, (0, 0, 0))]
theorem K271_10 : zRk 271 B271_10 = true := by decide +kernel
def B271_11 : List zRow := [(91, .istore 5, 2, (0, 0, 0)), (93, .aload_n 0, 1, (0, 0, 0)), (94, .bipush 99, 2, (0, 0, 0))]
theorem K271_11 : zRk 271 B271_11 = true := by decide +kernel
def B271_12 : List zRow := [(99, .iconst 1, 1, (0, 0, 0)), (100, .iadd, 1, (0, 0, 0)), (101, .istore 6, 2, (0, 0, 0)), (103, .aload_n 0, 1, (0, 0, 0)), (104, .bipush 9, 2, (0, 0, 0))]
theorem K271_12 : zRk 271 B271_12 = true := by decide +kernel
def B271_13 : List zRow := [(129, .aload_n 0, 1, (0, 0, 0)), (130, .iload 5, 2, (0, 0, 0)), (132, .iload 6, 2, (0, 0, 0)), (134, .iload 7, 2, (0, 0, 0))]
theorem K271_13 : zRk 271 B271_13 = true := by decide +kernel
def B271_14 : List zRow := [(139, .pop, 1, (0, 0, 0)), (140, .aload_n 0, 1, (0, 0, 0)), (141, .dup, 1, (0, 0, 0)), (142, .getfield 376, 3, (12, 40, 0)), (145, .iconst 1, 1, (0, 0, 0)), (146, .iadd, 1, (0, 0, 0)), (147, .putfield 376, 3, (12, 40, 0))]
theorem K271_14 : zRk 271 B271_14 = true := by decide +kernel
def B271_15 : List zRow := [(126, .goto 24, 3, (0, 0, 0))]
theorem K271_15 : zRk 271 B271_15 = true := by decide +kernel
def B271_16 : List zRow := [(109, .iconst 1, 1, (0, 0, 0)), (110, .iadd, 1, (0, 0, 0)), (111, .istore 7, 2, (0, 0, 0)), (113, .aload_n 0, 1, (0, 0, 0)), (114, .getfield 13, 3, (12, 14, 5251442)), (117, .sipush 216, 3, (0, 0, 0)), (120, .iaload, 1, (0, 0, 0)), (121, .bipush 30, 2, (0, 0, 0)), (123, .if_icmp .ne 6, 3, (0, 0, 0))]
theorem K271_16 : zRk 271 B271_16 = true := by decide +kernel
def B271_17 : List zRow := [(78, .goto 72, 3, (0, 0, 0))]
theorem K271_17 : zRk 271 B271_17 = true := by decide +kernel
def B271_18 : List zRow := [(75, .ifCond .eq 6, 3, (0, 0, 0))]
theorem K271_18 : zRk 271 B271_18 = true := by decide +kernel
def B271_19 : List zRow := [(150, .iinc 3 1, 3, (0, 0, 0)), (153, .goto (-136), 3, (0, 0, 0))]
theorem K271_19 : zRk 271 B271_19 = true := by decide +kernel
def F271_2 (k0 : Int → Int → zHM → Option (Int × zHM)) (v1 : Int) (v3 : Int) (h : zHM) : Option (Int × zHM) := k0 v1 (wadd v3 1) h
set_option maxRecDepth 100000 in
theorem T271_2 {spec : zRn zH2} {hc : zHC} {o : Int → Int} {d : Nat} (hd : 5 ≤ d) (k0 : Int → Int → zHM → Option (Int × zHM)) (hk0 : ∀ (v1 : Int) (v3 : Int) (h : zHM) (v : (Int × zHM)), k0 v1 v3 h = some v → zFin 0 (fun _ => 0) (zRu2 spec d) 271 (some (0, v.1)) (hc, v.2, o) (17, [some (22, 0), some (0, v1), none, some (0, v3), none, none, none, none], [], (hc, h, o))) (v1 : Int) (v3 : Int) (h : zHM) (v : (Int × zHM)) (e : F271_2 k0 v1 v3 h = some v) : zFin 0 (fun _ => 0) (zRu2 spec d) 271 (some (0, v.1)) (hc, v.2, o) (150, [some (22, 0), some (0, v1), none, some (0, v3), none, none, none, none], [], (hc, h, o)) := by
  unfold F271_2 at e
  refine zF_blk (m := []) (d := 0) (b := B271_19) (gs := []) (c' := (17, [some (22, 0), some (0, v1), none, some (0, (wadd v3 1)), none, none, none, none], [], (hc, h, o))) K271_19 rfl trivial ?_
  exact hk0 v1 (wadd v3 1) h _ e
def F271_1 (k0 : Int → Int → zHM → Option (Int × zHM)) (v1 : Int) (v3 : Int) (v4 : Int) (h : zHM) : Option (Int × zHM) := (F236 v4 h).bind fun r1 => (F272 3 r1).bind fun r2 => if r2.1 = 0 then (F272 (r2.2 14 3) r2.2).bind fun r3 => (F272 99 r3.2).bind fun r4 => (F272 9 r4.2).bind fun r5 => if ¬ (r5.2 14 216) = 30 then (F227 r3.1 (wadd r4.1 1) (wadd r5.1 1) r5.2).bind fun r6 => F271_2 k0 v1 v3 (mset r6.2 40 0 (wadd (r6.2 40 0) 1)) else F271_2 k0 v1 v3 r5.2 else F271_2 k0 v1 v3 r2.2
set_option maxRecDepth 100000 in
theorem T271_1 {spec : zRn zH2} {hc : zHC} {o : Int → Int} {d : Nat} (hd : 5 ≤ d) (k0 : Int → Int → zHM → Option (Int × zHM)) (hk0 : ∀ (v1 : Int) (v3 : Int) (h : zHM) (v : (Int × zHM)), k0 v1 v3 h = some v → zFin 0 (fun _ => 0) (zRu2 spec d) 271 (some (0, v.1)) (hc, v.2, o) (17, [some (22, 0), some (0, v1), none, some (0, v3), none, none, none, none], [], (hc, h, o))) (v1 : Int) (v3 : Int) (v4 : Int) (h : zHM) (v : (Int × zHM)) (e : F271_1 k0 v1 v3 v4 h = some v) : zFin 0 (fun _ => 0) (zRu2 spec d) 271 (some (0, v.1)) (hc, v.2, o) (64, [some (22, 0), some (0, v1), none, some (0, v3), some (0, v4), none, none, none], [], (hc, h, o)) := by
  unfold F271_1 at e
  obtain ⟨r1, q1, e⟩ := zB_s e
  refine zF_blk (m := []) (d := 0) (b := B271_8) (gs := []) (c' := (67, [some (22, 0), some (0, v1), none, some (0, v3), some (0, v4), none, none, none], [(0, v4), (22, 0)], (hc, h, o))) K271_8 rfl trivial ?_
  refine zF_call (k := 236) (cl := 12) (n := 2) (i := .invokevirtual 302) (args := [(22, 0), (0, v4)]) (rest := []) (g1 := (hc, r1, o)) (r1 := none) (by decide +kernel) rfl rfl rfl (st' := []) rfl (S236 (Nat.le_trans (by decide) hd) v4 h _ q1) ?_
  obtain ⟨r2, q2, e⟩ := zB_s e
  refine zF_blk (m := []) (d := 0) (b := B271_9) (gs := []) (c' := (72, [some (22, 0), some (0, v1), none, some (0, v3), some (0, v4), none, none, none], [(0, 3), (22, 0)], (hc, r1, o))) K271_9 rfl trivial ?_
  refine zF_call (k := 272) (cl := 12) (n := 2) (i := .invokevirtual 379) (args := [(22, 0), (0, 3)]) (rest := []) (g1 := (hc, r2.2, o)) (r1 := some (0, r2.1)) (by decide +kernel) rfl rfl rfl (st' := [(0, r2.1)]) rfl (S272 (Nat.le_trans (by decide) hd) 3 r1 _ q2) ?_
  rcases zI_s e with ⟨q3, e⟩ | ⟨q3, e⟩
  · refine zF_blk (m := []) (d := 1) (b := B271_18) (gs := [r2.1 = 0]) (c' := (81, [some (22, 0), some (0, v1), none, some (0, v3), some (0, v4), none, none, none], [], (hc, r2.2, o))) K271_18 rfl ⟨q3, trivial⟩ ?_
    obtain ⟨r3, q4, e⟩ := zB_s e
    refine zF_blk (m := []) (d := 0) (b := B271_10) (gs := [0 ≤ 3 ∧ 3 < 2140]) (c' := (88, [some (22, 0), some (0, v1), none, some (0, v3), some (0, v4), none, none, none], [(0, (r2.2 14 3)), (22, 0)], (hc, r2.2, o))) K271_10 rfl ⟨by decide, trivial⟩ ?_
    refine zF_call (k := 272) (cl := 12) (n := 2) (i := .invokevirtual 379) (args := [(22, 0), (0, (r2.2 14 3))]) (rest := []) (g1 := (hc, r3.2, o)) (r1 := some (0, r3.1)) (by decide +kernel) rfl rfl rfl (st' := [(0, r3.1)]) rfl (S272 (Nat.le_trans (by decide) hd) (r2.2 14 3) r2.2 _ q4) ?_
    obtain ⟨r4, q5, e⟩ := zB_s e
    refine zF_blk (m := []) (d := 0) (b := B271_11) (gs := []) (c' := (96, [some (22, 0), some (0, v1), none, some (0, v3), some (0, v4), some (0, r3.1), none, none], [(0, 99), (22, 0)], (hc, r3.2, o))) K271_11 rfl trivial ?_
    refine zF_call (k := 272) (cl := 12) (n := 2) (i := .invokevirtual 379) (args := [(22, 0), (0, 99)]) (rest := []) (g1 := (hc, r4.2, o)) (r1 := some (0, r4.1)) (by decide +kernel) rfl rfl rfl (st' := [(0, r4.1)]) rfl (S272 (Nat.le_trans (by decide) hd) 99 r3.2 _ q5) ?_
    obtain ⟨r5, q6, e⟩ := zB_s e
    refine zF_blk (m := []) (d := 0) (b := B271_12) (gs := []) (c' := (106, [some (22, 0), some (0, v1), none, some (0, v3), some (0, v4), some (0, r3.1), some (0, (wadd r4.1 1)), none], [(0, 9), (22, 0)], (hc, r4.2, o))) K271_12 rfl trivial ?_
    refine zF_call (k := 272) (cl := 12) (n := 2) (i := .invokevirtual 379) (args := [(22, 0), (0, 9)]) (rest := []) (g1 := (hc, r5.2, o)) (r1 := some (0, r5.1)) (by decide +kernel) rfl rfl rfl (st' := [(0, r5.1)]) rfl (S272 (Nat.le_trans (by decide) hd) 9 r4.2 _ q6) ?_
    rcases zI_s e with ⟨q7, e⟩ | ⟨q7, e⟩
    · refine zF_blk (m := []) (d := 1) (b := B271_16) (gs := [0 ≤ 216 ∧ 216 < 2140, ¬ (r5.2 14 216) = 30]) (c' := (129, [some (22, 0), some (0, v1), none, some (0, v3), some (0, v4), some (0, r3.1), some (0, (wadd r4.1 1)), some (0, (wadd r5.1 1))], [], (hc, r5.2, o))) K271_16 rfl ⟨by decide, q7, trivial⟩ ?_
      obtain ⟨r6, q8, e⟩ := zB_s e
      refine zF_blk (m := []) (d := 0) (b := B271_13) (gs := []) (c' := (136, [some (22, 0), some (0, v1), none, some (0, v3), some (0, v4), some (0, r3.1), some (0, (wadd r4.1 1)), some (0, (wadd r5.1 1))], [(0, (wadd r5.1 1)), (0, (wadd r4.1 1)), (0, r3.1), (22, 0)], (hc, r5.2, o))) K271_13 rfl trivial ?_
      refine zF_call (k := 227) (cl := 12) (n := 4) (i := .invokevirtual 311) (args := [(22, 0), (0, r3.1), (0, (wadd r4.1 1)), (0, (wadd r5.1 1))]) (rest := []) (g1 := (hc, r6.2, o)) (r1 := some (0, r6.1)) (by decide +kernel) rfl rfl rfl (st' := [(0, r6.1)]) rfl (S227 (Nat.le_trans (by decide) hd) r3.1 (wadd r4.1 1) (wadd r5.1 1) r5.2 _ q8) ?_
      refine zF_blk (m := []) (d := 0) (b := B271_14) (gs := []) (c' := (150, [some (22, 0), some (0, v1), none, some (0, v3), some (0, v4), some (0, r3.1), some (0, (wadd r4.1 1)), some (0, (wadd r5.1 1))], [], (hc, (mset r6.2 40 0 (wadd (r6.2 40 0) 1)), o))) K271_14 rfl trivial ?_
      refine zF_blk (m := [true, true, false, true, false, false, false, false]) (d := 0) (b := []) (gs := []) (c' := (150, [some (22, 0), some (0, v1), none, some (0, v3), none, none, none, none], [], (hc, (mset r6.2 40 0 (wadd (r6.2 40 0) 1)), o))) rfl rfl trivial ?_
      exact T271_2 hd k0 hk0 v1 v3 (mset r6.2 40 0 (wadd (r6.2 40 0) 1)) _ e
    · refine zF_blk (m := []) (d := 0) (b := B271_16) (gs := [0 ≤ 216 ∧ 216 < 2140, ¬ (¬ (r5.2 14 216) = 30)]) (c' := (126, [some (22, 0), some (0, v1), none, some (0, v3), some (0, v4), some (0, r3.1), some (0, (wadd r4.1 1)), some (0, (wadd r5.1 1))], [], (hc, r5.2, o))) K271_16 rfl ⟨by decide, q7, trivial⟩ ?_
      refine zF_blk (m := []) (d := 0) (b := B271_15) (gs := []) (c' := (150, [some (22, 0), some (0, v1), none, some (0, v3), some (0, v4), some (0, r3.1), some (0, (wadd r4.1 1)), some (0, (wadd r5.1 1))], [], (hc, r5.2, o))) K271_15 rfl trivial ?_
      refine zF_blk (m := [true, true, false, true, false, false, false, false]) (d := 0) (b := []) (gs := []) (c' := (150, [some (22, 0), some (0, v1), none, some (0, v3), none, none, none, none], [], (hc, r5.2, o))) rfl rfl trivial ?_
      exact T271_2 hd k0 hk0 v1 v3 r5.2 _ e
  · refine zF_blk (m := []) (d := 0) (b := B271_18) (gs := [¬ (r2.1 = 0)]) (c' := (78, [some (22, 0), some (0, v1), none, some (0, v3), some (0, v4), none, none, none], [], (hc, r2.2, o))) K271_18 rfl ⟨q3, trivial⟩ ?_
    refine zF_blk (m := []) (d := 0) (b := B271_17) (gs := []) (c' := (150, [some (22, 0), some (0, v1), none, some (0, v3), some (0, v4), none, none, none], [], (hc, r2.2, o))) K271_17 rfl trivial ?_
    refine zF_blk (m := [true, true, false, true, false, false, false, false]) (d := 0) (b := []) (gs := []) (c' := (150, [some (22, 0), some (0, v1), none, some (0, v3), none, none, none, none], [], (hc, r2.2, o))) rfl rfl trivial ?_
    exact T271_2 hd k0 hk0 v1 v3 r2.2 _ e
def F271_0 : Nat → Int → Int → zHM → Option (Int × zHM)
  | 0, _, _, _ => none
  | n + 1, v1, v3, h => if v1 ≤ v3 then some (v3, h) else if 400 ≤ (h 14 209) then some (v3, h) else (F272 4 h).bind fun r1 => if ¬ r1.1 = 0 then F271_1 (F271_0 n) v1 v3 0 r1.2 else (F272 5 r1.2).bind fun r2 => F271_1 (F271_0 n) v1 v3 r2.1 (mset r2.2 39 0 (wadd (r2.2 39 0) 1))
set_option maxRecDepth 100000 in
theorem T271_0 {spec : zRn zH2} {hc : zHC} {o : Int → Int} {d : Nat} (hd : 5 ≤ d) : ∀ (n : Nat) (v1 : Int) (v3 : Int) (h : zHM) (v : (Int × zHM)), F271_0 n v1 v3 h = some v → zFin 0 (fun _ => 0) (zRu2 spec d) 271 (some (0, v.1)) (hc, v.2, o) (17, [some (22, 0), some (0, v1), none, some (0, v3), none, none, none, none], [], (hc, h, o)) := by
  intro n
  induction n with
  | zero => intro v1 v3 h v e; unfold F271_0 at e; cases e
  | succ n hk0 =>
    intro v1 v3 h v e
    unfold F271_0 at e
    rcases zI_s e with ⟨q1, e⟩ | ⟨q1, e⟩
    · refine zF_blk (m := []) (d := 1) (b := B271_7) (gs := [v1 ≤ v3]) (c' := (156, [some (22, 0), some (0, v1), none, some (0, v3), none, none, none, none], [], (hc, h, o))) K271_7 rfl ⟨q1, trivial⟩ ?_
      refine zF_blk (m := []) (d := 0) (b := B271_1) (gs := []) (c' := (157, [some (22, 0), some (0, v1), none, some (0, v3), none, none, none, none], [(0, v3)], (hc, h, o))) K271_1 rfl trivial ?_
      exact zF_riM (by decide +kernel) e
    · refine zF_blk (m := []) (d := 0) (b := B271_7) (gs := [¬ (v1 ≤ v3)]) (c' := (22, [some (22, 0), some (0, v1), none, some (0, v3), none, none, none, none], [], (hc, h, o))) K271_7 rfl ⟨q1, trivial⟩ ?_
      rcases zI_s e with ⟨q2, e⟩ | ⟨q2, e⟩
      · refine zF_blk (m := []) (d := 1) (b := B271_6) (gs := [0 ≤ 209 ∧ 209 < 2140, 400 ≤ (h 14 209)]) (c' := (156, [some (22, 0), some (0, v1), none, some (0, v3), none, none, none, none], [], (hc, h, o))) K271_6 rfl ⟨by decide, q2, trivial⟩ ?_
        refine zF_blk (m := []) (d := 0) (b := B271_1) (gs := []) (c' := (157, [some (22, 0), some (0, v1), none, some (0, v3), none, none, none, none], [(0, v3)], (hc, h, o))) K271_1 rfl trivial ?_
        exact zF_riM (by decide +kernel) e
      · refine zF_blk (m := []) (d := 0) (b := B271_6) (gs := [0 ≤ 209 ∧ 209 < 2140, ¬ (400 ≤ (h 14 209))]) (c' := (36, [some (22, 0), some (0, v1), none, some (0, v3), none, none, none, none], [], (hc, h, o))) K271_6 rfl ⟨by decide, q2, trivial⟩ ?_
        obtain ⟨r1, q3, e⟩ := zB_s e
        refine zF_blk (m := []) (d := 0) (b := B271_2) (gs := []) (c' := (41, [some (22, 0), some (0, v1), none, some (0, v3), some (0, 0), none, none, none], [(0, 4), (22, 0)], (hc, h, o))) K271_2 rfl trivial ?_
        refine zF_call (k := 272) (cl := 12) (n := 2) (i := .invokevirtual 379) (args := [(22, 0), (0, 4)]) (rest := []) (g1 := (hc, r1.2, o)) (r1 := some (0, r1.1)) (by decide +kernel) rfl rfl rfl (st' := [(0, r1.1)]) rfl (S272 (Nat.le_trans (by decide) hd) 4 h _ q3) ?_
        rcases zI_s e with ⟨q4, e⟩ | ⟨q4, e⟩
        · refine zF_blk (m := []) (d := 1) (b := B271_5) (gs := [¬ r1.1 = 0]) (c' := (64, [some (22, 0), some (0, v1), none, some (0, v3), some (0, 0), none, none, none], [], (hc, r1.2, o))) K271_5 rfl ⟨q4, trivial⟩ ?_
          exact T271_1 hd (F271_0 n) hk0 v1 v3 0 r1.2 _ e
        · refine zF_blk (m := []) (d := 0) (b := B271_5) (gs := [¬ (¬ r1.1 = 0)]) (c' := (47, [some (22, 0), some (0, v1), none, some (0, v3), some (0, 0), none, none, none], [], (hc, r1.2, o))) K271_5 rfl ⟨q4, trivial⟩ ?_
          obtain ⟨r2, q5, e⟩ := zB_s e
          refine zF_blk (m := []) (d := 0) (b := B271_3) (gs := []) (c' := (49, [some (22, 0), some (0, v1), none, some (0, v3), some (0, 0), none, none, none], [(0, 5), (22, 0)], (hc, r1.2, o))) K271_3 rfl trivial ?_
          refine zF_call (k := 272) (cl := 12) (n := 2) (i := .invokevirtual 379) (args := [(22, 0), (0, 5)]) (rest := []) (g1 := (hc, r2.2, o)) (r1 := some (0, r2.1)) (by decide +kernel) rfl rfl rfl (st' := [(0, r2.1)]) rfl (S272 (Nat.le_trans (by decide) hd) 5 r1.2 _ q5) ?_
          refine zF_blk (m := []) (d := 0) (b := B271_4) (gs := []) (c' := (64, [some (22, 0), some (0, v1), none, some (0, v3), some (0, r2.1), none, none, none], [], (hc, (mset r2.2 39 0 (wadd (r2.2 39 0) 1)), o))) K271_4 rfl trivial ?_
          exact T271_1 hd (F271_0 n) hk0 v1 v3 r2.1 (mset r2.2 39 0 (wadd (r2.2 39 0) 1)) _ e
/-- EchoValeModel.drawnBy(II)I -/
def F271 (v1 : Int) (v2 : Int) (h : zHM) : Option (Int × zHM) := F271_0 zFu v1 0 (mset (mset (mset h 38 0 v2) 39 0 0) 40 0 0)
set_option maxRecDepth 100000 in
theorem S271 {spec : zRn zH2} {hc : zHC} {o : Int → Int} {d : Nat} (hd : 6 ≤ d) (v1 : Int) (v2 : Int) (h : zHM) (v : (Int × zHM)) (e : F271 v1 v2 h = some v) : zRu2 spec d 271 [(22, 0), (0, v1), (0, v2)] (hc, h, o) (some (0, v.1)) (hc, v.2, o) := by
  refine zF_in (D := 5) (mx := 8) (L := [some (22, 0), some (0, v1), some (0, v2), none, none, none, none, none]) (by decide +kernel) rfl rfl hd (fun d hd => ?_)
  unfold F271 at e
  refine zF_blk (m := []) (d := 0) (b := B271_0) (gs := []) (c' := (17, [some (22, 0), some (0, v1), some (0, v2), some (0, 0), none, none, none, none], [], (hc, (mset (mset (mset h 38 0 v2) 39 0 0) 40 0 0), o))) K271_0 rfl trivial ?_
  refine zF_blk (m := [true, true, false, true, false, false, false, false]) (d := 0) (b := []) (gs := []) (c' := (17, [some (22, 0), some (0, v1), none, some (0, 0), none, none, none, none], [], (hc, (mset (mset (mset h 38 0 v2) 39 0 0) 40 0 0), o))) rfl rfl trivial ?_
  exact T271_0 hd zFu v1 0 (mset (mset (mset h 38 0 v2) 39 0 0) 40 0 0) _ e
def B270_0 : List zRow := [(0, .aload_n 0, 1, (0, 0, 0)), (1, .iconst 0, 1, (0, 0, 0)), (2, .putfield 81, 3, (12, 0, 0)), (5, .iload_n 1, 1, (0, 0, 0)), (6, .iconst 1, 1, (0, 0, 0)), (7, .bipush 100, 2, (0, 0, 0))]
theorem K270_0 : zRk 270 B270_0 = true := by decide +kernel
def B270_1 : List zRow := [(24, .iconst (-1), 1, (0, 0, 0))]
theorem K270_1 : zRk 270 B270_1 = true := by decide +kernel
def B270_2 : List zRow := [(40, .aload_n 0, 1, (0, 0, 0))]
theorem K270_2 : zRk 270 B270_2 = true := by decide +kernel
def B270_3 : List zRow := [(26, .aload_n 0, 1, (0, 0, 0)), (27, .getfield 13, 3, (12, 14, 5251442)), (30, .sipush 209, 3, (0, 0, 0)), (33, .iaload, 1, (0, 0, 0)), (34, .sipush 400, 3, (0, 0, 0)), (37, .if_icmp .ge 7, 3, (0, 0, 0))]
theorem K270_3 : zRk 270 B270_3 = true := by decide +kernel
def B270_4 : List zRow := [(15, .aload_n 0, 1, (0, 0, 0)), (16, .getfield 13, 3, (12, 14, 5251442)), (19, .iconst 3, 1, (0, 0, 0)), (20, .iaload, 1, (0, 0, 0)), (21, .ifCond .ne 5, 3, (0, 0, 0))]
theorem K270_4 : zRk 270 B270_4 = true := by decide +kernel
def B270_5 : List zRow := [(12, .ifCond .eq 12, 3, (0, 0, 0))]
theorem K270_5 : zRk 270 B270_5 = true := by decide +kernel
def B270_6 : List zRow := [(44, .aload_n 0, 1, (0, 0, 0)), (45, .iload_n 1, 1, (0, 0, 0)), (46, .iload_n 2, 1, (0, 0, 0))]
theorem K270_6 : zRk 270 B270_6 = true := by decide +kernel
def B270_7 : List zRow := [(50, .istore_n 3, 1, (0, 0, 0)), (51, .aload_n 0, 1, (0, 0, 0)), (52, .getfield 69, 3, (12, 41, 5242890)), (55, .iconst 0, 1, (0, 0, 0)), (56, .aload_n 0, 1, (0, 0, 0)), (57, .getfield 373, 3, (12, 39, 0)), (60, .iastore, 1, (0, 0, 0)), (61, .aload_n 0, 1, (0, 0, 0)), (62, .getfield 69, 3, (12, 41, 5242890)), (65, .iconst 1, 1, (0, 0, 0)), (66, .aload_n 0, 1, (0, 0, 0)), (67, .getfield 376, 3, (12, 40, 0)), (70, .iastore, 1, (0, 0, 0)), (71, .iload_n 3, 1, (0, 0, 0))]
theorem K270_7 : zRk 270 B270_7 = true := by decide +kernel
def F270_0 (v1 : Int) (v2 : Int) (h : zHM) : Option (Int × zHM) := (F271 v1 v2 h).bind fun r1 => some (r1.1, (mset (mset r1.2 41 0 (r1.2 39 0)) 41 1 (r1.2 40 0)))
set_option maxRecDepth 100000 in
theorem T270_0 {spec : zRn zH2} {hc : zHC} {o : Int → Int} {d : Nat} (hd : 6 ≤ d) (v1 : Int) (v2 : Int) (h : zHM) (v : (Int × zHM)) (e : F270_0 v1 v2 h = some v) : zFin 0 (fun _ => 0) (zRu2 spec d) 270 (some (0, v.1)) (hc, v.2, o) (44, [some (22, 0), some (0, v1), some (0, v2), none], [], (hc, h, o)) := by
  unfold F270_0 at e
  obtain ⟨r1, q1, e⟩ := zB_s e
  refine zF_blk (m := []) (d := 0) (b := B270_6) (gs := []) (c' := (47, [some (22, 0), some (0, v1), some (0, v2), none], [(0, v2), (0, v1), (22, 0)], (hc, h, o))) K270_6 rfl trivial ?_
  refine zF_call (k := 271) (cl := 12) (n := 3) (i := .invokevirtual 382) (args := [(22, 0), (0, v1), (0, v2)]) (rest := []) (g1 := (hc, r1.2, o)) (r1 := some (0, r1.1)) (by decide +kernel) rfl rfl rfl (st' := [(0, r1.1)]) rfl (S271 (Nat.le_trans (by decide) hd) v1 v2 h _ q1) ?_
  refine zF_blk (m := []) (d := 0) (b := B270_7) (gs := [0 ≤ 0 ∧ 0 < 2, 0 ≤ 1 ∧ 1 < 2]) (c' := (72, [some (22, 0), some (0, v1), some (0, v2), some (0, r1.1)], [(0, r1.1)], (hc, (mset (mset r1.2 41 0 (r1.2 39 0)) 41 1 (r1.2 40 0)), o))) K270_7 rfl ⟨by decide, by decide, trivial⟩ ?_
  exact zF_riM (by decide +kernel) e
/-- EchoValeModel.drawn(II)I -/
def F270 (v1 : Int) (v2 : Int) (h : zHM) : Option (Int × zHM) := (F188 v1 1 100).bind fun r1 => if r1 = 0 then some ((-1), (mset h 0 0 0)) else if ¬ (h 14 3) = 0 then if 400 ≤ (h 14 209) then F270_0 v1 v2 (mset h 0 0 0) else (F225 (mset h 0 0 0)).bind fun r2 => F270_0 v1 v2 r2 else some ((-1), (mset h 0 0 0))
set_option maxRecDepth 100000 in
theorem S270 {spec : zRn zH2} {hc : zHC} {o : Int → Int} {d : Nat} (hd : 7 ≤ d) (v1 : Int) (v2 : Int) (h : zHM) (v : (Int × zHM)) (e : F270 v1 v2 h = some v) : zRu2 spec d 270 [(22, 0), (0, v1), (0, v2)] (hc, h, o) (some (0, v.1)) (hc, v.2, o) := by
  refine zF_in (D := 6) (mx := 4) (L := [some (22, 0), some (0, v1), some (0, v2), none]) (by decide +kernel) rfl rfl hd (fun d hd => ?_)
  unfold F270 at e
  obtain ⟨r1, q1, e⟩ := zB_s e
  refine zF_blk (m := []) (d := 0) (b := B270_0) (gs := []) (c' := (9, [some (22, 0), some (0, v1), some (0, v2), none], [(0, 100), (0, 1), (0, v1)], (hc, (mset h 0 0 0), o))) K270_0 rfl trivial ?_
  refine zF_call (k := 188) (cl := 12) (n := 3) (i := .invokestatic 151) (args := [(0, v1), (0, 1), (0, 100)]) (rest := []) (g1 := (hc, (mset h 0 0 0), o)) (r1 := some (0, r1)) (by decide +kernel) rfl rfl rfl (st' := [(0, r1)]) rfl (S188 (Nat.le_trans (by decide) hd) v1 1 100 (mset h 0 0 0) _ q1) ?_
  rcases zI_s e with ⟨q2, e⟩ | ⟨q2, e⟩
  · refine zF_blk (m := []) (d := 1) (b := B270_5) (gs := [r1 = 0]) (c' := (24, [some (22, 0), some (0, v1), some (0, v2), none], [], (hc, (mset h 0 0 0), o))) K270_5 rfl ⟨q2, trivial⟩ ?_
    refine zF_blk (m := []) (d := 0) (b := B270_1) (gs := []) (c' := (25, [some (22, 0), some (0, v1), some (0, v2), none], [(0, (-1))], (hc, (mset h 0 0 0), o))) K270_1 rfl trivial ?_
    exact zF_riM (by decide +kernel) e
  · refine zF_blk (m := []) (d := 0) (b := B270_5) (gs := [¬ (r1 = 0)]) (c' := (15, [some (22, 0), some (0, v1), some (0, v2), none], [], (hc, (mset h 0 0 0), o))) K270_5 rfl ⟨q2, trivial⟩ ?_
    rcases zI_s e with ⟨q3, e⟩ | ⟨q3, e⟩
    · refine zF_blk (m := []) (d := 1) (b := B270_4) (gs := [0 ≤ 3 ∧ 3 < 2140, ¬ (h 14 3) = 0]) (c' := (26, [some (22, 0), some (0, v1), some (0, v2), none], [], (hc, (mset h 0 0 0), o))) K270_4 rfl ⟨by decide, q3, trivial⟩ ?_
      rcases zI_s e with ⟨q4, e⟩ | ⟨q4, e⟩
      · refine zF_blk (m := []) (d := 1) (b := B270_3) (gs := [0 ≤ 209 ∧ 209 < 2140, 400 ≤ (h 14 209)]) (c' := (44, [some (22, 0), some (0, v1), some (0, v2), none], [], (hc, (mset h 0 0 0), o))) K270_3 rfl ⟨by decide, q4, trivial⟩ ?_
        exact T270_0 hd v1 v2 (mset h 0 0 0) _ e
      · refine zF_blk (m := []) (d := 0) (b := B270_3) (gs := [0 ≤ 209 ∧ 209 < 2140, ¬ (400 ≤ (h 14 209))]) (c' := (40, [some (22, 0), some (0, v1), some (0, v2), none], [], (hc, (mset h 0 0 0), o))) K270_3 rfl ⟨by decide, q4, trivial⟩ ?_
        obtain ⟨r2, q5, e⟩ := zB_s e
        refine zF_blk (m := []) (d := 0) (b := B270_2) (gs := []) (c' := (41, [some (22, 0), some (0, v1), some (0, v2), none], [(22, 0)], (hc, (mset h 0 0 0), o))) K270_2 rfl trivial ?_
        refine zF_call (k := 225) (cl := 12) (n := 1) (i := .invokevirtual 308) (args := [(22, 0)]) (rest := []) (g1 := (hc, r2, o)) (r1 := none) (by decide +kernel) rfl rfl rfl (st' := []) rfl (S225 (Nat.le_trans (by decide) hd)  (mset h 0 0 0) _ q5) ?_
        exact T270_0 hd v1 v2 r2 _ e
    · refine zF_blk (m := []) (d := 0) (b := B270_4) (gs := [0 ≤ 3 ∧ 3 < 2140, ¬ (¬ (h 14 3) = 0)]) (c' := (24, [some (22, 0), some (0, v1), some (0, v2), none], [], (hc, (mset h 0 0 0), o))) K270_4 rfl ⟨by decide, q3, trivial⟩ ?_
      refine zF_blk (m := []) (d := 0) (b := B270_1) (gs := []) (c' := (25, [some (22, 0), some (0, v1), some (0, v2), none], [(0, (-1))], (hc, (mset h 0 0 0), o))) K270_1 rfl trivial ?_
      exact zF_riM (by decide +kernel) e
def B137_0 : List zRow := [(28, .aload_n 0, 1, (0, 0, 0)), (29, .getfield 98, 3, (11, 15, 0))]
theorem K137_0 : zRk 137 B137_0 = true := by decide +kernel
def B137_1 : List zRow := [(0, .iload_n 1, 1, (0, 0, 0)), (1, .lookupswitch 37 #[(0, 27), (1, 32)], 27, (0, 0, 0))]
theorem K137_1 : zRk 137 B137_1 = true := by decide +kernel
def B137_2 : List zRow := [(33, .aload_n 0, 1, (0, 0, 0)), (34, .getfield 102, 3, (11, 16, 0))]
theorem K137_2 : zRk 137 B137_2 = true := by decide +kernel
def B137_3 : List zRow := [(38, .iconst (-1), 1, (0, 0, 0))]
theorem K137_3 : zRk 137 B137_3 = true := by decide +kernel
/-- EchoVale.storms(I)I -/
def F137 (v1 : Int) (h : zHC) : Option Int := if v1 = 0 then some (h 719 0 0) else if v1 = 1 then some (h 720 0 0) else some (-1)
set_option maxRecDepth 100000 in
theorem S137 {spec : zRn zH2} {hm : zHM} {o : Int → Int} {d : Nat} (hd : 1 ≤ d) (v1 : Int) (h : zHC) (v : Int) (e : F137 v1 h = some v) : zRu2 spec d 137 [(21, 0), (0, v1)] (h, hm, o) (some (0, v)) (h, hm, o) := by
  refine zF_in (D := 0) (mx := 2) (L := [some (21, 0), some (0, v1)]) (by decide +kernel) rfl rfl hd (fun d hd => ?_)
  unfold F137 at e
  rcases zI_s e with ⟨q1, e⟩ | ⟨q1, e⟩
  · refine zF_blk (m := []) (d := 0) (b := B137_1) (gs := [v1 = 0]) (c' := (28, [some (21, 0), some (0, v1)], [], (h, hm, o))) K137_1 rfl ⟨q1, trivial⟩ ?_
    refine zF_blk (m := []) (d := 0) (b := B137_0) (gs := []) (c' := (32, [some (21, 0), some (0, v1)], [(0, (h 719 0 0))], (h, hm, o))) K137_0 rfl trivial ?_
    obtain rfl := Option.some.inj e
    exact zF_ri (by decide +kernel)
  rcases zI_s e with ⟨q2, e⟩ | ⟨q2, e⟩
  · refine zF_blk (m := []) (d := 1) (b := B137_1) (gs := [v1 = 1]) (c' := (33, [some (21, 0), some (0, v1)], [], (h, hm, o))) K137_1 rfl ⟨q2, trivial⟩ ?_
    refine zF_blk (m := []) (d := 0) (b := B137_2) (gs := []) (c' := (37, [some (21, 0), some (0, v1)], [(0, (h 720 0 0))], (h, hm, o))) K137_2 rfl trivial ?_
    obtain rfl := Option.some.inj e
    exact zF_ri (by decide +kernel)
  refine zF_blk (m := []) (d := 2) (b := B137_1) (gs := [¬ v1 = 0, ¬ v1 = 1]) (c' := (38, [some (21, 0), some (0, v1)], [], (h, hm, o))) K137_1 rfl ⟨q1, q2, trivial⟩ ?_
  refine zF_blk (m := []) (d := 0) (b := B137_3) (gs := []) (c' := (39, [some (21, 0), some (0, v1)], [(0, (-1))], (h, hm, o))) K137_3 rfl trivial ?_
  obtain rfl := Option.some.inj e
  exact zF_ri (by decide +kernel)
def B273_0 : List zRow := [(0, .aload_n 0, 1, (0, 0, 0)), (1, .iconst 0, 1, (0, 0, 0)), (2, .putfield 81, 3, (12, 0, 0)), (5, .iload_n 1, 1, (0, 0, 0)), (6, .iconst 0, 1, (0, 0, 0)), (7, .iconst 1, 1, (0, 0, 0))]
theorem K273_0 : zRk 273 B273_0 = true := by decide +kernel
def B273_1 : List zRow := [(23, .iconst (-1), 1, (0, 0, 0))]
theorem K273_1 : zRk 273 B273_1 = true := by decide +kernel
def B273_2 : List zRow := [(14, .aload_n 0, 1, (0, 0, 0)), (15, .getfield 69, 3, (12, 41, 5242890)), (18, .iload_n 1, 1, (0, 0, 0)), (19, .iaload, 1, (0, 0, 0)), (20, .goto 4, 3, (0, 0, 0))]
theorem K273_2 : zRk 273 B273_2 = true := by decide +kernel
def B273_3 : List zRow := [(11, .ifCond .eq 12, 3, (0, 0, 0))]
theorem K273_3 : zRk 273 B273_3 = true := by decide +kernel
/-- EchoValeModel.storms(I)I -/
def F273 (v1 : Int) (h : zHM) : Option (Int × zHM) := (F188 v1 0 1).bind fun r1 => if r1 = 0 then some ((-1), (mset h 0 0 0)) else zG (0 ≤ v1 ∧ v1 < 2) (some ((h 41 v1), (mset h 0 0 0)))
set_option maxRecDepth 100000 in
theorem S273 {spec : zRn zH2} {hc : zHC} {o : Int → Int} {d : Nat} (hd : 2 ≤ d) (v1 : Int) (h : zHM) (v : (Int × zHM)) (e : F273 v1 h = some v) : zRu2 spec d 273 [(22, 0), (0, v1)] (hc, h, o) (some (0, v.1)) (hc, v.2, o) := by
  refine zF_in (D := 1) (mx := 2) (L := [some (22, 0), some (0, v1)]) (by decide +kernel) rfl rfl hd (fun d hd => ?_)
  unfold F273 at e
  obtain ⟨r1, q1, e⟩ := zB_s e
  refine zF_blk (m := []) (d := 0) (b := B273_0) (gs := []) (c' := (8, [some (22, 0), some (0, v1)], [(0, 1), (0, 0), (0, v1)], (hc, (mset h 0 0 0), o))) K273_0 rfl trivial ?_
  refine zF_call (k := 188) (cl := 12) (n := 3) (i := .invokestatic 151) (args := [(0, v1), (0, 0), (0, 1)]) (rest := []) (g1 := (hc, (mset h 0 0 0), o)) (r1 := some (0, r1)) (by decide +kernel) rfl rfl rfl (st' := [(0, r1)]) rfl (S188 (Nat.le_trans (by decide) hd) v1 0 1 (mset h 0 0 0) _ q1) ?_
  rcases zI_s e with ⟨q2, e⟩ | ⟨q2, e⟩
  · refine zF_blk (m := []) (d := 1) (b := B273_3) (gs := [r1 = 0]) (c' := (23, [some (22, 0), some (0, v1)], [], (hc, (mset h 0 0 0), o))) K273_3 rfl ⟨q2, trivial⟩ ?_
    refine zF_blk (m := []) (d := 0) (b := B273_1) (gs := []) (c' := (24, [some (22, 0), some (0, v1)], [(0, (-1))], (hc, (mset h 0 0 0), o))) K273_1 rfl trivial ?_
    exact zF_riM (by decide +kernel) e
  · refine zF_blk (m := []) (d := 0) (b := B273_3) (gs := [¬ (r1 = 0)]) (c' := (14, [some (22, 0), some (0, v1)], [], (hc, (mset h 0 0 0), o))) K273_3 rfl ⟨q2, trivial⟩ ?_
    obtain ⟨q3, e⟩ := zG_s e
    refine zF_blk (m := []) (d := 0) (b := B273_2) (gs := [0 ≤ v1 ∧ v1 < 2]) (c' := (24, [some (22, 0), some (0, v1)], [(0, (h 41 v1))], (hc, (mset h 0 0 0), o))) K273_2 rfl ⟨q3, trivial⟩ ?_
    exact zF_riM (by decide +kernel) e
