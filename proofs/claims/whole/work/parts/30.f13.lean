/-! Functions of the methods, by wip/gen/lift.py. -/
def B272_0 : List zRow := [(0, .aload_n 0, 1, (0, 0, 0)), (1, .aload_n 0, 1, (0, 0, 0)), (2, .getfield 369, 3, (12, 38, 0)), (5, .ldc_w 372, 3, (0, 0, 1103515245)), (8, .imul, 1, (0, 0, 0)), (9, .sipush 12345, 3, (0, 0, 0)), (12, .iadd, 1, (0, 0, 0)), (13, .putfield 369, 3, (12, 38, 0)), (16, .aload_n 0, 1, (0, 0, 0)), (17, .getfield 369, 3, (12, 38, 0)), (20, .bipush 8, 2, (0, 0, 0)), (22, .iushr, 1, (0, 0, 0)), (23, .iload_n 1, 1, (0, 0, 0)), (24, .irem, 1, (0, 0, 0))]
theorem K272_0 : zRk 272 B272_0 = true := by decide +kernel
/-- EchoValeModel.draw(I)I -/
def F272 (v1 : Int) (h : zHM) : Option (Int × zHM) := zG (¬ v1 = 0) (some ((wrem (wushr ((mset h 38 0 (wadd (wmul (h 38 0) 1103515245) 12345)) 38 0) 8) v1), (mset h 38 0 (wadd (wmul (h 38 0) 1103515245) 12345))))
set_option maxRecDepth 100000 in
theorem S272 {spec : zRn zH2} {hc : zHC} {o : Int → Int} {d : Nat} (hd : 1 ≤ d) (v1 : Int) (h : zHM) (v : (Int × zHM)) (e : F272 v1 h = some v) : zRu2 spec d 272 [(22, 0), (0, v1)] (hc, h, o) (some (0, v.1)) (hc, v.2, o) := by
  refine zF_in (D := 0) (mx := 2) (L := [some (22, 0), some (0, v1)]) (by decide +kernel) rfl rfl hd (fun d hd => ?_)
  unfold F272 at e
  obtain ⟨q1, e⟩ := zG_s e
  refine zF_blk (m := []) (d := 0) (b := B272_0) (gs := [¬ v1 = 0]) (c' := (25, [some (22, 0), some (0, v1)], [(0, (wrem (wushr ((mset h 38 0 (wadd (wmul (h 38 0) 1103515245) 12345)) 38 0) 8) v1))], (hc, (mset h 38 0 (wadd (wmul (h 38 0) 1103515245) 12345)), o))) K272_0 rfl ⟨q1, trivial⟩ ?_
  exact zF_riM (by decide +kernel) e
def B271_0 : List zRow := [(0, .aload_n 0, 1, (0, 0, 0)), (1, .iload_n 2, 1, (0, 0, 0)), (2, .putfield 369, 3, (12, 38, 0)), (5, .aload_n 0, 1, (0, 0, 0)), (6, .iconst 0, 1, (0, 0, 0)), (7, .putfield 373, 3, (12, 39, 0)), (10, .aload_n 0, 1, (0, 0, 0)), (11, .iconst 0, 1, (0, 0, 0)), (12, .putfield 376, 3, (12, 40, 0)), (15, .iconst 0, 1, (0, 0, 0)), (16, .istore_n 3, 1, (0, 0, 0))]
theorem K271_0 : zRk 271 B271_0 = true := by decide +kernel
def B271_1 : List zRow := [(156, .iload_n 3, 1, (0, 0, 0))]
theorem K271_1 : zRk 271 B271_1 = true := by decide +kernel
def B271_2 : List zRow := [(36, .iconst 0, 1, (0, 0, 0)), (37, .istore 4, 2, (0, 0, 0)), (39, .aload_n 0, 1, (0, 0, 0)), (40, .iconst 4, 1, (0, 0, 0))]
theorem K271_2 : zRk 271 B271_2 = true := by decide +kernel
def B271_3 : List zRow := [(47, .aload_n 0, 1, (0, 0, 0)), (48, .iconst 5, 1, (0, 0, 0))]
theorem K271_3 : zRk 271 B271_3 = true := by decide +kernel
def B271_4 : List zRow := [(52, .istore 4, 2, (0, 0, 0)), (54, .aload_n 0, 1, (0, 0, 0)), (55, .dup, 1, (0, 0, 0)), (56, .getfield 373, 3, (12, 39, 0)), (59, .iconst 1, 1, (0, 0, 0)), (60, .iadd, 1, (0, 0, 0)), (61, .putfield 373, 3, (12, 39, 0))]
theorem K271_4 : zRk 271 B271_4 = true := by decide +kernel
def B271_5 : List zRow := [(44, .ifCond .ne 20, 3, (0, 0, 0))]
theorem K271_5 : zRk 271 B271_5 = true := by decide +kernel
def B271_6 : List zRow := [(22, .aload_n 0, 1, (0, 0, 0)), (23, .getfield 13, 3, (12, 14, 5251442)), (26, .sipush 209, 3, (0, 0, 0)), (29, .iaload, 1, (0, 0, 0)), (30, .sipush 400, 3, (0, 0, 0)), (33, .if_icmp .ge 123, 3, (0, 0, 0))]
theorem K271_6 : zRk 271 B271_6 = true := by decide +kernel
def B271_7 : List zRow := [(17, .iload_n 3, 1, (0, 0, 0)), (18, .iload_n 1, 1, (0, 0, 0)), (19, .if_icmp .ge 137, 3, (0, 0, 0))]
theorem K271_7 : zRk 271 B271_7 = true := by decide +kernel
def B271_8 : List zRow := [(64, .aload_n 0, 1, (0, 0, 0)), (65, .iload 4, 2, (0, 0, 0))]
theorem K271_8 : zRk 271 B271_8 = true := by decide +kernel
def B271_9 : List zRow := [(70, .aload_n 0, 1, (0, 0, 0)), (71, .iconst 3, 1, (0, 0, 0))]
theorem K271_9 : zRk 271 B271_9 = true := by decide +kernel
def B271_10 : List zRow := [(81, .aload_n 0, 1, (0, 0, 0)), (82, .aload_n 0, 1, (0, 0, 0)), (83, .getfield 13, 3, (12, 14, 5251442)), (86, .iconst 3, 1, (0, 0, 0)), (87, .iaload, 1, (0, 0, 0))]
theorem K271_10 : zRk 271 B271_10 = true := by decide +kernel
def B271_11 : List zRow := [(91, .istore 5, 2, (0, 0, 0)), (93, .aload_n 0, 1, (0, 0, 0)), (94, .bipush 99, 2, (0, 0, 0))]
theorem K271_11 : zRk 271 B271_11 = true := by decide +kernel
def B271_12 : List zRow := [(99, .iconst 1, 1, (0, 0, 0)), (100, .iadd, 1, (0, 0, 0)), (101, .istore 6, 2, (0, 0, 0)), (103, .aload_n 0, 1, (0, 0, 0)), (104, .bipush 9, 2, (0, 0, 0))]
theorem K271_12 : zRk 271 B271_12 = true := by decide +kernel
def B271_13 : List zRow := [(129, .aload_n 0, 1, (0, 0, 0)), (130, .iload 5, 2, (0, 0, 0)), (132, .iload 6, 2, (0, 0, 0)), (134, .iload 7, 2, (0, 0, 0))]
theorem K271_13 : zRk 271 B271_13 = true := by decide +kernel
def B271_14 : List zRow := [(139, .pop, 1, (0, 0, 0)), (140, .aload_n 0, 1, (0, 0, 0)), (141, .dup, 1, (0, 0, 0)), (142, .getfield 376, 3, (12, 40, 0)), (145, .iconst 1, 1, (0, 0, 0)), (146, .iadd, 1, (0, 0, 0)), (147, .putfield 376, 3, (12, 40, 0))]
theorem K271_14 : zRk 271 B271_14 = true := by decide +kernel
def B271_15 : List zRow := [(126, .goto 24, 3, (0, 0, 0))]
theorem K271_15 : zRk 271 B271_15 = true := by decide +kernel
def B271_16 : List zRow := [(109, .iconst 1, 1, (0, 0, 0)), (110, .iadd, 1, (0, 0, 0)), (111, .istore 7, 2, (0, 0, 0)), (113, .aload_n 0, 1, (0, 0, 0)), (114, .getfield 13, 3, (12, 14, 5251442)), (117, .sipush 216, 3, (0, 0, 0)), (120, .iaload, 1, (0, 0, 0)), (121, .bipush 30, 2, (0, 0, 0)), (123, .if_icmp .ne 6, 3, (0, 0, 0))]
theorem K271_16 : zRk 271 B271_16 = true := by decide +kernel
def B271_17 : List zRow := [(78, .goto 72, 3, (0, 0, 0))]
theorem K271_17 : zRk 271 B271_17 = true := by decide +kernel
def B271_18 : List zRow := [(75, .ifCond .eq 6, 3, (0, 0, 0))]
theorem K271_18 : zRk 271 B271_18 = true := by decide +kernel
def B271_19 : List zRow := [(150, .iinc 3 1, 3, (0, 0, 0)), (153, .goto (-136), 3, (0, 0, 0))]
theorem K271_19 : zRk 271 B271_19 = true := by decide +kernel
def F271_2 (k0 : Int → Int → zHM → Option (Int × zHM)) (v1 : Int) (v3 : Int) (h : zHM) : Option (Int × zHM) := k0 v1 (wadd v3 1) h
set_option maxRecDepth 100000 in
theorem T271_2 {spec : zRn zH2} {hc : zHC} {o : Int → Int} {d : Nat} (hd : 5 ≤ d) (k0 : Int → Int → zHM → Option (Int × zHM)) (hk0 : ∀ (v1 : Int) (v3 : Int) (h : zHM) (v : (Int × zHM)), k0 v1 v3 h = some v → zFin 0 (fun _ => 0) (zRu2 spec d) 271 (some (0, v.1)) (hc, v.2, o) (17, [some (22, 0), some (0, v1), none, some (0, v3), none, none, none, none], [], (hc, h, o))) (v1 : Int) (v3 : Int) (h : zHM) (v : (Int × zHM)) (e : F271_2 k0 v1 v3 h = some v) : zFin 0 (fun _ => 0) (zRu2 spec d) 271 (some (0, v.1)) (hc, v.2, o) (150, [some (22, 0), some (0, v1), none, some (0, v3), none, none, none, none], [], (hc, h, o)) := by
  unfold F271_2 at e
  refine zF_blk (m := []) (d := 0) (b := B271_19) (gs := []) (c' := (17, [some (22, 0), some (0, v1), none, some (0, (wadd v3 1)), none, none, none, none], [], (hc, h, o))) K271_19 rfl trivial ?_
  exact hk0 v1 (wadd v3 1) h _ e
def F271_1 (k0 : Int → Int → zHM → Option (Int × zHM)) (v1 : Int) (v3 : Int) (v4 : Int) (h : zHM) : Option (Int × zHM) := (F236 v4 h).bind fun r1 => (F272 3 r1).bind fun r2 => if r2.1 = 0 then (F272 (r2.2 14 3) r2.2).bind fun r3 => (F272 99 r3.2).bind fun r4 => (F272 9 r4.2).bind fun r5 => if ¬ (r5.2 14 216) = 30 then (F227 r3.1 (wadd r4.1 1) (wadd r5.1 1) r5.2).bind fun r6 => F271_2 k0 v1 v3 (mset r6.2 40 0 (wadd (r6.2 40 0) 1)) else F271_2 k0 v1 v3 r5.2 else F271_2 k0 v1 v3 r2.2
set_option maxRecDepth 100000 in
theorem T271_1 {spec : zRn zH2} {hc : zHC} {o : Int → Int} {d : Nat} (hd : 5 ≤ d) (k0 : Int → Int → zHM → Option (Int × zHM)) (hk0 : ∀ (v1 : Int) (v3 : Int) (h : zHM) (v : (Int × zHM)), k0 v1 v3 h = some v → zFin 0 (fun _ => 0) (zRu2 spec d) 271 (some (0, v.1)) (hc, v.2, o) (17, [some (22, 0), some (0, v1), none, some (0, v3), none, none, none, none], [], (hc, h, o))) (v1 : Int) (v3 : Int) (v4 : Int) (h : zHM) (v : (Int × zHM)) (e : F271_1 k0 v1 v3 v4 h = some v) : zFin 0 (fun _ => 0) (zRu2 spec d) 271 (some (0, v.1)) (hc, v.2, o) (64, [some (22, 0), some (0, v1), none, some (0, v3), some (0, v4), none, none, none], [], (hc, h, o)) := by
  unfold F271_1 at e
  obtain ⟨r1, q1, e⟩ := zB_s e
  refine zF_blk (m := []) (d := 0) (b := B271_8) (gs := []) (c' := (67, [some (22, 0), some (0, v1), none, some (0, v3), some (0, v4), none, none, none], [(0, v4), (22, 0)], (hc, h, o))) K271_8 rfl trivial ?_
  refine zF_call (k := 236) (cl := 12) (n := 2) (i := .invokevirtual 302) (args := [(22, 0), (0, v4)]) (rest := []) (g1 := (hc, r1, o)) (r1 := none) (by decide +kernel) rfl rfl rfl (st' := []) rfl (S236 (Nat.le_trans (by decide) hd) v4 h _ q1) ?_
  obtain ⟨r2, q2, e⟩ := zB_s e
  refine zF_blk (m := []) (d := 0) (b := B271_9) (gs := []) (c' := (72, [some (22, 0), some (0, v1), none, some (0, v3), some (0, v4), none, none, none], [(0, 3), (22, 0)], (hc, r1, o))) K271_9 rfl trivial ?_
  refine zF_call (k := 272) (cl := 12) (n := 2) (i := .invokevirtual 379) (args := [(22, 0), (0, 3)]) (rest := []) (g1 := (hc, r2.2, o)) (r1 := some (0, r2.1)) (by decide +kernel) rfl rfl rfl (st' := [(0, r2.1)]) rfl (S272 (Nat.le_trans (by decide) hd) 3 r1 _ q2) ?_
  rcases zI_s e with ⟨q3, e⟩ | ⟨q3, e⟩
  · refine zF_blk (m := []) (d := 1) (b := B271_18) (gs := [r2.1 = 0]) (c' := (81, [some (22, 0), some (0, v1), none, some (0, v3), some (0, v4), none, none, none], [], (hc, r2.2, o))) K271_18 rfl ⟨q3, trivial⟩ ?_
    obtain ⟨r3, q4, e⟩ := zB_s e
    refine zF_blk (m := []) (d := 0) (b := B271_10) (gs := [0 ≤ 3 ∧ 3 < 2140]) (c' := (88, [some (22, 0), some (0, v1), none, some (0, v3), some (0, v4), none, none, none], [(0, (r2.2 14 3)), (22, 0)], (hc, r2.2, o))) K271_10 rfl ⟨by decide, trivial⟩ ?_
    refine zF_call (k := 272) (cl := 12) (n := 2) (i := .invokevirtual 379) (args := [(22, 0), (0, (r2.2 14 3))]) (rest := []) (g1 := (hc, r3.2, o)) (r1 := some (0, r3.1)) (by decide +kernel) rfl rfl rfl (st' := [(0, r3.1)]) rfl (S272 (Nat.le_trans (by decide) hd) (r2.2 14 3) r2.2 _ q4) ?_
    obtain ⟨r4, q5, e⟩ := zB_s e
    refine zF_blk (m := []) (d := 0) (b := B271_11) (gs := []) (c' := (96, [some (22, 0), some (0, v1), none, some (0, v3), some (0, v4), some (0, r3.1), none, none], [(0, 99), (22, 0)], (hc, r3.2, o))) K271_11 rfl trivial ?_
    refine zF_call (k := 272) (cl := 12) (n := 2) (i := .invokevirtual 379) (args := [(22, 0), (0, 99)]) (rest := []) (g1 := (hc, r4.2, o)) (r1 := some (0, r4.1)) (by decide +kernel) rfl rfl rfl (st' := [(0, r4.1)]) rfl (S272 (Nat.le_trans (by decide) hd) 99 r3.2 _ q5) ?_
    obtain ⟨r5, q6, e⟩ := zB_s e
    refine zF_blk (m := []) (d := 0) (b := B271_12) (gs := []) (c' := (106, [some (22, 0), some (0, v1), none, some (0, v3), some (0, v4), some (0, r3.1), some (0, (wadd r4.1 1)), none], [(0, 9), (22, 0)], (hc, r4.2, o))) K271_12 rfl trivial ?_
    refine zF_call (k := 272) (cl := 12) (n := 2) (i := .invokevirtual 379) (args := [(22, 0), (0, 9)]) (rest := []) (g1 := (hc, r5.2, o)) (r1 := some (0, r5.1)) (by decide +kernel) rfl rfl rfl (st' := [(0, r5.1)]) rfl (S272 (Nat.le_trans (by decide) hd) 9 r4.2 _ q6) ?_
    rcases zI_s e with ⟨q7, e⟩ | ⟨q7, e⟩
    · refine zF_blk (m := []) (d := 1) (b := B271_16) (gs := [0 ≤ 216 ∧ 216 < 2140, ¬ (r5.2 14 216) = 30]) (c' := (129, [some (22, 0), some (0, v1), none, some (0, v3), some (0, v4), some (0, r3.1), some (0, (wadd r4.1 1)), some (0, (wadd r5.1 1))], [], (hc, r5.2, o))) K271_16 rfl ⟨by decide, q7, trivial⟩ ?_
      obtain ⟨r6, q8, e⟩ := zB_s e
      refine zF_blk (m := []) (d := 0) (b := B271_13) (gs := []) (c' := (136, [some (22, 0), some (0, v1), none, some (0, v3), some (0, v4), some (0, r3.1), some (0, (wadd r4.1 1)), some (0, (wadd r5.1 1))], [(0, (wadd r5.1 1)), (0, (wadd r4.1 1)), (0, r3.1), (22, 0)], (hc, r5.2, o))) K271_13 rfl trivial ?_
      refine zF_call (k := 227) (cl := 12) (n := 4) (i := .invokevirtual 311) (args := [(22, 0), (0, r3.1), (0, (wadd r4.1 1)), (0, (wadd r5.1 1))]) (rest := []) (g1 := (hc, r6.2, o)) (r1 := some (0, r6.1)) (by decide +kernel) rfl rfl rfl (st' := [(0, r6.1)]) rfl (S227 (Nat.le_trans (by decide) hd) r3.1 (wadd r4.1 1) (wadd r5.1 1) r5.2 _ q8) ?_
      refine zF_blk (m := []) (d := 0) (b := B271_14) (gs := []) (c' := (150, [some (22, 0), some (0, v1), none, some (0, v3), some (0, v4), some (0, r3.1), some (0, (wadd r4.1 1)), some (0, (wadd r5.1 1))], [], (hc, (mset r6.2 40 0 (wadd (r6.2 40 0) 1)), o))) K271_14 rfl trivial ?_
      refine zF_blk (m := [true, true, false, true, false, false, false, false]) (d := 0) (b := []) (gs := []) (c' := (150, [some (22, 0), some (0, v1), none, some (0, v3), none, none, none, none], [], (hc, (mset r6.2 40 0 (wadd (r6.2 40 0) 1)), o))) rfl rfl trivial ?_
      exact T271_2 hd k0 hk0 v1 v3 (mset r6.2 40 0 (wadd (r6.2 40 0) 1)) _ e
    · refine zF_blk (m := []) (d := 0) (b := B271_16) (gs := [0 ≤ 216 ∧ 216 < 2140, ¬ (¬ (r5.2 14 216) = 30)]) (c' := (126, [some (22, 0), some (0, v1), none, some (0, v3), some (0, v4), some (0, r3.1), some (0, (wadd r4.1 1)), some (0, (wadd r5.1 1))], [], (hc, r5.2, o))) K271_16 rfl ⟨by decide, q7, trivial⟩ ?_
      refine zF_blk (m := []) (d := 0) (b := B271_15) (gs := []) (c' := (150, [some (22, 0), some (0, v1), none, some (0, v3), some (0, v4), some (0, r3.1), some (0, (wadd r4.1 1)), some (0, (wadd r5.1 1))], [], (hc, r5.2, o))) K271_15 rfl trivial ?_
      refine zF_blk (m := [true, true, false, true, false, false, false, false]) (d := 0) (b := []) (gs := []) (c' := (150, [some (22, 0), some (0, v1), none, some (0, v3), none, none, none, none], [], (hc, r5.2, o))) rfl rfl trivial ?_
      exact T271_2 hd k0 hk0 v1 v3 r5.2 _ e
  · refine zF_blk (m := []) (d := 0) (b := B271_18) (gs := [¬ (r2.1 = 0)]) (c' := (78, [some (22, 0), some (0, v1), none, some (0, v3), some (0, v4), none, none, none], [], (hc, r2.2, o))) K271_18 rfl ⟨q3, trivial⟩ ?_
    refine zF_blk (m := []) (d := 0) (b := B271_17) (gs := []) (c' := (150, [some (22, 0), some (0, v1), none, some (0, v3), some (0, v4), none, none, none], [], (hc, r2.2, o))) K271_17 rfl trivial ?_
    refine zF_blk (m := [true, true, false, true, false, false, false, false]) (d := 0) (b := []) (gs := []) (c' := (150, [some (22, 0), some (0, v1), none, some (0, v3), none, none, none, none], [], (hc, r2.2, o))) rfl rfl trivial ?_
    exact T271_2 hd k0 hk0 v1 v3 r2.2 _ e
def F271_0 : Nat → Int → Int → zHM → Option (Int × zHM)
  | 0, _, _, _ => none
  | n + 1, v1, v3, h => if v1 ≤ v3 then some (v3, h) else if 400 ≤ (h 14 209) then some (v3, h) else (F272 4 h).bind fun r1 => if ¬ r1.1 = 0 then F271_1 (F271_0 n) v1 v3 0 r1.2 else (F272 5 r1.2).bind fun r2 => F271_1 (F271_0 n) v1 v3 r2.1 (mset r2.2 39 0 (wadd (r2.2 39 0) 1))
set_option maxRecDepth 100000 in
theorem T271_0 {spec : zRn zH2} {hc : zHC} {o : Int → Int} {d : Nat} (hd : 5 ≤ d) : ∀ (n : Nat) (v1 : Int) (v3 : Int) (h : zHM) (v : (Int × zHM)), F271_0 n v1 v3 h = some v → zFin 0 (fun _ => 0) (zRu2 spec d) 271 (some (0, v.1)) (hc, v.2, o) (17, [some (22, 0), some (0, v1), none, some (0, v3), none, none, none, none], [], (hc, h, o)) := by
  intro n
  induction n with
  | zero => intro v1 v3 h v e; unfold F271_0 at e; cases e
  | succ n hk0 =>
    intro v1 v3 h v e
    unfold F271_0 at e
    rcases zI_s e with ⟨q1, e⟩ | ⟨q1, e⟩
    · refine zF_blk (m := []) (d := 1) (b := B271_7) (gs := [v1 ≤ v3]) (c' := (156, [some (22, 0), some (0, v1), none, some (0, v3), none, none, none, none], [], (hc, h, o))) K271_7 rfl ⟨q1, trivial⟩ ?_
      refine zF_blk (m := []) (d := 0) (b := B271_1) (gs := []) (c' := (157, [some (22, 0), some (0, v1), none, some (0, v3), none, none, none, none], [(0, v3)], (hc, h, o))) K271_1 rfl trivial ?_
      exact zF_riM (by decide +kernel) e
    · refine zF_blk (m := []) (d := 0) (b := B271_7) (gs := [¬ (v1 ≤ v3)]) (c' := (22, [some (22, 0), some (0, v1), none, some (0, v3), none, none, none, none], [], (hc, h, o))) K271_7 rfl ⟨q1, trivial⟩ ?_
      rcases zI_s e with ⟨q2, e⟩ | ⟨q2, e⟩
      · refine zF_blk (m := []) (d := 1) (b := B271_6) (gs := [0 ≤ 209 ∧ 209 < 2140, 400 ≤ (h 14 209)]) (c' := (156, [some (22, 0), some (0, v1), none, some (0, v3), none, none, none, none], [], (hc, h, o))) K271_6 rfl ⟨by decide, q2, trivial⟩ ?_
        refine zF_blk (m := []) (d := 0) (b := B271_1) (gs := []) (c' := (157, [some (22, 0), some (0, v1), none, some (0, v3), none, none, none, none], [(0, v3)], (hc, h, o))) K271_1 rfl trivial ?_
        exact zF_riM (by decide +kernel) e
      · refine zF_blk (m := []) (d := 0) (b := B271_6) (gs := [0 ≤ 209 ∧ 209 < 2140, ¬ (400 ≤ (h 14 209))]) (c' := (36, [some (22, 0), some (0, v1), none, some (0, v3), none, none, none, none], [], (hc, h, o))) K271_6 rfl ⟨by decide, q2, trivial⟩ ?_
        obtain ⟨r1, q3, e⟩ := zB_s e
        refine zF_blk (m := []) (d := 0) (b := B271_2) (gs := []) (c' := (41, [some (22, 0), some (0, v1), none, some (0, v3), some (0, 0), none, none, none], [(0, 4), (22, 0)], (hc, h, o))) K271_2 rfl trivial ?_
        refine zF_call (k := 272) (cl := 12) (n := 2) (i := .invokevirtual 379) (args := [(22, 0), (0, 4)]) (rest := []) (g1 := (hc, r1.2, o)) (r1 := some (0, r1.1)) (by decide +kernel) rfl rfl rfl (st' := [(0, r1.1)]) rfl (S272 (Nat.le_trans (by decide) hd) 4 h _ q3) ?_
        rcases zI_s e with ⟨q4, e⟩ | ⟨q4, e⟩
        · refine zF_blk (m := []) (d := 1) (b := B271_5) (gs := [¬ r1.1 = 0]) (c' := (64, [some (22, 0), some (0, v1), none, some (0, v3), some (0, 0), none, none, none], [], (hc, r1.2, o))) K271_5 rfl ⟨q4, trivial⟩ ?_
          exact T271_1 hd (F271_0 n) hk0 v1 v3 0 r1.2 _ e
        · refine zF_blk (m := []) (d := 0) (b := B271_5) (gs := [¬ (¬ r1.1 = 0)]) (c' := (47, [some (22, 0), some (0, v1), none, some (0, v3), some (0, 0), none, none, none], [], (hc, r1.2, o))) K271_5 rfl ⟨q4, trivial⟩ ?_
          obtain ⟨r2, q5, e⟩ := zB_s e
          refine zF_blk (m := []) (d := 0) (b := B271_3) (gs := []) (c' := (49, [some (22, 0), some (0, v1), none, some (0, v3), some (0, 0), none, none, none], [(0, 5), (22, 0)], (hc, r1.2, o))) K271_3 rfl trivial ?_
          refine zF_call (k := 272) (cl := 12) (n := 2) (i := .invokevirtual 379) (args := [(22, 0), (0, 5)]) (rest := []) (g1 := (hc, r2.2, o)) (r1 := some (0, r2.1)) (by decide +kernel) rfl rfl rfl (st' := [(0, r2.1)]) rfl (S272 (Nat.le_trans (by decide) hd) 5 r1.2 _ q5) ?_
          refine zF_blk (m := []) (d := 0) (b := B271_4) (gs := []) (c' := (64, [some (22, 0), some (0, v1), none, some (0, v3), some (0, r2.1), none, none, none], [], (hc, (mset r2.2 39 0 (wadd (r2.2 39 0) 1)), o))) K271_4 rfl trivial ?_
          exact T271_1 hd (F271_0 n) hk0 v1 v3 r2.1 (mset r2.2 39 0 (wadd (r2.2 39 0) 1)) _ e
/-- EchoValeModel.drawnBy(II)I -/
def F271 (v1 : Int) (v2 : Int) (h : zHM) : Option (Int × zHM) := F271_0 zFu v1 0 (mset (mset (mset h 38 0 v2) 39 0 0) 40 0 0)
set_option maxRecDepth 100000 in
theorem S271 {spec : zRn zH2} {hc : zHC} {o : Int → Int} {d : Nat} (hd : 6 ≤ d) (v1 : Int) (v2 : Int) (h : zHM) (v : (Int × zHM)) (e : F271 v1 v2 h = some v) : zRu2 spec d 271 [(22, 0), (0, v1), (0, v2)] (hc, h, o) (some (0, v.1)) (hc, v.2, o) := by
  refine zF_in (D := 5) (mx := 8) (L := [some (22, 0), some (0, v1), some (0, v2), none, none, none, none, none]) (by decide +kernel) rfl rfl hd (fun d hd => ?_)
  unfold F271 at e
  refine zF_blk (m := []) (d := 0) (b := B271_0) (gs := []) (c' := (17, [some (22, 0), some (0, v1), some (0, v2), some (0, 0), none, none, none, none], [], (hc, (mset (mset (mset h 38 0 v2) 39 0 0) 40 0 0), o))) K271_0 rfl trivial ?_
  refine zF_blk (m := [true, true, false, true, false, false, false, false]) (d := 0) (b := []) (gs := []) (c' := (17, [some (22, 0), some (0, v1), none, some (0, 0), none, none, none, none], [], (hc, (mset (mset (mset h 38 0 v2) 39 0 0) 40 0 0), o))) rfl rfl trivial ?_
  exact T271_0 hd zFu v1 0 (mset (mset (mset h 38 0 v2) 39 0 0) 40 0 0) _ e
def B270_0 : List zRow := [(0, .aload_n 0, 1, (0, 0, 0)), (1, .iconst 0, 1, (0, 0, 0)), (2, .putfield 81, 3, (12, 0, 0)), (5, .iload_n 1, 1, (0, 0, 0)), (6, .iconst 1, 1, (0, 0, 0)), (7, .bipush 100, 2, (0, 0, 0))]
theorem K270_0 : zRk 270 B270_0 = true := by decide +kernel
def B270_1 : List zRow := [(24, .iconst (-1), 1, (0, 0, 0))]
theorem K270_1 : zRk 270 B270_1 = true := by decide +kernel
def B270_2 : List zRow := [(40, .aload_n 0, 1, (0, 0, 0))]
theorem K270_2 : zRk 270 B270_2 = true := by decide +kernel
def B270_3 : List zRow := [(26, .aload_n 0, 1, (0, 0, 0)), (27, .getfield 13, 3, (12, 14, 5251442)), (30, .sipush 209, 3, (0, 0, 0)), (33, .iaload, 1, (0, 0, 0)), (34, .sipush 400, 3, (0, 0, 0)), (37, .if_icmp .ge 7, 3, (0, 0, 0))]
theorem K270_3 : zRk 270 B270_3 = true := by decide +kernel
def B270_4 : List zRow := [(15, .aload_n 0, 1, (0, 0, 0)), (16, .getfield 13, 3, (12, 14, 5251442)), (19, .iconst 3, 1, (0, 0, 0)), (20, .iaload, 1, (0, 0, 0)), (21, .ifCond .ne 5, 3, (0, 0, 0))]
theorem K270_4 : zRk 270 B270_4 = true := by decide +kernel
def B270_5 : List zRow := [(12, .ifCond .eq 12, 3, (0, 0, 0))]
theorem K270_5 : zRk 270 B270_5 = true := by decide +kernel
def B270_6 : List zRow := [(44, .aload_n 0, 1, (0, 0, 0)), (45, .iload_n 1, 1, (0, 0, 0)), (46, .iload_n 2, 1, (0, 0, 0))]
theorem K270_6 : zRk 270 B270_6 = true := by decide +kernel
def B270_7 : List zRow := [(50, .istore_n 3, 1, (0, 0, 0)), (51, .aload_n 0, 1, (0, 0, 0)), (52, .getfield 69, 3, (12, 41, 5242890)), (55, .iconst 0, 1, (0, 0, 0)), (56, .aload_n 0, 1, (0, 0, 0)), (57, .getfield 373, 3, (12, 39, 0)), (60, .iastore, 1, (0, 0, 0)), (61, .aload_n 0, 1, (0, 0, 0)), (62, .getfield 69, 3, (12, 41, 5242890)), (65, .iconst 1, 1, (0, 0, 0)), (66, .aload_n 0, 1, (0, 0, 0)), (67, .getfield 376, 3, (12, 40, 0)), (70, .iastore, 1, (0, 0, 0)), (71, .iload_n 3, 1, (0, 0, 0))]
theorem K270_7 : zRk 270 B270_7 = true := by decide +kernel
def F270_0 (v1 : Int) (v2 : Int) (h : zHM) : Option (Int × zHM) := (F271 v1 v2 h).bind fun r1 => some (r1.1, (mset (mset r1.2 41 0 (r1.2 39 0)) 41 1 ((mset r1.2 41 0 (r1.2 39 0)) 40 0)))
set_option maxRecDepth 100000 in
theorem T270_0 {spec : zRn zH2} {hc : zHC} {o : Int → Int} {d : Nat} (hd : 6 ≤ d) (v1 : Int) (v2 : Int) (h : zHM) (v : (Int × zHM)) (e : F270_0 v1 v2 h = some v) : zFin 0 (fun _ => 0) (zRu2 spec d) 270 (some (0, v.1)) (hc, v.2, o) (44, [some (22, 0), some (0, v1), some (0, v2), none], [], (hc, h, o)) := by
  unfold F270_0 at e
  obtain ⟨r1, q1, e⟩ := zB_s e
  refine zF_blk (m := []) (d := 0) (b := B270_6) (gs := []) (c' := (47, [some (22, 0), some (0, v1), some (0, v2), none], [(0, v2), (0, v1), (22, 0)], (hc, h, o))) K270_6 rfl trivial ?_
  refine zF_call (k := 271) (cl := 12) (n := 3) (i := .invokevirtual 382) (args := [(22, 0), (0, v1), (0, v2)]) (rest := []) (g1 := (hc, r1.2, o)) (r1 := some (0, r1.1)) (by decide +kernel) rfl rfl rfl (st' := [(0, r1.1)]) rfl (S271 (Nat.le_trans (by decide) hd) v1 v2 h _ q1) ?_
  refine zF_blk (m := []) (d := 0) (b := B270_7) (gs := [0 ≤ 0 ∧ 0 < 2, 0 ≤ 1 ∧ 1 < 2]) (c' := (72, [some (22, 0), some (0, v1), some (0, v2), some (0, r1.1)], [(0, r1.1)], (hc, (mset (mset r1.2 41 0 (r1.2 39 0)) 41 1 ((mset r1.2 41 0 (r1.2 39 0)) 40 0)), o))) K270_7 rfl ⟨by decide, by decide, trivial⟩ ?_
  exact zF_riM (by decide +kernel) e
/-- EchoValeModel.drawn(II)I -/
def F270 (v1 : Int) (v2 : Int) (h : zHM) : Option (Int × zHM) := (F188 v1 1 100).bind fun r1 => if r1 = 0 then some ((-1), (mset h 0 0 0)) else if ¬ ((mset h 0 0 0) 14 3) = 0 then if 400 ≤ ((mset h 0 0 0) 14 209) then F270_0 v1 v2 (mset h 0 0 0) else (F225 (mset h 0 0 0)).bind fun r2 => F270_0 v1 v2 r2 else some ((-1), (mset h 0 0 0))
set_option maxRecDepth 100000 in
theorem S270 {spec : zRn zH2} {hc : zHC} {o : Int → Int} {d : Nat} (hd : 7 ≤ d) (v1 : Int) (v2 : Int) (h : zHM) (v : (Int × zHM)) (e : F270 v1 v2 h = some v) : zRu2 spec d 270 [(22, 0), (0, v1), (0, v2)] (hc, h, o) (some (0, v.1)) (hc, v.2, o) := by
  refine zF_in (D := 6) (mx := 4) (L := [some (22, 0), some (0, v1), some (0, v2), none]) (by decide +kernel) rfl rfl hd (fun d hd => ?_)
  unfold F270 at e
  obtain ⟨r1, q1, e⟩ := zB_s e
  refine zF_blk (m := []) (d := 0) (b := B270_0) (gs := []) (c' := (9, [some (22, 0), some (0, v1), some (0, v2), none], [(0, 100), (0, 1), (0, v1)], (hc, (mset h 0 0 0), o))) K270_0 rfl trivial ?_
  refine zF_call (k := 188) (cl := 12) (n := 3) (i := .invokestatic 151) (args := [(0, v1), (0, 1), (0, 100)]) (rest := []) (g1 := (hc, (mset h 0 0 0), o)) (r1 := some (0, r1)) (by decide +kernel) rfl rfl rfl (st' := [(0, r1)]) rfl (S188 (Nat.le_trans (by decide) hd) v1 1 100 (mset h 0 0 0) _ q1) ?_
  rcases zI_s e with ⟨q2, e⟩ | ⟨q2, e⟩
  · refine zF_blk (m := []) (d := 1) (b := B270_5) (gs := [r1 = 0]) (c' := (24, [some (22, 0), some (0, v1), some (0, v2), none], [], (hc, (mset h 0 0 0), o))) K270_5 rfl ⟨q2, trivial⟩ ?_
    refine zF_blk (m := []) (d := 0) (b := B270_1) (gs := []) (c' := (25, [some (22, 0), some (0, v1), some (0, v2), none], [(0, (-1))], (hc, (mset h 0 0 0), o))) K270_1 rfl trivial ?_
    exact zF_riM (by decide +kernel) e
  · refine zF_blk (m := []) (d := 0) (b := B270_5) (gs := [¬ (r1 = 0)]) (c' := (15, [some (22, 0), some (0, v1), some (0, v2), none], [], (hc, (mset h 0 0 0), o))) K270_5 rfl ⟨q2, trivial⟩ ?_
    rcases zI_s e with ⟨q3, e⟩ | ⟨q3, e⟩
    · refine zF_blk (m := []) (d := 1) (b := B270_4) (gs := [0 ≤ 3 ∧ 3 < 2140, ¬ ((mset h 0 0 0) 14 3) = 0]) (c' := (26, [some (22, 0), some (0, v1), some (0, v2), none], [], (hc, (mset h 0 0 0), o))) K270_4 rfl ⟨by decide, q3, trivial⟩ ?_
      rcases zI_s e with ⟨q4, e⟩ | ⟨q4, e⟩
      · refine zF_blk (m := []) (d := 1) (b := B270_3) (gs := [0 ≤ 209 ∧ 209 < 2140, 400 ≤ ((mset h 0 0 0) 14 209)]) (c' := (44, [some (22, 0), some (0, v1), some (0, v2), none], [], (hc, (mset h 0 0 0), o))) K270_3 rfl ⟨by decide, q4, trivial⟩ ?_
        exact T270_0 hd v1 v2 (mset h 0 0 0) _ e
      · refine zF_blk (m := []) (d := 0) (b := B270_3) (gs := [0 ≤ 209 ∧ 209 < 2140, ¬ (400 ≤ ((mset h 0 0 0) 14 209))]) (c' := (40, [some (22, 0), some (0, v1), some (0, v2), none], [], (hc, (mset h 0 0 0), o))) K270_3 rfl ⟨by decide, q4, trivial⟩ ?_
        obtain ⟨r2, q5, e⟩ := zB_s e
        refine zF_blk (m := []) (d := 0) (b := B270_2) (gs := []) (c' := (41, [some (22, 0), some (0, v1), some (0, v2), none], [(22, 0)], (hc, (mset h 0 0 0), o))) K270_2 rfl trivial ?_
        refine zF_call (k := 225) (cl := 12) (n := 1) (i := .invokevirtual 308) (args := [(22, 0)]) (rest := []) (g1 := (hc, r2, o)) (r1 := none) (by decide +kernel) rfl rfl rfl (st' := []) rfl (S225 (Nat.le_trans (by decide) hd)  (mset h 0 0 0) _ q5) ?_
        exact T270_0 hd v1 v2 r2 _ e
    · refine zF_blk (m := []) (d := 0) (b := B270_4) (gs := [0 ≤ 3 ∧ 3 < 2140, ¬ (¬ ((mset h 0 0 0) 14 3) = 0)]) (c' := (24, [some (22, 0), some (0, v1), some (0, v2), none], [], (hc, (mset h 0 0 0), o))) K270_4 rfl ⟨by decide, q3, trivial⟩ ?_
      refine zF_blk (m := []) (d := 0) (b := B270_1) (gs := []) (c' := (25, [some (22, 0), some (0, v1), some (0, v2), none], [(0, (-1))], (hc, (mset h 0 0 0), o))) K270_1 rfl trivial ?_
      exact zF_riM (by decide +kernel) e
def B137_0 : List zRow := [(28, .aload_n 0, 1, (0, 0, 0)), (29, .getfield 98, 3, (11, 15, 0))]
theorem K137_0 : zRk 137 B137_0 = true := by decide +kernel
def B137_1 : List zRow := [(0, .iload_n 1, 1, (0, 0, 0)), (1, .lookupswitch 37 #[(0, 27), (1, 32)], 27, (0, 0, 0))]
theorem K137_1 : zRk 137 B137_1 = true := by decide +kernel
def B137_2 : List zRow := [(33, .aload_n 0, 1, (0, 0, 0)), (34, .getfield 102, 3, (11, 16, 0))]
theorem K137_2 : zRk 137 B137_2 = true := by decide +kernel
def B137_3 : List zRow := [(38, .iconst (-1), 1, (0, 0, 0))]
theorem K137_3 : zRk 137 B137_3 = true := by decide +kernel
/-- EchoVale.storms(I)I -/
def F137 (v1 : Int) (h : zHC) : Option Int := if v1 = 0 then some (h 719 0 0) else if v1 = 1 then some (h 720 0 0) else some (-1)
set_option maxRecDepth 100000 in
theorem S137 {spec : zRn zH2} {hm : zHM} {o : Int → Int} {d : Nat} (hd : 1 ≤ d) (v1 : Int) (h : zHC) (v : Int) (e : F137 v1 h = some v) : zRu2 spec d 137 [(21, 0), (0, v1)] (h, hm, o) (some (0, v)) (h, hm, o) := by
  refine zF_in (D := 0) (mx := 2) (L := [some (21, 0), some (0, v1)]) (by decide +kernel) rfl rfl hd (fun d hd => ?_)
  unfold F137 at e
  rcases zI_s e with ⟨q1, e⟩ | ⟨q1, e⟩
  · refine zF_blk (m := []) (d := 0) (b := B137_1) (gs := [v1 = 0]) (c' := (28, [some (21, 0), some (0, v1)], [], (h, hm, o))) K137_1 rfl ⟨q1, trivial⟩ ?_
    refine zF_blk (m := []) (d := 0) (b := B137_0) (gs := []) (c' := (32, [some (21, 0), some (0, v1)], [(0, (h 719 0 0))], (h, hm, o))) K137_0 rfl trivial ?_
    obtain rfl := Option.some.inj e
    exact zF_ri (by decide +kernel)
  rcases zI_s e with ⟨q2, e⟩ | ⟨q2, e⟩
  · refine zF_blk (m := []) (d := 1) (b := B137_1) (gs := [v1 = 1]) (c' := (33, [some (21, 0), some (0, v1)], [], (h, hm, o))) K137_1 rfl ⟨q2, trivial⟩ ?_
    refine zF_blk (m := []) (d := 0) (b := B137_2) (gs := []) (c' := (37, [some (21, 0), some (0, v1)], [(0, (h 720 0 0))], (h, hm, o))) K137_2 rfl trivial ?_
    obtain rfl := Option.some.inj e
    exact zF_ri (by decide +kernel)
  refine zF_blk (m := []) (d := 2) (b := B137_1) (gs := [¬ v1 = 0, ¬ v1 = 1]) (c' := (38, [some (21, 0), some (0, v1)], [], (h, hm, o))) K137_1 rfl ⟨q1, q2, trivial⟩ ?_
  refine zF_blk (m := []) (d := 0) (b := B137_3) (gs := []) (c' := (39, [some (21, 0), some (0, v1)], [(0, (-1))], (h, hm, o))) K137_3 rfl trivial ?_
  obtain rfl := Option.some.inj e
  exact zF_ri (by decide +kernel)
def B273_0 : List zRow := [(0, .aload_n 0, 1, (0, 0, 0)), (1, .iconst 0, 1, (0, 0, 0)), (2, .putfield 81, 3, (12, 0, 0)), (5, .iload_n 1, 1, (0, 0, 0)), (6, .iconst 0, 1, (0, 0, 0)), (7, .iconst 1, 1, (0, 0, 0))]
theorem K273_0 : zRk 273 B273_0 = true := by decide +kernel
def B273_1 : List zRow := [(23, .iconst (-1), 1, (0, 0, 0))]
theorem K273_1 : zRk 273 B273_1 = true := by decide +kernel
def B273_2 : List zRow := [(14, .aload_n 0, 1, (0, 0, 0)), (15, .getfield 69, 3, (12, 41, 5242890)), (18, .iload_n 1, 1, (0, 0, 0)), (19, .iaload, 1, (0, 0, 0)), (20, .goto 4, 3, (0, 0, 0))]
theorem K273_2 : zRk 273 B273_2 = true := by decide +kernel
def B273_3 : List zRow := [(11, .ifCond .eq 12, 3, (0, 0, 0))]
theorem K273_3 : zRk 273 B273_3 = true := by decide +kernel
/-- EchoValeModel.storms(I)I -/
def F273 (v1 : Int) (h : zHM) : Option (Int × zHM) := (F188 v1 0 1).bind fun r1 => if r1 = 0 then some ((-1), (mset h 0 0 0)) else zG (0 ≤ v1 ∧ v1 < 2) (some (((mset h 0 0 0) 41 v1), (mset h 0 0 0)))
set_option maxRecDepth 100000 in
theorem S273 {spec : zRn zH2} {hc : zHC} {o : Int → Int} {d : Nat} (hd : 2 ≤ d) (v1 : Int) (h : zHM) (v : (Int × zHM)) (e : F273 v1 h = some v) : zRu2 spec d 273 [(22, 0), (0, v1)] (hc, h, o) (some (0, v.1)) (hc, v.2, o) := by
  refine zF_in (D := 1) (mx := 2) (L := [some (22, 0), some (0, v1)]) (by decide +kernel) rfl rfl hd (fun d hd => ?_)
  unfold F273 at e
  obtain ⟨r1, q1, e⟩ := zB_s e
  refine zF_blk (m := []) (d := 0) (b := B273_0) (gs := []) (c' := (8, [some (22, 0), some (0, v1)], [(0, 1), (0, 0), (0, v1)], (hc, (mset h 0 0 0), o))) K273_0 rfl trivial ?_
  refine zF_call (k := 188) (cl := 12) (n := 3) (i := .invokestatic 151) (args := [(0, v1), (0, 0), (0, 1)]) (rest := []) (g1 := (hc, (mset h 0 0 0), o)) (r1 := some (0, r1)) (by decide +kernel) rfl rfl rfl (st' := [(0, r1)]) rfl (S188 (Nat.le_trans (by decide) hd) v1 0 1 (mset h 0 0 0) _ q1) ?_
  rcases zI_s e with ⟨q2, e⟩ | ⟨q2, e⟩
  · refine zF_blk (m := []) (d := 1) (b := B273_3) (gs := [r1 = 0]) (c' := (23, [some (22, 0), some (0, v1)], [], (hc, (mset h 0 0 0), o))) K273_3 rfl ⟨q2, trivial⟩ ?_
    refine zF_blk (m := []) (d := 0) (b := B273_1) (gs := []) (c' := (24, [some (22, 0), some (0, v1)], [(0, (-1))], (hc, (mset h 0 0 0), o))) K273_1 rfl trivial ?_
    exact zF_riM (by decide +kernel) e
  · refine zF_blk (m := []) (d := 0) (b := B273_3) (gs := [¬ (r1 = 0)]) (c' := (14, [some (22, 0), some (0, v1)], [], (hc, (mset h 0 0 0), o))) K273_3 rfl ⟨q2, trivial⟩ ?_
    obtain ⟨q3, e⟩ := zG_s e
    refine zF_blk (m := []) (d := 0) (b := B273_2) (gs := [0 ≤ v1 ∧ v1 < 2]) (c' := (24, [some (22, 0), some (0, v1)], [(0, ((mset h 0 0 0) 41 v1))], (hc, (mset h 0 0 0), o))) K273_2 rfl ⟨q3, trivial⟩ ?_
    exact zF_riM (by decide +kernel) e
def B101b_0 : List zRow := [(0, .iconst 0, 1, (0, 0, 0)), (1, .istore_n 2, 1, (0, 0, 0)), (2, .iconst 0, 1, (0, 0, 0)), (3, .istore_n 3, 1, (0, 0, 0))]
theorem K101b_0 : zRk 101 B101b_0 = true := by decide +kernel
def B101b_1 : List zRow := [(27, .iload_n 2, 1, (0, 0, 0))]
theorem K101b_1 : zRk 101 B101b_1 = true := by decide +kernel
def B101b_2 : List zRow := [(12, .iload_n 2, 1, (0, 0, 0)), (13, .aload_n 0, 1, (0, 0, 0)), (14, .iload_n 1, 1, (0, 0, 0)), (15, .iload_n 3, 1, (0, 0, 0))]
theorem K101b_2 : zRk 101 B101b_2 = true := by decide +kernel
def B101b_3 : List zRow := [(19, .iadd, 1, (0, 0, 0)), (20, .istore_n 2, 1, (0, 0, 0)), (21, .iinc 3 1, 3, (0, 0, 0)), (24, .goto (-20), 3, (0, 0, 0))]
theorem K101b_3 : zRk 101 B101b_3 = true := by decide +kernel
def B101b_4 : List zRow := [(4, .iload_n 3, 1, (0, 0, 0)), (5, .aload_n 0, 1, (0, 0, 0)), (6, .getfield 34, 3, (1, 1, 0)), (9, .if_icmp .ge 18, 3, (0, 0, 0))]
theorem K101b_4 : zRk 101 B101b_4 = true := by decide +kernel
def F101b_0 (h : zHC) : Nat → Int → Int → Int → Option Int
  | 0, _, _, _ => none
  | n + 1, v1, v2, v3 => if (h 65 0 0) ≤ v3 then some v2 else (F62 v1 v3 h).bind fun r1 => (F101b_0 h n) v1 (wadd v2 r1) (wadd v3 1)
set_option maxRecDepth 100000 in
theorem T101b_0 {spec : zRn zH2} {hm : zHM} {o : Int → Int} {d : Nat} (hd : 2 ≤ d) (h : zHC) : ∀ (n : Nat) (v1 : Int) (v2 : Int) (v3 : Int) (v : Int), F101b_0 h n v1 v2 v3 = some v → zFin 0 (fun _ => 0) (zRu2 spec d) 101 (some (0, v)) (h, hm, o) (4, [some (11, 0), some (0, v1), some (0, v2), some (0, v3)], [], (h, hm, o)) := by
  intro n
  induction n with
  | zero => intro v1 v2 v3 v e; unfold F101b_0 at e; cases e
  | succ n hk0 =>
    intro v1 v2 v3 v e
    unfold F101b_0 at e
    rcases zI_s e with ⟨q1, e⟩ | ⟨q1, e⟩
    · refine zF_blk (m := []) (d := 1) (b := B101b_4) (gs := [(h 65 0 0) ≤ v3]) (c' := (27, [some (11, 0), some (0, v1), some (0, v2), some (0, v3)], [], (h, hm, o))) K101b_4 rfl ⟨q1, trivial⟩ ?_
      refine zF_blk (m := []) (d := 0) (b := B101b_1) (gs := []) (c' := (28, [some (11, 0), some (0, v1), some (0, v2), some (0, v3)], [(0, v2)], (h, hm, o))) K101b_1 rfl trivial ?_
      obtain rfl := Option.some.inj e
      exact zF_ri (by decide +kernel)
    · refine zF_blk (m := []) (d := 0) (b := B101b_4) (gs := [¬ ((h 65 0 0) ≤ v3)]) (c' := (12, [some (11, 0), some (0, v1), some (0, v2), some (0, v3)], [], (h, hm, o))) K101b_4 rfl ⟨q1, trivial⟩ ?_
      obtain ⟨r1, q2, e⟩ := zB_s e
      refine zF_blk (m := []) (d := 0) (b := B101b_2) (gs := []) (c' := (16, [some (11, 0), some (0, v1), some (0, v2), some (0, v3)], [(0, v3), (0, v1), (11, 0), (0, v2)], (h, hm, o))) K101b_2 rfl trivial ?_
      refine zF_call (k := 62) (cl := 1) (n := 3) (i := .invokevirtual 150) (args := [(11, 0), (0, v1), (0, v3)]) (rest := [(0, v2)]) (g1 := (h, hm, o)) (r1 := some (0, r1)) (by decide +kernel) rfl rfl rfl (st' := [(0, r1), (0, v2)]) rfl (S62 (Nat.le_trans (by decide) hd) v1 v3 h _ q2) ?_
      refine zF_blk (m := []) (d := 0) (b := B101b_3) (gs := []) (c' := (4, [some (11, 0), some (0, v1), some (0, (wadd v2 r1)), some (0, (wadd v3 1))], [], (h, hm, o))) K101b_3 rfl trivial ?_
      exact hk0 v1 (wadd v2 r1) (wadd v3 1) _ e
/-- EchoVale$Course.wealth(I)I -/
def F101b (v1 : Int) (h : zHC) : Option Int := F101b_0 h zFu v1 0 0
set_option maxRecDepth 100000 in
theorem S101b {spec : zRn zH2} {hm : zHM} {o : Int → Int} {d : Nat} (hd : 3 ≤ d) (v1 : Int) (h : zHC) (v : Int) (e : F101b v1 h = some v) : zRu2 spec d 101 [(11, 0), (0, v1)] (h, hm, o) (some (0, v)) (h, hm, o) := by
  refine zF_in (D := 2) (mx := 4) (L := [some (11, 0), some (0, v1), none, none]) (by decide +kernel) rfl rfl hd (fun d hd => ?_)
  unfold F101b at e
  refine zF_blk (m := []) (d := 0) (b := B101b_0) (gs := []) (c' := (4, [some (11, 0), some (0, v1), some (0, 0), some (0, 0)], [], (h, hm, o))) K101b_0 rfl trivial ?_
  exact T101b_0 hd h zFu v1 0 0 _ e
def B75b_0 : List zRow := [(13, .iconst 0, 1, (0, 0, 0))]
theorem K75b_0 : zRk 75 B75b_0 = true := by decide +kernel
def B75b_1 : List zRow := [(9, .iconst 1, 1, (0, 0, 0)), (10, .goto 4, 3, (0, 0, 0))]
theorem K75b_1 : zRk 75 B75b_1 = true := by decide +kernel
def B75b_2 : List zRow := [(0, .aload_n 0, 1, (0, 0, 0)), (1, .getfield 34, 3, (1, 1, 0)), (4, .bipush 30, 2, (0, 0, 0)), (6, .if_icmp .lt 7, 3, (0, 0, 0))]
theorem K75b_2 : zRk 75 B75b_2 = true := by decide +kernel
/-- EchoVale$Course.isFull()Z -/
def F75b (h : zHC) : Option Int := if (h 65 1 0) < 30 then some 0 else some 1
set_option maxRecDepth 100000 in
theorem S75b {spec : zRn zH2} {hm : zHM} {o : Int → Int} {d : Nat} (hd : 1 ≤ d) (h : zHC) (v : Int) (e : F75b h = some v) : zRu2 spec d 75 [(11, 1)] (h, hm, o) (some (0, v)) (h, hm, o) := by
  refine zF_in (D := 0) (mx := 1) (L := [some (11, 1)]) (by decide +kernel) rfl rfl hd (fun d hd => ?_)
  unfold F75b at e
  rcases zI_s e with ⟨q1, e⟩ | ⟨q1, e⟩
  · refine zF_blk (m := []) (d := 1) (b := B75b_2) (gs := [(h 65 1 0) < 30]) (c' := (13, [some (11, 1)], [], (h, hm, o))) K75b_2 rfl ⟨q1, trivial⟩ ?_
    refine zF_blk (m := []) (d := 0) (b := B75b_0) (gs := []) (c' := (14, [some (11, 1)], [(0, 0)], (h, hm, o))) K75b_0 rfl trivial ?_
    obtain rfl := Option.some.inj e
    exact zF_rb (by decide +kernel) (Or.inl rfl)
  · refine zF_blk (m := []) (d := 0) (b := B75b_2) (gs := [¬ ((h 65 1 0) < 30)]) (c' := (9, [some (11, 1)], [], (h, hm, o))) K75b_2 rfl ⟨q1, trivial⟩ ?_
    refine zF_blk (m := []) (d := 0) (b := B75b_1) (gs := []) (c' := (14, [some (11, 1)], [(0, 1)], (h, hm, o))) K75b_1 rfl trivial ?_
    obtain rfl := Option.some.inj e
    exact zF_rb (by decide +kernel) (Or.inr rfl)
def B136b_0 : List zRow := [(0, .aload_n 0, 1, (0, 0, 0)), (1, .aload_n 1, 1, (0, 0, 0)), (2, .getfield 39, 3, (9, 3, 0))]
theorem K136b_0 : zRk 136 B136b_0 = true := by decide +kernel
def B136b_1 : List zRow := [(8, .istore_n 3, 1, (0, 0, 0)), (9, .aload_n 0, 1, (0, 0, 0)), (10, .bipush 99, 2, (0, 0, 0))]
theorem K136b_1 : zRk 136 B136b_1 = true := by decide +kernel
def B136b_2 : List zRow := [(15, .iconst 1, 1, (0, 0, 0)), (16, .iadd, 1, (0, 0, 0)), (17, .istore 4, 2, (0, 0, 0)), (19, .aload_n 0, 1, (0, 0, 0)), (20, .bipush 9, 2, (0, 0, 0))]
theorem K136b_2 : zRk 136 B136b_2 = true := by decide +kernel
def B136b_3 : List zRow := [(37, .aload_n 2, 1, (0, 0, 0))]
theorem K136b_3 : zRk 136 B136b_3 = true := by decide +kernel
def B136b_4 : List zRow := [(44, .aload_n 2, 1, (0, 0, 0)), (45, .aload_n 1, 1, (0, 0, 0)), (46, .iload_n 3, 1, (0, 0, 0)), (47, .iload 4, 2, (0, 0, 0)), (49, .iload 5, 2, (0, 0, 0))]
theorem K136b_4 : zRk 136 B136b_4 = true := by decide +kernel
def B136b_5 : List zRow := [(54, .pop, 1, (0, 0, 0)), (55, .aload_n 0, 1, (0, 0, 0)), (56, .dup, 1, (0, 0, 0)), (57, .getfield 19, 3, (2, 1, 0)), (60, .iconst 1, 1, (0, 0, 0)), (61, .iadd, 1, (0, 0, 0)), (62, .putfield 19, 3, (2, 1, 0))]
theorem K136b_5 : zRk 136 B136b_5 = true := by decide +kernel
def B136b_6 : List zRow := [(41, .ifCond .ne 24, 3, (0, 0, 0))]
theorem K136b_6 : zRk 136 B136b_6 = true := by decide +kernel
def B136b_7 : List zRow := [(25, .iconst 1, 1, (0, 0, 0)), (26, .iadd, 1, (0, 0, 0)), (27, .istore 5, 2, (0, 0, 0)), (29, .iload_n 3, 1, (0, 0, 0)), (30, .aload_n 1, 1, (0, 0, 0)), (31, .getfield 39, 3, (9, 3, 0)), (34, .if_icmp .ge 31, 3, (0, 0, 0))]
theorem K136b_7 : zRk 136 B136b_7 = true := by decide +kernel
/-- EchoVale$Draws.speak(LEchoVale$Valley;LEchoVale$Course;)V -/
def F136b (h : zHC) : Option zHC := (F135 (h 579 0 0) h).bind fun r1 => (F135 99 r1.2).bind fun r2 => (F135 9 r2.2).bind fun r3 => if (r3.2 579 0 0) ≤ r1.1 then some r3.2 else (F75b r3.2).bind fun r4 => if ¬ r4 = 0 then some r3.2 else (F76b r1.1 (wadd r2.1 1) (wadd r3.1 1) r3.2).bind fun r5 => some (hset r5.2 129 0 0 (wadd (r5.2 129 0 0) 1))
set_option maxRecDepth 100000 in
theorem S136b {spec : zRn zH2} {hm : zHM} {o : Int → Int} {d : Nat} (hd : 5 ≤ d) (h : zHC) (v : zHC) (e : F136b h = some v) : zRu2 spec d 136 [(12, 0), (19, 0), (11, 1)] (h, hm, o) none (v, hm, o) := by
  refine zF_in (D := 4) (mx := 6) (L := [some (12, 0), some (19, 0), some (11, 1), none, none, none]) (by decide +kernel) rfl rfl hd (fun d hd => ?_)
  unfold F136b at e
  obtain ⟨r1, q1, e⟩ := zB_s e
  refine zF_blk (m := []) (d := 0) (b := B136b_0) (gs := []) (c' := (5, [some (12, 0), some (19, 0), some (11, 1), none, none, none], [(0, (h 579 0 0)), (12, 0)], (h, hm, o))) K136b_0 rfl trivial ?_
  refine zF_call (k := 135) (cl := 2) (n := 2) (i := .invokevirtual 27) (args := [(12, 0), (0, (h 579 0 0))]) (rest := []) (g1 := (r1.2, hm, o)) (r1 := some (0, r1.1)) (by decide +kernel) rfl rfl rfl (st' := [(0, r1.1)]) rfl (S135 (Nat.le_trans (by decide) hd) (h 579 0 0) h _ q1) ?_
  obtain ⟨r2, q2, e⟩ := zB_s e
  refine zF_blk (m := []) (d := 0) (b := B136b_1) (gs := []) (c' := (12, [some (12, 0), some (19, 0), some (11, 1), some (0, r1.1), none, none], [(0, 99), (12, 0)], (r1.2, hm, o))) K136b_1 rfl trivial ?_
  refine zF_call (k := 135) (cl := 2) (n := 2) (i := .invokevirtual 27) (args := [(12, 0), (0, 99)]) (rest := []) (g1 := (r2.2, hm, o)) (r1 := some (0, r2.1)) (by decide +kernel) rfl rfl rfl (st' := [(0, r2.1)]) rfl (S135 (Nat.le_trans (by decide) hd) 99 r1.2 _ q2) ?_
  obtain ⟨r3, q3, e⟩ := zB_s e
  refine zF_blk (m := []) (d := 0) (b := B136b_2) (gs := []) (c' := (22, [some (12, 0), some (19, 0), some (11, 1), some (0, r1.1), some (0, (wadd r2.1 1)), none], [(0, 9), (12, 0)], (r2.2, hm, o))) K136b_2 rfl trivial ?_
  refine zF_call (k := 135) (cl := 2) (n := 2) (i := .invokevirtual 27) (args := [(12, 0), (0, 9)]) (rest := []) (g1 := (r3.2, hm, o)) (r1 := some (0, r3.1)) (by decide +kernel) rfl rfl rfl (st' := [(0, r3.1)]) rfl (S135 (Nat.le_trans (by decide) hd) 9 r2.2 _ q3) ?_
  rcases zI_s e with ⟨q4, e⟩ | ⟨q4, e⟩
  · refine zF_blk (m := []) (d := 1) (b := B136b_7) (gs := [(r3.2 579 0 0) ≤ r1.1]) (c' := (65, [some (12, 0), some (19, 0), some (11, 1), some (0, r1.1), some (0, (wadd r2.1 1)), some (0, (wadd r3.1 1))], [], (r3.2, hm, o))) K136b_7 rfl ⟨q4, trivial⟩ ?_
    obtain rfl := Option.some.inj e
    exact zF_rv (by decide +kernel)
  · refine zF_blk (m := []) (d := 0) (b := B136b_7) (gs := [¬ ((r3.2 579 0 0) ≤ r1.1)]) (c' := (37, [some (12, 0), some (19, 0), some (11, 1), some (0, r1.1), some (0, (wadd r2.1 1)), some (0, (wadd r3.1 1))], [], (r3.2, hm, o))) K136b_7 rfl ⟨q4, trivial⟩ ?_
    obtain ⟨r4, q5, e⟩ := zB_s e
    refine zF_blk (m := []) (d := 0) (b := B136b_3) (gs := []) (c' := (38, [some (12, 0), some (19, 0), some (11, 1), some (0, r1.1), some (0, (wadd r2.1 1)), some (0, (wadd r3.1 1))], [(11, 1)], (r3.2, hm, o))) K136b_3 rfl trivial ?_
    refine zF_call (k := 75) (cl := 1) (n := 1) (i := .invokevirtual 44) (args := [(11, 1)]) (rest := []) (g1 := (r3.2, hm, o)) (r1 := some (0, r4)) (by decide +kernel) rfl rfl rfl (st' := [(0, r4)]) rfl (S75b (Nat.le_trans (by decide) hd)  r3.2 _ q5) ?_
    rcases zI_s e with ⟨q6, e⟩ | ⟨q6, e⟩
    · refine zF_blk (m := []) (d := 1) (b := B136b_6) (gs := [¬ r4 = 0]) (c' := (65, [some (12, 0), some (19, 0), some (11, 1), some (0, r1.1), some (0, (wadd r2.1 1)), some (0, (wadd r3.1 1))], [], (r3.2, hm, o))) K136b_6 rfl ⟨q6, trivial⟩ ?_
      obtain rfl := Option.some.inj e
      exact zF_rv (by decide +kernel)
    · refine zF_blk (m := []) (d := 0) (b := B136b_6) (gs := [¬ (¬ r4 = 0)]) (c' := (44, [some (12, 0), some (19, 0), some (11, 1), some (0, r1.1), some (0, (wadd r2.1 1)), some (0, (wadd r3.1 1))], [], (r3.2, hm, o))) K136b_6 rfl ⟨q6, trivial⟩ ?_
      obtain ⟨r5, q7, e⟩ := zB_s e
      refine zF_blk (m := []) (d := 0) (b := B136b_4) (gs := []) (c' := (51, [some (12, 0), some (19, 0), some (11, 1), some (0, r1.1), some (0, (wadd r2.1 1)), some (0, (wadd r3.1 1))], [(0, (wadd r3.1 1)), (0, (wadd r2.1 1)), (0, r1.1), (19, 0), (11, 1)], (r3.2, hm, o))) K136b_4 rfl trivial ?_
      refine zF_call (k := 76) (cl := 1) (n := 5) (i := .invokevirtual 48) (args := [(11, 1), (19, 0), (0, r1.1), (0, (wadd r2.1 1)), (0, (wadd r3.1 1))]) (rest := []) (g1 := (r5.2, hm, o)) (r1 := some (0, r5.1)) (by decide +kernel) rfl rfl rfl (st' := [(0, r5.1)]) rfl (S76b (Nat.le_trans (by decide) hd) r1.1 (wadd r2.1 1) (wadd r3.1 1) r3.2 _ q7) ?_
      refine zF_blk (m := []) (d := 0) (b := B136b_5) (gs := []) (c' := (65, [some (12, 0), some (19, 0), some (11, 1), some (0, r1.1), some (0, (wadd r2.1 1)), some (0, (wadd r3.1 1))], [], ((hset r5.2 129 0 0 (wadd (r5.2 129 0 0) 1)), hm, o))) K136b_5 rfl trivial ?_
      obtain rfl := Option.some.inj e
      exact zF_rv (by decide +kernel)
def B134b_0 : List zRow := [(0, .aload_n 0, 1, (0, 0, 0)), (1, .iload 4, 2, (0, 0, 0)), (3, .putfield 9, 3, (2, 2, 0)), (6, .aload_n 0, 1, (0, 0, 0)), (7, .iconst 0, 1, (0, 0, 0)), (8, .putfield 16, 3, (2, 0, 0)), (11, .aload_n 0, 1, (0, 0, 0)), (12, .iconst 0, 1, (0, 0, 0)), (13, .putfield 19, 3, (2, 1, 0)), (16, .iconst 0, 1, (0, 0, 0)), (17, .istore 5, 2, (0, 0, 0))]
theorem K134b_0 : zRk 134 B134b_0 = true := by decide +kernel
def B134b_1 : List zRow := [(90, .iload 5, 2, (0, 0, 0))]
theorem K134b_1 : zRk 134 B134b_1 = true := by decide +kernel
def B134b_2 : List zRow := [(35, .iconst 0, 1, (0, 0, 0)), (36, .istore 6, 2, (0, 0, 0)), (38, .aload_n 0, 1, (0, 0, 0)), (39, .iconst 4, 1, (0, 0, 0))]
theorem K134b_2 : zRk 134 B134b_2 = true := by decide +kernel
def B134b_3 : List zRow := [(46, .aload_n 0, 1, (0, 0, 0)), (47, .iconst 5, 1, (0, 0, 0))]
theorem K134b_3 : zRk 134 B134b_3 = true := by decide +kernel
def B134b_4 : List zRow := [(51, .istore 6, 2, (0, 0, 0)), (53, .aload_n 0, 1, (0, 0, 0)), (54, .dup, 1, (0, 0, 0)), (55, .getfield 16, 3, (2, 0, 0)), (58, .iconst 1, 1, (0, 0, 0)), (59, .iadd, 1, (0, 0, 0)), (60, .putfield 16, 3, (2, 0, 0))]
theorem K134b_4 : zRk 134 B134b_4 = true := by decide +kernel
def B134b_5 : List zRow := [(43, .ifCond .ne 20, 3, (0, 0, 0))]
theorem K134b_5 : zRk 134 B134b_5 = true := by decide +kernel
def B134b_6 : List zRow := [(25, .aload_n 2, 1, (0, 0, 0)), (26, .getfield 22, 3, (1, 0, 0)), (29, .sipush 400, 3, (0, 0, 0)), (32, .if_icmp .ge 58, 3, (0, 0, 0))]
theorem K134b_6 : zRk 134 B134b_6 = true := by decide +kernel
def B134b_7 : List zRow := [(19, .iload 5, 2, (0, 0, 0)), (21, .iload_n 3, 1, (0, 0, 0)), (22, .if_icmp .ge 68, 3, (0, 0, 0))]
theorem K134b_7 : zRk 134 B134b_7 = true := by decide +kernel
def B134b_8 : List zRow := [(63, .aload_n 2, 1, (0, 0, 0)), (64, .aload_n 1, 1, (0, 0, 0)), (65, .iload 6, 2, (0, 0, 0))]
theorem K134b_8 : zRk 134 B134b_8 = true := by decide +kernel
def B134b_9 : List zRow := [(70, .aload_n 0, 1, (0, 0, 0)), (71, .iconst 3, 1, (0, 0, 0))]
theorem K134b_9 : zRk 134 B134b_9 = true := by decide +kernel
def B134b_10 : List zRow := [(78, .aload_n 0, 1, (0, 0, 0)), (79, .aload_n 1, 1, (0, 0, 0)), (80, .aload_n 2, 1, (0, 0, 0))]
theorem K134b_10 : zRk 134 B134b_10 = true := by decide +kernel
def B134b_11 : List zRow := [(75, .ifCond .ne 9, 3, (0, 0, 0))]
theorem K134b_11 : zRk 134 B134b_11 = true := by decide +kernel
def B134b_12 : List zRow := [(84, .iinc 5 1, 3, (0, 0, 0)), (87, .goto (-68), 3, (0, 0, 0))]
theorem K134b_12 : zRk 134 B134b_12 = true := by decide +kernel
def F134b_2 (k0 : Int → Int → zHC → Option (Int × zHC)) (v3 : Int) (v5 : Int) (h : zHC) : Option (Int × zHC) := k0 v3 (wadd v5 1) h
set_option maxRecDepth 100000 in
theorem T134b_2 {spec : zRn zH2} {hm : zHM} {o : Int → Int} {d : Nat} (hd : 5 ≤ d) (k0 : Int → Int → zHC → Option (Int × zHC)) (hk0 : ∀ (v3 : Int) (v5 : Int) (h : zHC) (v : (Int × zHC)), k0 v3 v5 h = some v → zFin 0 (fun _ => 0) (zRu2 spec d) 134 (some (0, v.1)) (v.2, hm, o) (19, [some (12, 0), some (19, 0), some (11, 1), some (0, v3), none, some (0, v5), none], [], (h, hm, o))) (v3 : Int) (v5 : Int) (h : zHC) (v : (Int × zHC)) (e : F134b_2 k0 v3 v5 h = some v) : zFin 0 (fun _ => 0) (zRu2 spec d) 134 (some (0, v.1)) (v.2, hm, o) (84, [some (12, 0), some (19, 0), some (11, 1), some (0, v3), none, some (0, v5), none], [], (h, hm, o)) := by
  unfold F134b_2 at e
  refine zF_blk (m := []) (d := 0) (b := B134b_12) (gs := []) (c' := (19, [some (12, 0), some (19, 0), some (11, 1), some (0, v3), none, some (0, (wadd v5 1)), none], [], (h, hm, o))) K134b_12 rfl trivial ?_
  exact hk0 v3 (wadd v5 1) h _ e
def F134b_1 (k0 : Int → Int → zHC → Option (Int × zHC)) (v3 : Int) (v5 : Int) (v6 : Int) (h : zHC) : Option (Int × zHC) := (F89b v6 h).bind fun r1 => (F135 3 r1).bind fun r2 => if ¬ r2.1 = 0 then F134b_2 k0 v3 v5 r2.2 else (F136b r2.2).bind fun r3 => F134b_2 k0 v3 v5 r3
set_option maxRecDepth 100000 in
theorem T134b_1 {spec : zRn zH2} {hm : zHM} {o : Int → Int} {d : Nat} (hd : 5 ≤ d) (k0 : Int → Int → zHC → Option (Int × zHC)) (hk0 : ∀ (v3 : Int) (v5 : Int) (h : zHC) (v : (Int × zHC)), k0 v3 v5 h = some v → zFin 0 (fun _ => 0) (zRu2 spec d) 134 (some (0, v.1)) (v.2, hm, o) (19, [some (12, 0), some (19, 0), some (11, 1), some (0, v3), none, some (0, v5), none], [], (h, hm, o))) (v3 : Int) (v5 : Int) (v6 : Int) (h : zHC) (v : (Int × zHC)) (e : F134b_1 k0 v3 v5 v6 h = some v) : zFin 0 (fun _ => 0) (zRu2 spec d) 134 (some (0, v.1)) (v.2, hm, o) (63, [some (12, 0), some (19, 0), some (11, 1), some (0, v3), none, some (0, v5), some (0, v6)], [], (h, hm, o)) := by
  unfold F134b_1 at e
  obtain ⟨r1, q1, e⟩ := zB_s e
  refine zF_blk (m := []) (d := 0) (b := B134b_8) (gs := []) (c' := (67, [some (12, 0), some (19, 0), some (11, 1), some (0, v3), none, some (0, v5), some (0, v6)], [(0, v6), (19, 0), (11, 1)], (h, hm, o))) K134b_8 rfl trivial ?_
  refine zF_call (k := 89) (cl := 1) (n := 3) (i := .invokevirtual 31) (args := [(11, 1), (19, 0), (0, v6)]) (rest := []) (g1 := (r1, hm, o)) (r1 := none) (by decide +kernel) rfl rfl rfl (st' := []) rfl (S89b (Nat.le_trans (by decide) hd) v6 h _ q1) ?_
  obtain ⟨r2, q2, e⟩ := zB_s e
  refine zF_blk (m := []) (d := 0) (b := B134b_9) (gs := []) (c' := (72, [some (12, 0), some (19, 0), some (11, 1), some (0, v3), none, some (0, v5), some (0, v6)], [(0, 3), (12, 0)], (r1, hm, o))) K134b_9 rfl trivial ?_
  refine zF_call (k := 135) (cl := 2) (n := 2) (i := .invokevirtual 27) (args := [(12, 0), (0, 3)]) (rest := []) (g1 := (r2.2, hm, o)) (r1 := some (0, r2.1)) (by decide +kernel) rfl rfl rfl (st' := [(0, r2.1)]) rfl (S135 (Nat.le_trans (by decide) hd) 3 r1 _ q2) ?_
  rcases zI_s e with ⟨q3, e⟩ | ⟨q3, e⟩
  · refine zF_blk (m := []) (d := 1) (b := B134b_11) (gs := [¬ r2.1 = 0]) (c' := (84, [some (12, 0), some (19, 0), some (11, 1), some (0, v3), none, some (0, v5), some (0, v6)], [], (r2.2, hm, o))) K134b_11 rfl ⟨q3, trivial⟩ ?_
    refine zF_blk (m := [true, true, true, true, false, true, false]) (d := 0) (b := []) (gs := []) (c' := (84, [some (12, 0), some (19, 0), some (11, 1), some (0, v3), none, some (0, v5), none], [], (r2.2, hm, o))) rfl rfl trivial ?_
    exact T134b_2 hd k0 hk0 v3 v5 r2.2 _ e
  · refine zF_blk (m := []) (d := 0) (b := B134b_11) (gs := [¬ (¬ r2.1 = 0)]) (c' := (78, [some (12, 0), some (19, 0), some (11, 1), some (0, v3), none, some (0, v5), some (0, v6)], [], (r2.2, hm, o))) K134b_11 rfl ⟨q3, trivial⟩ ?_
    obtain ⟨r3, q4, e⟩ := zB_s e
    refine zF_blk (m := []) (d := 0) (b := B134b_10) (gs := []) (c' := (81, [some (12, 0), some (19, 0), some (11, 1), some (0, v3), none, some (0, v5), some (0, v6)], [(11, 1), (19, 0), (12, 0)], (r2.2, hm, o))) K134b_10 rfl trivial ?_
    refine zF_call (k := 136) (cl := 2) (n := 3) (i := .invokevirtual 35) (args := [(12, 0), (19, 0), (11, 1)]) (rest := []) (g1 := (r3, hm, o)) (r1 := none) (by decide +kernel) rfl rfl rfl (st' := []) rfl (S136b (Nat.le_trans (by decide) hd)  r2.2 _ q4) ?_
    refine zF_blk (m := [true, true, true, true, false, true, false]) (d := 0) (b := []) (gs := []) (c' := (84, [some (12, 0), some (19, 0), some (11, 1), some (0, v3), none, some (0, v5), none], [], (r3, hm, o))) rfl rfl trivial ?_
    exact T134b_2 hd k0 hk0 v3 v5 r3 _ e
def F134b_0 : Nat → Int → Int → zHC → Option (Int × zHC)
  | 0, _, _, _ => none
  | n + 1, v3, v5, h => if v3 ≤ v5 then some (v5, h) else if 400 ≤ (h 64 1 0) then some (v5, h) else (F135 4 h).bind fun r1 => if ¬ r1.1 = 0 then F134b_1 (F134b_0 n) v3 v5 0 r1.2 else (F135 5 r1.2).bind fun r2 => F134b_1 (F134b_0 n) v3 v5 r2.1 (hset r2.2 128 0 0 (wadd (r2.2 128 0 0) 1))
set_option maxRecDepth 100000 in
theorem T134b_0 {spec : zRn zH2} {hm : zHM} {o : Int → Int} {d : Nat} (hd : 5 ≤ d) : ∀ (n : Nat) (v3 : Int) (v5 : Int) (h : zHC) (v : (Int × zHC)), F134b_0 n v3 v5 h = some v → zFin 0 (fun _ => 0) (zRu2 spec d) 134 (some (0, v.1)) (v.2, hm, o) (19, [some (12, 0), some (19, 0), some (11, 1), some (0, v3), none, some (0, v5), none], [], (h, hm, o)) := by
  intro n
  induction n with
  | zero => intro v3 v5 h v e; unfold F134b_0 at e; cases e
  | succ n hk0 =>
    intro v3 v5 h v e
    unfold F134b_0 at e
    rcases zI_s e with ⟨q1, e⟩ | ⟨q1, e⟩
    · refine zF_blk (m := []) (d := 1) (b := B134b_7) (gs := [v3 ≤ v5]) (c' := (90, [some (12, 0), some (19, 0), some (11, 1), some (0, v3), none, some (0, v5), none], [], (h, hm, o))) K134b_7 rfl ⟨q1, trivial⟩ ?_
      refine zF_blk (m := []) (d := 0) (b := B134b_1) (gs := []) (c' := (92, [some (12, 0), some (19, 0), some (11, 1), some (0, v3), none, some (0, v5), none], [(0, v5)], (h, hm, o))) K134b_1 rfl trivial ?_
      exact zF_riC (by decide +kernel) e
    · refine zF_blk (m := []) (d := 0) (b := B134b_7) (gs := [¬ (v3 ≤ v5)]) (c' := (25, [some (12, 0), some (19, 0), some (11, 1), some (0, v3), none, some (0, v5), none], [], (h, hm, o))) K134b_7 rfl ⟨q1, trivial⟩ ?_
      rcases zI_s e with ⟨q2, e⟩ | ⟨q2, e⟩
      · refine zF_blk (m := []) (d := 1) (b := B134b_6) (gs := [400 ≤ (h 64 1 0)]) (c' := (90, [some (12, 0), some (19, 0), some (11, 1), some (0, v3), none, some (0, v5), none], [], (h, hm, o))) K134b_6 rfl ⟨q2, trivial⟩ ?_
        refine zF_blk (m := []) (d := 0) (b := B134b_1) (gs := []) (c' := (92, [some (12, 0), some (19, 0), some (11, 1), some (0, v3), none, some (0, v5), none], [(0, v5)], (h, hm, o))) K134b_1 rfl trivial ?_
        exact zF_riC (by decide +kernel) e
      · refine zF_blk (m := []) (d := 0) (b := B134b_6) (gs := [¬ (400 ≤ (h 64 1 0))]) (c' := (35, [some (12, 0), some (19, 0), some (11, 1), some (0, v3), none, some (0, v5), none], [], (h, hm, o))) K134b_6 rfl ⟨q2, trivial⟩ ?_
        obtain ⟨r1, q3, e⟩ := zB_s e
        refine zF_blk (m := []) (d := 0) (b := B134b_2) (gs := []) (c' := (40, [some (12, 0), some (19, 0), some (11, 1), some (0, v3), none, some (0, v5), some (0, 0)], [(0, 4), (12, 0)], (h, hm, o))) K134b_2 rfl trivial ?_
        refine zF_call (k := 135) (cl := 2) (n := 2) (i := .invokevirtual 27) (args := [(12, 0), (0, 4)]) (rest := []) (g1 := (r1.2, hm, o)) (r1 := some (0, r1.1)) (by decide +kernel) rfl rfl rfl (st' := [(0, r1.1)]) rfl (S135 (Nat.le_trans (by decide) hd) 4 h _ q3) ?_
        rcases zI_s e with ⟨q4, e⟩ | ⟨q4, e⟩
        · refine zF_blk (m := []) (d := 1) (b := B134b_5) (gs := [¬ r1.1 = 0]) (c' := (63, [some (12, 0), some (19, 0), some (11, 1), some (0, v3), none, some (0, v5), some (0, 0)], [], (r1.2, hm, o))) K134b_5 rfl ⟨q4, trivial⟩ ?_
          exact T134b_1 hd (F134b_0 n) hk0 v3 v5 0 r1.2 _ e
        · refine zF_blk (m := []) (d := 0) (b := B134b_5) (gs := [¬ (¬ r1.1 = 0)]) (c' := (46, [some (12, 0), some (19, 0), some (11, 1), some (0, v3), none, some (0, v5), some (0, 0)], [], (r1.2, hm, o))) K134b_5 rfl ⟨q4, trivial⟩ ?_
          obtain ⟨r2, q5, e⟩ := zB_s e
          refine zF_blk (m := []) (d := 0) (b := B134b_3) (gs := []) (c' := (48, [some (12, 0), some (19, 0), some (11, 1), some (0, v3), none, some (0, v5), some (0, 0)], [(0, 5), (12, 0)], (r1.2, hm, o))) K134b_3 rfl trivial ?_
          refine zF_call (k := 135) (cl := 2) (n := 2) (i := .invokevirtual 27) (args := [(12, 0), (0, 5)]) (rest := []) (g1 := (r2.2, hm, o)) (r1 := some (0, r2.1)) (by decide +kernel) rfl rfl rfl (st' := [(0, r2.1)]) rfl (S135 (Nat.le_trans (by decide) hd) 5 r1.2 _ q5) ?_
          refine zF_blk (m := []) (d := 0) (b := B134b_4) (gs := []) (c' := (63, [some (12, 0), some (19, 0), some (11, 1), some (0, v3), none, some (0, v5), some (0, r2.1)], [], ((hset r2.2 128 0 0 (wadd (r2.2 128 0 0) 1)), hm, o))) K134b_4 rfl trivial ?_
          exact T134b_1 hd (F134b_0 n) hk0 v3 v5 r2.1 (hset r2.2 128 0 0 (wadd (r2.2 128 0 0) 1)) _ e
/-- EchoVale$Draws.passHours(LEchoVale$Valley;LEchoVale$Course;II)I -/
def F134b (v3 : Int) (v4 : Int) (h : zHC) : Option (Int × zHC) := F134b_0 zFu v3 0 (hset (hset (hset h 130 0 0 v4) 128 0 0 0) 129 0 0 0)
set_option maxRecDepth 100000 in
theorem S134b {spec : zRn zH2} {hm : zHM} {o : Int → Int} {d : Nat} (hd : 6 ≤ d) (v3 : Int) (v4 : Int) (h : zHC) (v : (Int × zHC)) (e : F134b v3 v4 h = some v) : zRu2 spec d 134 [(12, 0), (19, 0), (11, 1), (0, v3), (0, v4)] (h, hm, o) (some (0, v.1)) (v.2, hm, o) := by
  refine zF_in (D := 5) (mx := 7) (L := [some (12, 0), some (19, 0), some (11, 1), some (0, v3), some (0, v4), none, none]) (by decide +kernel) rfl rfl hd (fun d hd => ?_)
  unfold F134b at e
  refine zF_blk (m := []) (d := 0) (b := B134b_0) (gs := []) (c' := (19, [some (12, 0), some (19, 0), some (11, 1), some (0, v3), some (0, v4), some (0, 0), none], [], ((hset (hset (hset h 130 0 0 v4) 128 0 0 0) 129 0 0 0), hm, o))) K134b_0 rfl trivial ?_
  refine zF_blk (m := [true, true, true, true, false, true, false]) (d := 0) (b := []) (gs := []) (c' := (19, [some (12, 0), some (19, 0), some (11, 1), some (0, v3), none, some (0, 0), none], [], ((hset (hset (hset h 130 0 0 v4) 128 0 0 0) 129 0 0 0), hm, o))) rfl rfl trivial ?_
  exact T134b_0 hd zFu v3 0 (hset (hset (hset h 130 0 0 v4) 128 0 0 0) 129 0 0 0) _ e
def B138_0 : List zRow := [(0, .aload_n 0, 1, (0, 0, 0)), (1, .iload_n 1, 1, (0, 0, 0))]
theorem K138_0 : zRk 138 B138_0 = true := by decide +kernel
def B138_1 : List zRow := [(19, .iconst (-1), 1, (0, 0, 0))]
theorem K138_1 : zRk 138 B138_1 = true := by decide +kernel
def B138_2 : List zRow := [(21, .aload_n 0, 1, (0, 0, 0)), (22, .getfield 56, 3, (11, 6, 7)), (25, .iload_n 1, 1, (0, 0, 0))]
theorem K138_2 : zRk 138 B138_2 = true := by decide +kernel
def B138_3 : List zRow := [(29, .istore 4, 2, (0, 0, 0)), (31, .iconst 0, 1, (0, 0, 0)), (32, .istore 5, 2, (0, 0, 0)), (34, .iconst 0, 1, (0, 0, 0)), (35, .istore 6, 2, (0, 0, 0))]
theorem K138_3 : zRk 138 B138_3 = true := by decide +kernel
def B138_4 : List zRow := [(13, .iload_n 2, 1, (0, 0, 0)), (14, .bipush 40, 2, (0, 0, 0)), (16, .if_icmp .le 5, 3, (0, 0, 0))]
theorem K138_4 : zRk 138 B138_4 = true := by decide +kernel
def B138_5 : List zRow := [(8, .iload_n 2, 1, (0, 0, 0)), (9, .iconst 1, 1, (0, 0, 0)), (10, .if_icmp .lt 9, 3, (0, 0, 0))]
theorem K138_5 : zRk 138 B138_5 = true := by decide +kernel
def B138_6 : List zRow := [(5, .ifCond .eq 14, 3, (0, 0, 0))]
theorem K138_6 : zRk 138 B138_6 = true := by decide +kernel
def B138_7 : List zRow := [(98, .iload 5, 2, (0, 0, 0))]
theorem K138_7 : zRk 138 B138_7 = true := by decide +kernel
def B138_8 : List zRow := [(43, .aload_n 0, 1, (0, 0, 0)), (44, .getfield 60, 3, (11, 7, 135)), (47, .aload_n 0, 1, (0, 0, 0)), (48, .getfield 56, 3, (11, 6, 7))]
theorem K138_8 : zRk 138 B138_8 = true := by decide +kernel
def B138_9 : List zRow := [(54, .aload_n 0, 1, (0, 0, 0)), (55, .getfield 87, 3, (11, 11, 11)), (58, .aload_n 0, 1, (0, 0, 0)), (59, .getfield 19, 3, (11, 1, 39)), (62, .aload_n 0, 1, (0, 0, 0)), (63, .getfield 60, 3, (11, 7, 135)), (66, .bipush 40, 2, (0, 0, 0)), (68, .iload_n 3, 1, (0, 0, 0)), (69, .iload 6, 2, (0, 0, 0)), (71, .iadd, 1, (0, 0, 0))]
theorem K138_9 : zRk 138 B138_9 = true := by decide +kernel
def B138_10 : List zRow := [(75, .pop, 1, (0, 0, 0)), (76, .aload_n 0, 1, (0, 0, 0)), (77, .getfield 60, 3, (11, 7, 135)), (80, .iload_n 1, 1, (0, 0, 0))]
theorem K138_10 : zRk 138 B138_10 = true := by decide +kernel
def B138_11 : List zRow := [(89, .iinc 5 1, 3, (0, 0, 0))]
theorem K138_11 : zRk 138 B138_11 = true := by decide +kernel
def B138_12 : List zRow := [(84, .iload 4, 2, (0, 0, 0)), (86, .if_icmp .le 6, 3, (0, 0, 0))]
theorem K138_12 : zRk 138 B138_12 = true := by decide +kernel
def B138_13 : List zRow := [(37, .iload 6, 2, (0, 0, 0)), (39, .iload_n 2, 1, (0, 0, 0)), (40, .if_icmp .ge 58, 3, (0, 0, 0))]
theorem K138_13 : zRk 138 B138_13 = true := by decide +kernel
def B138_14 : List zRow := [(92, .iinc 6 1, 3, (0, 0, 0)), (95, .goto (-58), 3, (0, 0, 0))]
theorem K138_14 : zRk 138 B138_14 = true := by decide +kernel
def F138_1 (k0 : Int → Int → Int → Int → Int → Int → zHC → Option (Int × zHC)) (v1 : Int) (v2 : Int) (v3 : Int) (v4 : Int) (v5 : Int) (v6 : Int) (h : zHC) : Option (Int × zHC) := k0 v1 v2 v3 v4 v5 (wadd v6 1) h
set_option maxRecDepth 100000 in
theorem T138_1 {spec : zRn zH2} {hm : zHM} {o : Int → Int} {d : Nat} (hd : 6 ≤ d) (k0 : Int → Int → Int → Int → Int → Int → zHC → Option (Int × zHC)) (hk0 : ∀ (v1 : Int) (v2 : Int) (v3 : Int) (v4 : Int) (v5 : Int) (v6 : Int) (h : zHC) (v : (Int × zHC)), k0 v1 v2 v3 v4 v5 v6 h = some v → zFin 0 (fun _ => 0) (zRu2 spec d) 138 (some (0, v.1)) (v.2, hm, o) (37, [some (21, 0), some (0, v1), some (0, v2), some (0, v3), some (0, v4), some (0, v5), some (0, v6)], [], (h, hm, o))) (v1 : Int) (v2 : Int) (v3 : Int) (v4 : Int) (v5 : Int) (v6 : Int) (h : zHC) (v : (Int × zHC)) (e : F138_1 k0 v1 v2 v3 v4 v5 v6 h = some v) : zFin 0 (fun _ => 0) (zRu2 spec d) 138 (some (0, v.1)) (v.2, hm, o) (92, [some (21, 0), some (0, v1), some (0, v2), some (0, v3), some (0, v4), some (0, v5), some (0, v6)], [], (h, hm, o)) := by
  unfold F138_1 at e
  refine zF_blk (m := []) (d := 0) (b := B138_14) (gs := []) (c' := (37, [some (21, 0), some (0, v1), some (0, v2), some (0, v3), some (0, v4), some (0, v5), some (0, (wadd v6 1))], [], (h, hm, o))) K138_14 rfl trivial ?_
  exact hk0 v1 v2 v3 v4 v5 (wadd v6 1) h _ e
def F138_0 : Nat → Int → Int → Int → Int → Int → Int → zHC → Option (Int × zHC)
  | 0, _, _, _, _, _, _, _ => none
  | n + 1, v1, v2, v3, v4, v5, v6, h => if v2 ≤ v6 then some (v5, h) else (F71c h).bind fun r1 => (F134b 40 (wadd v3 v6) r1).bind fun r2 => (F101 v1 r2.2).bind fun r3 => if r3 ≤ v4 then F138_1 (F138_0 n) v1 v2 v3 v4 v5 v6 r2.2 else F138_1 (F138_0 n) v1 v2 v3 v4 (wadd v5 1) v6 r2.2
set_option maxRecDepth 100000 in
theorem T138_0 {spec : zRn zH2} {hm : zHM} {o : Int → Int} {d : Nat} (hd : 6 ≤ d) : ∀ (n : Nat) (v1 : Int) (v2 : Int) (v3 : Int) (v4 : Int) (v5 : Int) (v6 : Int) (h : zHC) (v : (Int × zHC)), F138_0 n v1 v2 v3 v4 v5 v6 h = some v → zFin 0 (fun _ => 0) (zRu2 spec d) 138 (some (0, v.1)) (v.2, hm, o) (37, [some (21, 0), some (0, v1), some (0, v2), some (0, v3), some (0, v4), some (0, v5), some (0, v6)], [], (h, hm, o)) := by
  intro n
  induction n with
  | zero => intro v1 v2 v3 v4 v5 v6 h v e; unfold F138_0 at e; cases e
  | succ n hk0 =>
    intro v1 v2 v3 v4 v5 v6 h v e
    unfold F138_0 at e
    rcases zI_s e with ⟨q1, e⟩ | ⟨q1, e⟩
    · refine zF_blk (m := []) (d := 1) (b := B138_13) (gs := [v2 ≤ v6]) (c' := (98, [some (21, 0), some (0, v1), some (0, v2), some (0, v3), some (0, v4), some (0, v5), some (0, v6)], [], (h, hm, o))) K138_13 rfl ⟨q1, trivial⟩ ?_
      refine zF_blk (m := []) (d := 0) (b := B138_7) (gs := []) (c' := (100, [some (21, 0), some (0, v1), some (0, v2), some (0, v3), some (0, v4), some (0, v5), some (0, v6)], [(0, v5)], (h, hm, o))) K138_7 rfl trivial ?_
      exact zF_riC (by decide +kernel) e
    · refine zF_blk (m := []) (d := 0) (b := B138_13) (gs := [¬ (v2 ≤ v6)]) (c' := (43, [some (21, 0), some (0, v1), some (0, v2), some (0, v3), some (0, v4), some (0, v5), some (0, v6)], [], (h, hm, o))) K138_13 rfl ⟨q1, trivial⟩ ?_
      obtain ⟨r1, q2, e⟩ := zB_s e
      refine zF_blk (m := []) (d := 0) (b := B138_8) (gs := []) (c' := (51, [some (21, 0), some (0, v1), some (0, v2), some (0, v3), some (0, v4), some (0, v5), some (0, v6)], [(11, 0), (11, 1)], (h, hm, o))) K138_8 rfl trivial ?_
      refine zF_call (k := 71) (cl := 1) (n := 2) (i := .invokevirtual 266) (args := [(11, 1), (11, 0)]) (rest := []) (g1 := (r1, hm, o)) (r1 := none) (by decide +kernel) rfl rfl rfl (st' := []) rfl (S71c (Nat.le_trans (by decide) hd)  h _ q2) ?_
      obtain ⟨r2, q3, e⟩ := zB_s e
      refine zF_blk (m := []) (d := 0) (b := B138_9) (gs := []) (c' := (72, [some (21, 0), some (0, v1), some (0, v2), some (0, v3), some (0, v4), some (0, v5), some (0, v6)], [(0, (wadd v3 v6)), (0, 40), (11, 1), (19, 0), (12, 0)], (r1, hm, o))) K138_9 rfl trivial ?_
      refine zF_call (k := 134) (cl := 2) (n := 5) (i := .invokevirtual 314) (args := [(12, 0), (19, 0), (11, 1), (0, 40), (0, (wadd v3 v6))]) (rest := []) (g1 := (r2.2, hm, o)) (r1 := some (0, r2.1)) (by decide +kernel) rfl rfl rfl (st' := [(0, r2.1)]) rfl (S134b (Nat.le_trans (by decide) hd) 40 (wadd v3 v6) r1 _ q3) ?_
      obtain ⟨r3, q4, e⟩ := zB_s e
      refine zF_blk (m := []) (d := 0) (b := B138_10) (gs := []) (c' := (81, [some (21, 0), some (0, v1), some (0, v2), some (0, v3), some (0, v4), some (0, v5), some (0, v6)], [(0, v1), (11, 1)], (r2.2, hm, o))) K138_10 rfl trivial ?_
      refine zF_call (k := 101) (cl := 1) (n := 2) (i := .invokevirtual 179) (args := [(11, 1), (0, v1)]) (rest := []) (g1 := (r2.2, hm, o)) (r1 := some (0, r3)) (by decide +kernel) rfl rfl rfl (st' := [(0, r3)]) rfl (S101 (Nat.le_trans (by decide) hd) v1 r2.2 _ q4) ?_
      rcases zI_s e with ⟨q5, e⟩ | ⟨q5, e⟩
      · refine zF_blk (m := []) (d := 1) (b := B138_12) (gs := [r3 ≤ v4]) (c' := (92, [some (21, 0), some (0, v1), some (0, v2), some (0, v3), some (0, v4), some (0, v5), some (0, v6)], [], (r2.2, hm, o))) K138_12 rfl ⟨q5, trivial⟩ ?_
        exact T138_1 hd (F138_0 n) hk0 v1 v2 v3 v4 v5 v6 r2.2 _ e
      · refine zF_blk (m := []) (d := 0) (b := B138_12) (gs := [¬ (r3 ≤ v4)]) (c' := (89, [some (21, 0), some (0, v1), some (0, v2), some (0, v3), some (0, v4), some (0, v5), some (0, v6)], [], (r2.2, hm, o))) K138_12 rfl ⟨q5, trivial⟩ ?_
        refine zF_blk (m := []) (d := 0) (b := B138_11) (gs := []) (c' := (92, [some (21, 0), some (0, v1), some (0, v2), some (0, v3), some (0, v4), some (0, (wadd v5 1)), some (0, v6)], [], (r2.2, hm, o))) K138_11 rfl trivial ?_
        exact T138_1 hd (F138_0 n) hk0 v1 v2 v3 v4 (wadd v5 1) v6 r2.2 _ e
/-- EchoVale.odds(III)I -/
def F138 (v1 : Int) (v2 : Int) (v3 : Int) (h : zHC) : Option (Int × zHC) := (F61 v1 h).bind fun r1 => if r1 = 0 then some ((-1), h) else if v2 < 1 then some ((-1), h) else if v2 ≤ 40 then (F101b v1 h).bind fun r2 => F138_0 zFu v1 v2 v3 r2 0 0 h else some ((-1), h)
set_option maxRecDepth 100000 in
theorem S138 {spec : zRn zH2} {hm : zHM} {o : Int → Int} {d : Nat} (hd : 7 ≤ d) (v1 : Int) (v2 : Int) (v3 : Int) (h : zHC) (v : (Int × zHC)) (e : F138 v1 v2 v3 h = some v) : zRu2 spec d 138 [(21, 0), (0, v1), (0, v2), (0, v3)] (h, hm, o) (some (0, v.1)) (v.2, hm, o) := by
  refine zF_in (D := 6) (mx := 7) (L := [some (21, 0), some (0, v1), some (0, v2), some (0, v3), none, none, none]) (by decide +kernel) rfl rfl hd (fun d hd => ?_)
  unfold F138 at e
  obtain ⟨r1, q1, e⟩ := zB_s e
  refine zF_blk (m := []) (d := 0) (b := B138_0) (gs := []) (c' := (2, [some (21, 0), some (0, v1), some (0, v2), some (0, v3), none, none, none], [(0, v1), (21, 0)], (h, hm, o))) K138_0 rfl trivial ?_
  refine zF_call (k := 61) (cl := 11) (n := 2) (i := .invokevirtual 172) (args := [(21, 0), (0, v1)]) (rest := []) (g1 := (h, hm, o)) (r1 := some (0, r1)) (by decide +kernel) rfl rfl rfl (st' := [(0, r1)]) rfl (S61 (Nat.le_trans (by decide) hd) v1 h _ q1) ?_
  rcases zI_s e with ⟨q2, e⟩ | ⟨q2, e⟩
  · refine zF_blk (m := []) (d := 1) (b := B138_6) (gs := [r1 = 0]) (c' := (19, [some (21, 0), some (0, v1), some (0, v2), some (0, v3), none, none, none], [], (h, hm, o))) K138_6 rfl ⟨q2, trivial⟩ ?_
    refine zF_blk (m := []) (d := 0) (b := B138_1) (gs := []) (c' := (20, [some (21, 0), some (0, v1), some (0, v2), some (0, v3), none, none, none], [(0, (-1))], (h, hm, o))) K138_1 rfl trivial ?_
    exact zF_riC (by decide +kernel) e
  · refine zF_blk (m := []) (d := 0) (b := B138_6) (gs := [¬ (r1 = 0)]) (c' := (8, [some (21, 0), some (0, v1), some (0, v2), some (0, v3), none, none, none], [], (h, hm, o))) K138_6 rfl ⟨q2, trivial⟩ ?_
    rcases zI_s e with ⟨q3, e⟩ | ⟨q3, e⟩
    · refine zF_blk (m := []) (d := 1) (b := B138_5) (gs := [v2 < 1]) (c' := (19, [some (21, 0), some (0, v1), some (0, v2), some (0, v3), none, none, none], [], (h, hm, o))) K138_5 rfl ⟨q3, trivial⟩ ?_
      refine zF_blk (m := []) (d := 0) (b := B138_1) (gs := []) (c' := (20, [some (21, 0), some (0, v1), some (0, v2), some (0, v3), none, none, none], [(0, (-1))], (h, hm, o))) K138_1 rfl trivial ?_
      exact zF_riC (by decide +kernel) e
    · refine zF_blk (m := []) (d := 0) (b := B138_5) (gs := [¬ (v2 < 1)]) (c' := (13, [some (21, 0), some (0, v1), some (0, v2), some (0, v3), none, none, none], [], (h, hm, o))) K138_5 rfl ⟨q3, trivial⟩ ?_
      rcases zI_s e with ⟨q4, e⟩ | ⟨q4, e⟩
      · refine zF_blk (m := []) (d := 1) (b := B138_4) (gs := [v2 ≤ 40]) (c' := (21, [some (21, 0), some (0, v1), some (0, v2), some (0, v3), none, none, none], [], (h, hm, o))) K138_4 rfl ⟨q4, trivial⟩ ?_
        obtain ⟨r2, q5, e⟩ := zB_s e
        refine zF_blk (m := []) (d := 0) (b := B138_2) (gs := []) (c' := (26, [some (21, 0), some (0, v1), some (0, v2), some (0, v3), none, none, none], [(0, v1), (11, 0)], (h, hm, o))) K138_2 rfl trivial ?_
        refine zF_call (k := 101) (cl := 1) (n := 2) (i := .invokevirtual 179) (args := [(11, 0), (0, v1)]) (rest := []) (g1 := (h, hm, o)) (r1 := some (0, r2)) (by decide +kernel) rfl rfl rfl (st' := [(0, r2)]) rfl (S101b (Nat.le_trans (by decide) hd) v1 h _ q5) ?_
        refine zF_blk (m := []) (d := 0) (b := B138_3) (gs := []) (c' := (37, [some (21, 0), some (0, v1), some (0, v2), some (0, v3), some (0, r2), some (0, 0), some (0, 0)], [], (h, hm, o))) K138_3 rfl trivial ?_
        exact T138_0 hd zFu v1 v2 v3 r2 0 0 h _ e
      · refine zF_blk (m := []) (d := 0) (b := B138_4) (gs := [¬ (v2 ≤ 40)]) (c' := (19, [some (21, 0), some (0, v1), some (0, v2), some (0, v3), none, none, none], [], (h, hm, o))) K138_4 rfl ⟨q4, trivial⟩ ?_
        refine zF_blk (m := []) (d := 0) (b := B138_1) (gs := []) (c' := (20, [some (21, 0), some (0, v1), some (0, v2), some (0, v3), none, none, none], [(0, (-1))], (h, hm, o))) K138_1 rfl trivial ?_
        exact zF_riC (by decide +kernel) e
def B274_0 : List zRow := [(0, .aload_n 0, 1, (0, 0, 0)), (1, .iconst 0, 1, (0, 0, 0)), (2, .putfield 81, 3, (12, 0, 0)), (5, .aload_n 0, 1, (0, 0, 0)), (6, .iload_n 1, 1, (0, 0, 0))]
theorem K274_0 : zRk 274 B274_0 = true := by decide +kernel
def B274_1 : List zRow := [(23, .iconst (-1), 1, (0, 0, 0))]
theorem K274_1 : zRk 274 B274_1 = true := by decide +kernel
def B274_2 : List zRow := [(13, .iload_n 2, 1, (0, 0, 0)), (14, .iconst 1, 1, (0, 0, 0)), (15, .bipush 40, 2, (0, 0, 0))]
theorem K274_2 : zRk 274 B274_2 = true := by decide +kernel
def B274_3 : List zRow := [(25, .aload_n 0, 1, (0, 0, 0)), (26, .iload_n 1, 1, (0, 0, 0))]
theorem K274_3 : zRk 274 B274_3 = true := by decide +kernel
def B274_4 : List zRow := [(30, .istore 4, 2, (0, 0, 0)), (32, .iconst 0, 1, (0, 0, 0)), (33, .istore 5, 2, (0, 0, 0)), (35, .iconst 0, 1, (0, 0, 0)), (36, .istore 6, 2, (0, 0, 0))]
theorem K274_4 : zRk 274 B274_4 = true := by decide +kernel
def B274_5 : List zRow := [(20, .ifCond .ne 5, 3, (0, 0, 0))]
theorem K274_5 : zRk 274 B274_5 = true := by decide +kernel
def B274_6 : List zRow := [(10, .ifCond .eq 13, 3, (0, 0, 0))]
theorem K274_6 : zRk 274 B274_6 = true := by decide +kernel
def B274_7 : List zRow := [(82, .iload 5, 2, (0, 0, 0))]
theorem K274_7 : zRk 274 B274_7 = true := by decide +kernel
def B274_8 : List zRow := [(44, .aload_n 0, 1, (0, 0, 0))]
theorem K274_8 : zRk 274 B274_8 = true := by decide +kernel
def B274_9 : List zRow := [(48, .aload_n 0, 1, (0, 0, 0)), (49, .bipush 40, 2, (0, 0, 0)), (51, .iload_n 3, 1, (0, 0, 0)), (52, .iload 6, 2, (0, 0, 0)), (54, .iadd, 1, (0, 0, 0))]
theorem K274_9 : zRk 274 B274_9 = true := by decide +kernel
def B274_10 : List zRow := [(58, .pop, 1, (0, 0, 0)), (59, .aload_n 0, 1, (0, 0, 0)), (60, .iload_n 1, 1, (0, 0, 0))]
theorem K274_10 : zRk 274 B274_10 = true := by decide +kernel
def B274_11 : List zRow := [(69, .iinc 5 1, 3, (0, 0, 0))]
theorem K274_11 : zRk 274 B274_11 = true := by decide +kernel
def B274_12 : List zRow := [(64, .iload 4, 2, (0, 0, 0)), (66, .if_icmp .le 6, 3, (0, 0, 0))]
theorem K274_12 : zRk 274 B274_12 = true := by decide +kernel
def B274_13 : List zRow := [(38, .iload 6, 2, (0, 0, 0)), (40, .iload_n 2, 1, (0, 0, 0)), (41, .if_icmp .ge 41, 3, (0, 0, 0))]
theorem K274_13 : zRk 274 B274_13 = true := by decide +kernel
def B274_14 : List zRow := [(72, .aload_n 0, 1, (0, 0, 0))]
theorem K274_14 : zRk 274 B274_14 = true := by decide +kernel
def B274_15 : List zRow := [(76, .iinc 6 1, 3, (0, 0, 0)), (79, .goto (-41), 3, (0, 0, 0))]
theorem K274_15 : zRk 274 B274_15 = true := by decide +kernel
def F274_1 (k0 : Int → Int → Int → Int → Int → Int → zHM → Option (Int × zHM)) (v1 : Int) (v2 : Int) (v3 : Int) (v4 : Int) (v5 : Int) (v6 : Int) (h : zHM) : Option (Int × zHM) := (F245 h).bind fun r1 => k0 v1 v2 v3 v4 v5 (wadd v6 1) r1
set_option maxRecDepth 100000 in
theorem T274_1 {spec : zRn zH2} {hc : zHC} {o : Int → Int} {d : Nat} (hd : 6 ≤ d) (k0 : Int → Int → Int → Int → Int → Int → zHM → Option (Int × zHM)) (hk0 : ∀ (v1 : Int) (v2 : Int) (v3 : Int) (v4 : Int) (v5 : Int) (v6 : Int) (h : zHM) (v : (Int × zHM)), k0 v1 v2 v3 v4 v5 v6 h = some v → zFin 0 (fun _ => 0) (zRu2 spec d) 274 (some (0, v.1)) (hc, v.2, o) (38, [some (22, 0), some (0, v1), some (0, v2), some (0, v3), some (0, v4), some (0, v5), some (0, v6)], [], (hc, h, o))) (v1 : Int) (v2 : Int) (v3 : Int) (v4 : Int) (v5 : Int) (v6 : Int) (h : zHM) (v : (Int × zHM)) (e : F274_1 k0 v1 v2 v3 v4 v5 v6 h = some v) : zFin 0 (fun _ => 0) (zRu2 spec d) 274 (some (0, v.1)) (hc, v.2, o) (72, [some (22, 0), some (0, v1), some (0, v2), some (0, v3), some (0, v4), some (0, v5), some (0, v6)], [], (hc, h, o)) := by
  unfold F274_1 at e
  obtain ⟨r1, q1, e⟩ := zB_s e
  refine zF_blk (m := []) (d := 0) (b := B274_14) (gs := []) (c' := (73, [some (22, 0), some (0, v1), some (0, v2), some (0, v3), some (0, v4), some (0, v5), some (0, v6)], [(22, 0)], (hc, h, o))) K274_14 rfl trivial ?_
  refine zF_call (k := 245) (cl := 12) (n := 1) (i := .invokevirtual 320) (args := [(22, 0)]) (rest := []) (g1 := (hc, r1, o)) (r1 := none) (by decide +kernel) rfl rfl rfl (st' := []) rfl (S245 (Nat.le_trans (by decide) hd)  h _ q1) ?_
  refine zF_blk (m := []) (d := 0) (b := B274_15) (gs := []) (c' := (38, [some (22, 0), some (0, v1), some (0, v2), some (0, v3), some (0, v4), some (0, v5), some (0, (wadd v6 1))], [], (hc, r1, o))) K274_15 rfl trivial ?_
  exact hk0 v1 v2 v3 v4 v5 (wadd v6 1) r1 _ e
def F274_0 : Nat → Int → Int → Int → Int → Int → Int → zHM → Option (Int × zHM)
  | 0, _, _, _, _, _, _, _ => none
  | n + 1, v1, v2, v3, v4, v5, v6, h => if v2 ≤ v6 then some (v5, h) else (F244 h).bind fun r1 => (F271 40 (wadd v3 v6) r1).bind fun r2 => (F211 v1 r2.2).bind fun r3 => if r3 ≤ v4 then F274_1 (F274_0 n) v1 v2 v3 v4 v5 v6 r2.2 else F274_1 (F274_0 n) v1 v2 v3 v4 (wadd v5 1) v6 r2.2
set_option maxRecDepth 100000 in
theorem T274_0 {spec : zRn zH2} {hc : zHC} {o : Int → Int} {d : Nat} (hd : 6 ≤ d) : ∀ (n : Nat) (v1 : Int) (v2 : Int) (v3 : Int) (v4 : Int) (v5 : Int) (v6 : Int) (h : zHM) (v : (Int × zHM)), F274_0 n v1 v2 v3 v4 v5 v6 h = some v → zFin 0 (fun _ => 0) (zRu2 spec d) 274 (some (0, v.1)) (hc, v.2, o) (38, [some (22, 0), some (0, v1), some (0, v2), some (0, v3), some (0, v4), some (0, v5), some (0, v6)], [], (hc, h, o)) := by
  intro n
  induction n with
  | zero => intro v1 v2 v3 v4 v5 v6 h v e; unfold F274_0 at e; cases e
  | succ n hk0 =>
    intro v1 v2 v3 v4 v5 v6 h v e
    unfold F274_0 at e
    rcases zI_s e with ⟨q1, e⟩ | ⟨q1, e⟩
    · refine zF_blk (m := []) (d := 1) (b := B274_13) (gs := [v2 ≤ v6]) (c' := (82, [some (22, 0), some (0, v1), some (0, v2), some (0, v3), some (0, v4), some (0, v5), some (0, v6)], [], (hc, h, o))) K274_13 rfl ⟨q1, trivial⟩ ?_
      refine zF_blk (m := []) (d := 0) (b := B274_7) (gs := []) (c' := (84, [some (22, 0), some (0, v1), some (0, v2), some (0, v3), some (0, v4), some (0, v5), some (0, v6)], [(0, v5)], (hc, h, o))) K274_7 rfl trivial ?_
      exact zF_riM (by decide +kernel) e
    · refine zF_blk (m := []) (d := 0) (b := B274_13) (gs := [¬ (v2 ≤ v6)]) (c' := (44, [some (22, 0), some (0, v1), some (0, v2), some (0, v3), some (0, v4), some (0, v5), some (0, v6)], [], (hc, h, o))) K274_13 rfl ⟨q1, trivial⟩ ?_
      obtain ⟨r1, q2, e⟩ := zB_s e
      refine zF_blk (m := []) (d := 0) (b := B274_8) (gs := []) (c' := (45, [some (22, 0), some (0, v1), some (0, v2), some (0, v3), some (0, v4), some (0, v5), some (0, v6)], [(22, 0)], (hc, h, o))) K274_8 rfl trivial ?_
      refine zF_call (k := 244) (cl := 12) (n := 1) (i := .invokevirtual 317) (args := [(22, 0)]) (rest := []) (g1 := (hc, r1, o)) (r1 := none) (by decide +kernel) rfl rfl rfl (st' := []) rfl (S244 (Nat.le_trans (by decide) hd)  h _ q2) ?_
      obtain ⟨r2, q3, e⟩ := zB_s e
      refine zF_blk (m := []) (d := 0) (b := B274_9) (gs := []) (c' := (55, [some (22, 0), some (0, v1), some (0, v2), some (0, v3), some (0, v4), some (0, v5), some (0, v6)], [(0, (wadd v3 v6)), (0, 40), (22, 0)], (hc, r1, o))) K274_9 rfl trivial ?_
      refine zF_call (k := 271) (cl := 12) (n := 3) (i := .invokevirtual 382) (args := [(22, 0), (0, 40), (0, (wadd v3 v6))]) (rest := []) (g1 := (hc, r2.2, o)) (r1 := some (0, r2.1)) (by decide +kernel) rfl rfl rfl (st' := [(0, r2.1)]) rfl (S271 (Nat.le_trans (by decide) hd) 40 (wadd v3 v6) r1 _ q3) ?_
      obtain ⟨r3, q4, e⟩ := zB_s e
      refine zF_blk (m := []) (d := 0) (b := B274_10) (gs := []) (c' := (61, [some (22, 0), some (0, v1), some (0, v2), some (0, v3), some (0, v4), some (0, v5), some (0, v6)], [(0, v1), (22, 0)], (hc, r2.2, o))) K274_10 rfl trivial ?_
      refine zF_call (k := 211) (cl := 12) (n := 2) (i := .invokevirtual 263) (args := [(22, 0), (0, v1)]) (rest := []) (g1 := (hc, r2.2, o)) (r1 := some (0, r3)) (by decide +kernel) rfl rfl rfl (st' := [(0, r3)]) rfl (S211 (Nat.le_trans (by decide) hd) v1 r2.2 _ q4) ?_
      rcases zI_s e with ⟨q5, e⟩ | ⟨q5, e⟩
      · refine zF_blk (m := []) (d := 1) (b := B274_12) (gs := [r3 ≤ v4]) (c' := (72, [some (22, 0), some (0, v1), some (0, v2), some (0, v3), some (0, v4), some (0, v5), some (0, v6)], [], (hc, r2.2, o))) K274_12 rfl ⟨q5, trivial⟩ ?_
        exact T274_1 hd (F274_0 n) hk0 v1 v2 v3 v4 v5 v6 r2.2 _ e
      · refine zF_blk (m := []) (d := 0) (b := B274_12) (gs := [¬ (r3 ≤ v4)]) (c' := (69, [some (22, 0), some (0, v1), some (0, v2), some (0, v3), some (0, v4), some (0, v5), some (0, v6)], [], (hc, r2.2, o))) K274_12 rfl ⟨q5, trivial⟩ ?_
        refine zF_blk (m := []) (d := 0) (b := B274_11) (gs := []) (c' := (72, [some (22, 0), some (0, v1), some (0, v2), some (0, v3), some (0, v4), some (0, (wadd v5 1)), some (0, v6)], [], (hc, r2.2, o))) K274_11 rfl trivial ?_
        exact T274_1 hd (F274_0 n) hk0 v1 v2 v3 v4 (wadd v5 1) v6 r2.2 _ e
/-- EchoValeModel.odds(III)I -/
def F274 (v1 : Int) (v2 : Int) (v3 : Int) (h : zHM) : Option (Int × zHM) := (F210 v1 (mset h 0 0 0)).bind fun r1 => if r1 = 0 then some ((-1), (mset h 0 0 0)) else (F188 v2 1 40).bind fun r2 => if ¬ r2 = 0 then (F211 v1 (mset h 0 0 0)).bind fun r3 => F274_0 zFu v1 v2 v3 r3 0 0 (mset h 0 0 0) else some ((-1), (mset h 0 0 0))
set_option maxRecDepth 100000 in
theorem S274 {spec : zRn zH2} {hc : zHC} {o : Int → Int} {d : Nat} (hd : 7 ≤ d) (v1 : Int) (v2 : Int) (v3 : Int) (h : zHM) (v : (Int × zHM)) (e : F274 v1 v2 v3 h = some v) : zRu2 spec d 274 [(22, 0), (0, v1), (0, v2), (0, v3)] (hc, h, o) (some (0, v.1)) (hc, v.2, o) := by
  refine zF_in (D := 6) (mx := 7) (L := [some (22, 0), some (0, v1), some (0, v2), some (0, v3), none, none, none]) (by decide +kernel) rfl rfl hd (fun d hd => ?_)
  unfold F274 at e
  obtain ⟨r1, q1, e⟩ := zB_s e
  refine zF_blk (m := []) (d := 0) (b := B274_0) (gs := []) (c' := (7, [some (22, 0), some (0, v1), some (0, v2), some (0, v3), none, none, none], [(0, v1), (22, 0)], (hc, (mset h 0 0 0), o))) K274_0 rfl trivial ?_
  refine zF_call (k := 210) (cl := 12) (n := 2) (i := .invokevirtual 260) (args := [(22, 0), (0, v1)]) (rest := []) (g1 := (hc, (mset h 0 0 0), o)) (r1 := some (0, r1)) (by decide +kernel) rfl rfl rfl (st' := [(0, r1)]) rfl (S210 (Nat.le_trans (by decide) hd) v1 (mset h 0 0 0) _ q1) ?_
  rcases zI_s e with ⟨q2, e⟩ | ⟨q2, e⟩
  · refine zF_blk (m := []) (d := 1) (b := B274_6) (gs := [r1 = 0]) (c' := (23, [some (22, 0), some (0, v1), some (0, v2), some (0, v3), none, none, none], [], (hc, (mset h 0 0 0), o))) K274_6 rfl ⟨q2, trivial⟩ ?_
    refine zF_blk (m := []) (d := 0) (b := B274_1) (gs := []) (c' := (24, [some (22, 0), some (0, v1), some (0, v2), some (0, v3), none, none, none], [(0, (-1))], (hc, (mset h 0 0 0), o))) K274_1 rfl trivial ?_
    exact zF_riM (by decide +kernel) e
  · refine zF_blk (m := []) (d := 0) (b := B274_6) (gs := [¬ (r1 = 0)]) (c' := (13, [some (22, 0), some (0, v1), some (0, v2), some (0, v3), none, none, none], [], (hc, (mset h 0 0 0), o))) K274_6 rfl ⟨q2, trivial⟩ ?_
    obtain ⟨r2, q3, e⟩ := zB_s e
    refine zF_blk (m := []) (d := 0) (b := B274_2) (gs := []) (c' := (17, [some (22, 0), some (0, v1), some (0, v2), some (0, v3), none, none, none], [(0, 40), (0, 1), (0, v2)], (hc, (mset h 0 0 0), o))) K274_2 rfl trivial ?_
    refine zF_call (k := 188) (cl := 12) (n := 3) (i := .invokestatic 151) (args := [(0, v2), (0, 1), (0, 40)]) (rest := []) (g1 := (hc, (mset h 0 0 0), o)) (r1 := some (0, r2)) (by decide +kernel) rfl rfl rfl (st' := [(0, r2)]) rfl (S188 (Nat.le_trans (by decide) hd) v2 1 40 (mset h 0 0 0) _ q3) ?_
    rcases zI_s e with ⟨q4, e⟩ | ⟨q4, e⟩
    · refine zF_blk (m := []) (d := 1) (b := B274_5) (gs := [¬ r2 = 0]) (c' := (25, [some (22, 0), some (0, v1), some (0, v2), some (0, v3), none, none, none], [], (hc, (mset h 0 0 0), o))) K274_5 rfl ⟨q4, trivial⟩ ?_
      obtain ⟨r3, q5, e⟩ := zB_s e
      refine zF_blk (m := []) (d := 0) (b := B274_3) (gs := []) (c' := (27, [some (22, 0), some (0, v1), some (0, v2), some (0, v3), none, none, none], [(0, v1), (22, 0)], (hc, (mset h 0 0 0), o))) K274_3 rfl trivial ?_
      refine zF_call (k := 211) (cl := 12) (n := 2) (i := .invokevirtual 263) (args := [(22, 0), (0, v1)]) (rest := []) (g1 := (hc, (mset h 0 0 0), o)) (r1 := some (0, r3)) (by decide +kernel) rfl rfl rfl (st' := [(0, r3)]) rfl (S211 (Nat.le_trans (by decide) hd) v1 (mset h 0 0 0) _ q5) ?_
      refine zF_blk (m := []) (d := 0) (b := B274_4) (gs := []) (c' := (38, [some (22, 0), some (0, v1), some (0, v2), some (0, v3), some (0, r3), some (0, 0), some (0, 0)], [], (hc, (mset h 0 0 0), o))) K274_4 rfl trivial ?_
      exact T274_0 hd zFu v1 v2 v3 r3 0 0 (mset h 0 0 0) _ e
    · refine zF_blk (m := []) (d := 0) (b := B274_5) (gs := [¬ (¬ r2 = 0)]) (c' := (23, [some (22, 0), some (0, v1), some (0, v2), some (0, v3), none, none, none], [], (hc, (mset h 0 0 0), o))) K274_5 rfl ⟨q4, trivial⟩ ?_
      refine zF_blk (m := []) (d := 0) (b := B274_1) (gs := []) (c' := (24, [some (22, 0), some (0, v1), some (0, v2), some (0, v3), none, none, none], [(0, (-1))], (hc, (mset h 0 0 0), o))) K274_1 rfl trivial ?_
      exact zF_riM (by decide +kernel) e
def B139_0 : List zRow := [(9, .iconst (-1), 1, (0, 0, 0))]
theorem K139_0 : zRk 139 B139_0 = true := by decide +kernel
def B139_1 : List zRow := [(20, .iconst 1, 1, (0, 0, 0))]
theorem K139_1 : zRk 139 B139_1 = true := by decide +kernel
def B139_2 : List zRow := [(16, .iconst (-1), 1, (0, 0, 0)), (17, .goto 4, 3, (0, 0, 0))]
theorem K139_2 : zRk 139 B139_2 = true := by decide +kernel
def B139_3 : List zRow := [(11, .iload_n 1, 1, (0, 0, 0)), (12, .iconst 1, 1, (0, 0, 0)), (13, .if_icmp .ne 7, 3, (0, 0, 0))]
theorem K139_3 : zRk 139 B139_3 = true := by decide +kernel
def B139_4 : List zRow := [(4, .iload_n 1, 1, (0, 0, 0)), (5, .iconst 1, 1, (0, 0, 0)), (6, .if_icmp .le 5, 3, (0, 0, 0))]
theorem K139_4 : zRk 139 B139_4 = true := by decide +kernel
def B139_5 : List zRow := [(0, .iload_n 1, 1, (0, 0, 0)), (1, .ifCond .lt 8, 3, (0, 0, 0))]
theorem K139_5 : zRk 139 B139_5 = true := by decide +kernel
def B139_6 : List zRow := [(21, .istore_n 2, 1, (0, 0, 0)), (22, .iconst (-1), 1, (0, 0, 0)), (23, .istore_n 3, 1, (0, 0, 0)), (24, .iconst 0, 1, (0, 0, 0)), (25, .istore 4, 2, (0, 0, 0)), (27, .iconst 0, 1, (0, 0, 0)), (28, .istore 5, 2, (0, 0, 0))]
theorem K139_6 : zRk 139 B139_6 = true := by decide +kernel
def B139_7 : List zRow := [(80, .iload_n 3, 1, (0, 0, 0))]
theorem K139_7 : zRk 139 B139_7 = true := by decide +kernel
def B139_8 : List zRow := [(42, .iload_n 2, 1, (0, 0, 0)), (43, .aload_n 0, 1, (0, 0, 0)), (44, .getfield 56, 3, (11, 6, 7)), (47, .iload 5, 2, (0, 0, 0))]
theorem K139_8 : zRk 139 B139_8 = true := by decide +kernel
def B139_9 : List zRow := [(60, .iload 6, 2, (0, 0, 0)), (62, .iload 4, 2, (0, 0, 0)), (64, .if_icmp .ge 10, 3, (0, 0, 0))]
theorem K139_9 : zRk 139 B139_9 = true := by decide +kernel
def B139_10 : List zRow := [(52, .imul, 1, (0, 0, 0)), (53, .istore 6, 2, (0, 0, 0)), (55, .iload_n 3, 1, (0, 0, 0)), (56, .iconst (-1), 1, (0, 0, 0)), (57, .if_icmp .eq 10, 3, (0, 0, 0))]
theorem K139_10 : zRk 139 B139_10 = true := by decide +kernel
def B139_11 : List zRow := [(30, .iload 5, 2, (0, 0, 0)), (32, .aload_n 0, 1, (0, 0, 0)), (33, .getfield 19, 3, (11, 1, 39)), (36, .getfield 311, 3, (9, 3, 0)), (39, .if_icmp .ge 41, 3, (0, 0, 0))]
theorem K139_11 : zRk 139 B139_11 = true := by decide +kernel
def B139_12 : List zRow := [(74, .iinc 5 1, 3, (0, 0, 0)), (77, .goto (-47), 3, (0, 0, 0))]
theorem K139_12 : zRk 139 B139_12 = true := by decide +kernel
def B139_13 : List zRow := [(67, .iload 6, 2, (0, 0, 0)), (69, .istore 4, 2, (0, 0, 0)), (71, .iload 5, 2, (0, 0, 0)), (73, .istore_n 3, 1, (0, 0, 0))]
theorem K139_13 : zRk 139 B139_13 = true := by decide +kernel
def F139_3 (k0 : Int → Int → Int → Int → Option Int) (h : zHC) (v2 : Int) (v3 : Int) (v4 : Int) (v5 : Int) : Option Int := k0 v2 v3 v4 (wadd v5 1)
set_option maxRecDepth 100000 in
theorem T139_3 {spec : zRn zH2} {hm : zHM} {o : Int → Int} {d : Nat} (hd : 3 ≤ d) (h : zHC) (k0 : Int → Int → Int → Int → Option Int) (hk0 : ∀ (v2 : Int) (v3 : Int) (v4 : Int) (v5 : Int) (v : Int), k0 v2 v3 v4 v5 = some v → zFin 0 (fun _ => 0) (zRu2 spec d) 139 (some (0, v)) (h, hm, o) (30, [some (21, 0), none, some (0, v2), some (0, v3), some (0, v4), some (0, v5), none], [], (h, hm, o))) (v2 : Int) (v3 : Int) (v4 : Int) (v5 : Int) (v : Int) (e : F139_3 k0 h v2 v3 v4 v5 = some v) : zFin 0 (fun _ => 0) (zRu2 spec d) 139 (some (0, v)) (h, hm, o) (74, [some (21, 0), none, some (0, v2), some (0, v3), some (0, v4), some (0, v5), none], [], (h, hm, o)) := by
  unfold F139_3 at e
  refine zF_blk (m := []) (d := 0) (b := B139_12) (gs := []) (c' := (30, [some (21, 0), none, some (0, v2), some (0, v3), some (0, v4), some (0, (wadd v5 1)), none], [], (h, hm, o))) K139_12 rfl trivial ?_
  exact hk0 v2 v3 v4 (wadd v5 1) _ e
def F139_2 (k0 : Int → Int → Int → Int → Option Int) (h : zHC) (v2 : Int) (v5 : Int) (v6 : Int) : Option Int := F139_3 k0 h v2 v5 v6 v5
set_option maxRecDepth 100000 in
theorem T139_2 {spec : zRn zH2} {hm : zHM} {o : Int → Int} {d : Nat} (hd : 3 ≤ d) (h : zHC) (k0 : Int → Int → Int → Int → Option Int) (hk0 : ∀ (v2 : Int) (v3 : Int) (v4 : Int) (v5 : Int) (v : Int), k0 v2 v3 v4 v5 = some v → zFin 0 (fun _ => 0) (zRu2 spec d) 139 (some (0, v)) (h, hm, o) (30, [some (21, 0), none, some (0, v2), some (0, v3), some (0, v4), some (0, v5), none], [], (h, hm, o))) (v2 : Int) (v5 : Int) (v6 : Int) (v : Int) (e : F139_2 k0 h v2 v5 v6 = some v) : zFin 0 (fun _ => 0) (zRu2 spec d) 139 (some (0, v)) (h, hm, o) (67, [some (21, 0), none, some (0, v2), none, none, some (0, v5), some (0, v6)], [], (h, hm, o)) := by
  unfold F139_2 at e
  refine zF_blk (m := []) (d := 0) (b := B139_13) (gs := []) (c' := (74, [some (21, 0), none, some (0, v2), some (0, v5), some (0, v6), some (0, v5), some (0, v6)], [], (h, hm, o))) K139_13 rfl trivial ?_
  refine zF_blk (m := [true, false, true, true, true, true, false]) (d := 0) (b := []) (gs := []) (c' := (74, [some (21, 0), none, some (0, v2), some (0, v5), some (0, v6), some (0, v5), none], [], (h, hm, o))) rfl rfl trivial ?_
  exact T139_3 hd h k0 hk0 v2 v5 v6 v5 _ e
def F139_1 (h : zHC) : Nat → Int → Int → Int → Int → Option Int
  | 0, _, _, _, _ => none
  | n + 1, v2, v3, v4, v5 => if (h 579 0 0) ≤ v5 then some v3 else (F101b v5 h).bind fun r1 => if v3 = (-1) then F139_2 (F139_1 h n) h v2 v5 (wmul v2 r1) else if v4 ≤ (wmul v2 r1) then F139_3 (F139_1 h n) h v2 v3 v4 v5 else F139_2 (F139_1 h n) h v2 v5 (wmul v2 r1)
set_option maxRecDepth 100000 in
theorem T139_1 {spec : zRn zH2} {hm : zHM} {o : Int → Int} {d : Nat} (hd : 3 ≤ d) (h : zHC) : ∀ (n : Nat) (v2 : Int) (v3 : Int) (v4 : Int) (v5 : Int) (v : Int), F139_1 h n v2 v3 v4 v5 = some v → zFin 0 (fun _ => 0) (zRu2 spec d) 139 (some (0, v)) (h, hm, o) (30, [some (21, 0), none, some (0, v2), some (0, v3), some (0, v4), some (0, v5), none], [], (h, hm, o)) := by
  intro n
  induction n with
  | zero => intro v2 v3 v4 v5 v e; unfold F139_1 at e; cases e
  | succ n hk0 =>
    intro v2 v3 v4 v5 v e
    unfold F139_1 at e
    rcases zI_s e with ⟨q1, e⟩ | ⟨q1, e⟩
    · refine zF_blk (m := []) (d := 1) (b := B139_11) (gs := [(h 579 0 0) ≤ v5]) (c' := (80, [some (21, 0), none, some (0, v2), some (0, v3), some (0, v4), some (0, v5), none], [], (h, hm, o))) K139_11 rfl ⟨q1, trivial⟩ ?_
      refine zF_blk (m := []) (d := 0) (b := B139_7) (gs := []) (c' := (81, [some (21, 0), none, some (0, v2), some (0, v3), some (0, v4), some (0, v5), none], [(0, v3)], (h, hm, o))) K139_7 rfl trivial ?_
      obtain rfl := Option.some.inj e
      exact zF_ri (by decide +kernel)
    · refine zF_blk (m := []) (d := 0) (b := B139_11) (gs := [¬ ((h 579 0 0) ≤ v5)]) (c' := (42, [some (21, 0), none, some (0, v2), some (0, v3), some (0, v4), some (0, v5), none], [], (h, hm, o))) K139_11 rfl ⟨q1, trivial⟩ ?_
      obtain ⟨r1, q2, e⟩ := zB_s e
      refine zF_blk (m := []) (d := 0) (b := B139_8) (gs := []) (c' := (49, [some (21, 0), none, some (0, v2), some (0, v3), some (0, v4), some (0, v5), none], [(0, v5), (11, 0), (0, v2)], (h, hm, o))) K139_8 rfl trivial ?_
      refine zF_call (k := 101) (cl := 1) (n := 2) (i := .invokevirtual 179) (args := [(11, 0), (0, v5)]) (rest := [(0, v2)]) (g1 := (h, hm, o)) (r1 := some (0, r1)) (by decide +kernel) rfl rfl rfl (st' := [(0, r1), (0, v2)]) rfl (S101b (Nat.le_trans (by decide) hd) v5 h _ q2) ?_
      rcases zI_s e with ⟨q3, e⟩ | ⟨q3, e⟩
      · refine zF_blk (m := []) (d := 1) (b := B139_10) (gs := [v3 = (-1)]) (c' := (67, [some (21, 0), none, some (0, v2), some (0, v3), some (0, v4), some (0, v5), some (0, (wmul v2 r1))], [], (h, hm, o))) K139_10 rfl ⟨q3, trivial⟩ ?_
        refine zF_blk (m := [true, false, true, false, false, true, true]) (d := 0) (b := []) (gs := []) (c' := (67, [some (21, 0), none, some (0, v2), none, none, some (0, v5), some (0, (wmul v2 r1))], [], (h, hm, o))) rfl rfl trivial ?_
        exact T139_2 hd h (F139_1 h n) hk0 v2 v5 (wmul v2 r1) _ e
      · refine zF_blk (m := []) (d := 0) (b := B139_10) (gs := [¬ (v3 = (-1))]) (c' := (60, [some (21, 0), none, some (0, v2), some (0, v3), some (0, v4), some (0, v5), some (0, (wmul v2 r1))], [], (h, hm, o))) K139_10 rfl ⟨q3, trivial⟩ ?_
        rcases zI_s e with ⟨q4, e⟩ | ⟨q4, e⟩
        · refine zF_blk (m := []) (d := 1) (b := B139_9) (gs := [v4 ≤ (wmul v2 r1)]) (c' := (74, [some (21, 0), none, some (0, v2), some (0, v3), some (0, v4), some (0, v5), some (0, (wmul v2 r1))], [], (h, hm, o))) K139_9 rfl ⟨q4, trivial⟩ ?_
          refine zF_blk (m := [true, false, true, true, true, true, false]) (d := 0) (b := []) (gs := []) (c' := (74, [some (21, 0), none, some (0, v2), some (0, v3), some (0, v4), some (0, v5), none], [], (h, hm, o))) rfl rfl trivial ?_
          exact T139_3 hd h (F139_1 h n) hk0 v2 v3 v4 v5 _ e
        · refine zF_blk (m := []) (d := 0) (b := B139_9) (gs := [¬ (v4 ≤ (wmul v2 r1))]) (c' := (67, [some (21, 0), none, some (0, v2), some (0, v3), some (0, v4), some (0, v5), some (0, (wmul v2 r1))], [], (h, hm, o))) K139_9 rfl ⟨q4, trivial⟩ ?_
          refine zF_blk (m := [true, false, true, false, false, true, true]) (d := 0) (b := []) (gs := []) (c' := (67, [some (21, 0), none, some (0, v2), none, none, some (0, v5), some (0, (wmul v2 r1))], [], (h, hm, o))) rfl rfl trivial ?_
          exact T139_2 hd h (F139_1 h n) hk0 v2 v5 (wmul v2 r1) _ e
def F139_0 (h : zHC) (s0 : Int) : Option Int := F139_1 h zFu s0 (-1) 0 0
set_option maxRecDepth 100000 in
theorem T139_0 {spec : zRn zH2} {hm : zHM} {o : Int → Int} {d : Nat} (hd : 3 ≤ d) (h : zHC) (s0 : Int) (v : Int) (e : F139_0 h s0 = some v) : zFin 0 (fun _ => 0) (zRu2 spec d) 139 (some (0, v)) (h, hm, o) (21, [some (21, 0), none, none, none, none, none, none], [(0, s0)], (h, hm, o)) := by
  unfold F139_0 at e
  refine zF_blk (m := []) (d := 0) (b := B139_6) (gs := []) (c' := (30, [some (21, 0), none, some (0, s0), some (0, (-1)), some (0, 0), some (0, 0), none], [], (h, hm, o))) K139_6 rfl trivial ?_
  exact T139_1 hd h zFu s0 (-1) 0 0 _ e
/-- EchoVale.poorest(I)I -/
def F139 (v1 : Int) (h : zHC) : Option Int := if v1 < 0 then some (-1) else if v1 ≤ 1 then if ¬ v1 = 1 then F139_0 h 1 else F139_0 h (-1) else some (-1)
set_option maxRecDepth 100000 in
theorem S139 {spec : zRn zH2} {hm : zHM} {o : Int → Int} {d : Nat} (hd : 4 ≤ d) (v1 : Int) (h : zHC) (v : Int) (e : F139 v1 h = some v) : zRu2 spec d 139 [(21, 0), (0, v1)] (h, hm, o) (some (0, v)) (h, hm, o) := by
  refine zF_in (D := 3) (mx := 7) (L := [some (21, 0), some (0, v1), none, none, none, none, none]) (by decide +kernel) rfl rfl hd (fun d hd => ?_)
  unfold F139 at e
  rcases zI_s e with ⟨q1, e⟩ | ⟨q1, e⟩
  · refine zF_blk (m := []) (d := 1) (b := B139_5) (gs := [v1 < 0]) (c' := (9, [some (21, 0), some (0, v1), none, none, none, none, none], [], (h, hm, o))) K139_5 rfl ⟨q1, trivial⟩ ?_
    refine zF_blk (m := []) (d := 0) (b := B139_0) (gs := []) (c' := (10, [some (21, 0), some (0, v1), none, none, none, none, none], [(0, (-1))], (h, hm, o))) K139_0 rfl trivial ?_
    obtain rfl := Option.some.inj e
    exact zF_ri (by decide +kernel)
  · refine zF_blk (m := []) (d := 0) (b := B139_5) (gs := [¬ (v1 < 0)]) (c' := (4, [some (21, 0), some (0, v1), none, none, none, none, none], [], (h, hm, o))) K139_5 rfl ⟨q1, trivial⟩ ?_
    rcases zI_s e with ⟨q2, e⟩ | ⟨q2, e⟩
    · refine zF_blk (m := []) (d := 1) (b := B139_4) (gs := [v1 ≤ 1]) (c' := (11, [some (21, 0), some (0, v1), none, none, none, none, none], [], (h, hm, o))) K139_4 rfl ⟨q2, trivial⟩ ?_
      rcases zI_s e with ⟨q3, e⟩ | ⟨q3, e⟩
      · refine zF_blk (m := []) (d := 1) (b := B139_3) (gs := [¬ v1 = 1]) (c' := (20, [some (21, 0), some (0, v1), none, none, none, none, none], [], (h, hm, o))) K139_3 rfl ⟨q3, trivial⟩ ?_
        refine zF_blk (m := []) (d := 0) (b := B139_1) (gs := []) (c' := (21, [some (21, 0), some (0, v1), none, none, none, none, none], [(0, 1)], (h, hm, o))) K139_1 rfl trivial ?_
        refine zF_blk (m := [true, false, false, false, false, false, false]) (d := 0) (b := []) (gs := []) (c' := (21, [some (21, 0), none, none, none, none, none, none], [(0, 1)], (h, hm, o))) rfl rfl trivial ?_
        exact T139_0 hd h 1 _ e
      · refine zF_blk (m := []) (d := 0) (b := B139_3) (gs := [¬ (¬ v1 = 1)]) (c' := (16, [some (21, 0), some (0, v1), none, none, none, none, none], [], (h, hm, o))) K139_3 rfl ⟨q3, trivial⟩ ?_
        refine zF_blk (m := []) (d := 0) (b := B139_2) (gs := []) (c' := (21, [some (21, 0), some (0, v1), none, none, none, none, none], [(0, (-1))], (h, hm, o))) K139_2 rfl trivial ?_
        refine zF_blk (m := [true, false, false, false, false, false, false]) (d := 0) (b := []) (gs := []) (c' := (21, [some (21, 0), none, none, none, none, none, none], [(0, (-1))], (h, hm, o))) rfl rfl trivial ?_
        exact T139_0 hd h (-1) _ e
    · refine zF_blk (m := []) (d := 0) (b := B139_4) (gs := [¬ (v1 ≤ 1)]) (c' := (9, [some (21, 0), some (0, v1), none, none, none, none, none], [], (h, hm, o))) K139_4 rfl ⟨q2, trivial⟩ ?_
      refine zF_blk (m := []) (d := 0) (b := B139_0) (gs := []) (c' := (10, [some (21, 0), some (0, v1), none, none, none, none, none], [(0, (-1))], (h, hm, o))) K139_0 rfl trivial ?_
      obtain rfl := Option.some.inj e
      exact zF_ri (by decide +kernel)
def B275_0 : List zRow := [(0, .aload_n 0, 1, (0, 0, 0)), (1, .iconst 0, 1, (0, 0, 0)), (2, .putfield 81, 3, (12, 0, 0)), (5, .iload_n 1, 1, (0, 0, 0)), (6, .iconst 0, 1, (0, 0, 0)), (7, .iconst 1, 1, (0, 0, 0))]
theorem K275_0 : zRk 275 B275_0 = true := by decide +kernel
def B275_1 : List zRow := [(16, .iconst (-1), 1, (0, 0, 0)), (17, .istore_n 2, 1, (0, 0, 0)), (18, .iconst 0, 1, (0, 0, 0)), (19, .istore_n 3, 1, (0, 0, 0))]
theorem K275_1 : zRk 275 B275_1 = true := by decide +kernel
def B275_2 : List zRow := [(14, .iconst (-1), 1, (0, 0, 0))]
theorem K275_2 : zRk 275 B275_2 = true := by decide +kernel
def B275_3 : List zRow := [(11, .ifCond .ne 5, 3, (0, 0, 0))]
theorem K275_3 : zRk 275 B275_3 = true := by decide +kernel
def B275_4 : List zRow := [(77, .iload_n 2, 1, (0, 0, 0))]
theorem K275_4 : zRk 275 B275_4 = true := by decide +kernel
def B275_5 : List zRow := [(56, .aload_n 0, 1, (0, 0, 0)), (57, .iload_n 3, 1, (0, 0, 0))]
theorem K275_5 : zRk 275 B275_5 = true := by decide +kernel
def B275_6 : List zRow := [(61, .aload_n 0, 1, (0, 0, 0)), (62, .iload_n 2, 1, (0, 0, 0))]
theorem K275_6 : zRk 275 B275_6 = true := by decide +kernel
def B275_7 : List zRow := [(66, .if_icmp .ge 5, 3, (0, 0, 0))]
theorem K275_7 : zRk 275 B275_7 = true := by decide +kernel
def B275_8 : List zRow := [(40, .aload_n 0, 1, (0, 0, 0)), (41, .iload_n 3, 1, (0, 0, 0))]
theorem K275_8 : zRk 275 B275_8 = true := by decide +kernel
def B275_9 : List zRow := [(45, .aload_n 0, 1, (0, 0, 0)), (46, .iload_n 2, 1, (0, 0, 0))]
theorem K275_9 : zRk 275 B275_9 = true := by decide +kernel
def B275_10 : List zRow := [(53, .goto 16, 3, (0, 0, 0))]
theorem K275_10 : zRk 275 B275_10 = true := by decide +kernel
def B275_11 : List zRow := [(50, .if_icmp .le 21, 3, (0, 0, 0))]
theorem K275_11 : zRk 275 B275_11 = true := by decide +kernel
def B275_12 : List zRow := [(35, .iload_n 1, 1, (0, 0, 0)), (36, .iconst 1, 1, (0, 0, 0)), (37, .if_icmp .ne 19, 3, (0, 0, 0))]
theorem K275_12 : zRk 275 B275_12 = true := by decide +kernel
def B275_13 : List zRow := [(30, .iload_n 2, 1, (0, 0, 0)), (31, .iconst (-1), 1, (0, 0, 0)), (32, .if_icmp .eq 37, 3, (0, 0, 0))]
theorem K275_13 : zRk 275 B275_13 = true := by decide +kernel
def B275_14 : List zRow := [(20, .iload_n 3, 1, (0, 0, 0)), (21, .aload_n 0, 1, (0, 0, 0)), (22, .getfield 13, 3, (12, 14, 5251442)), (25, .iconst 3, 1, (0, 0, 0)), (26, .iaload, 1, (0, 0, 0)), (27, .if_icmp .ge 50, 3, (0, 0, 0))]
theorem K275_14 : zRk 275 B275_14 = true := by decide +kernel
def B275_15 : List zRow := [(71, .iinc 3 1, 3, (0, 0, 0)), (74, .goto (-54), 3, (0, 0, 0))]
theorem K275_15 : zRk 275 B275_15 = true := by decide +kernel
def B275_16 : List zRow := [(69, .iload_n 3, 1, (0, 0, 0)), (70, .istore_n 2, 1, (0, 0, 0))]
theorem K275_16 : zRk 275 B275_16 = true := by decide +kernel
def F275_2 (k0 : Int → Int → Int → zHM → Option (Int × zHM)) (v1 : Int) (v2 : Int) (v3 : Int) (h : zHM) : Option (Int × zHM) := k0 v1 v2 (wadd v3 1) h
set_option maxRecDepth 100000 in
theorem T275_2 {spec : zRn zH2} {hc : zHC} {o : Int → Int} {d : Nat} (hd : 3 ≤ d) (k0 : Int → Int → Int → zHM → Option (Int × zHM)) (hk0 : ∀ (v1 : Int) (v2 : Int) (v3 : Int) (h : zHM) (v : (Int × zHM)), k0 v1 v2 v3 h = some v → zFin 0 (fun _ => 0) (zRu2 spec d) 275 (some (0, v.1)) (hc, v.2, o) (20, [some (22, 0), some (0, v1), some (0, v2), some (0, v3)], [], (hc, h, o))) (v1 : Int) (v2 : Int) (v3 : Int) (h : zHM) (v : (Int × zHM)) (e : F275_2 k0 v1 v2 v3 h = some v) : zFin 0 (fun _ => 0) (zRu2 spec d) 275 (some (0, v.1)) (hc, v.2, o) (71, [some (22, 0), some (0, v1), some (0, v2), some (0, v3)], [], (hc, h, o)) := by
  unfold F275_2 at e
  refine zF_blk (m := []) (d := 0) (b := B275_15) (gs := []) (c' := (20, [some (22, 0), some (0, v1), some (0, v2), some (0, (wadd v3 1))], [], (hc, h, o))) K275_15 rfl trivial ?_
  exact hk0 v1 v2 (wadd v3 1) h _ e
def F275_1 (k0 : Int → Int → Int → zHM → Option (Int × zHM)) (v1 : Int) (v3 : Int) (h : zHM) : Option (Int × zHM) := F275_2 k0 v1 v3 v3 h
set_option maxRecDepth 100000 in
theorem T275_1 {spec : zRn zH2} {hc : zHC} {o : Int → Int} {d : Nat} (hd : 3 ≤ d) (k0 : Int → Int → Int → zHM → Option (Int × zHM)) (hk0 : ∀ (v1 : Int) (v2 : Int) (v3 : Int) (h : zHM) (v : (Int × zHM)), k0 v1 v2 v3 h = some v → zFin 0 (fun _ => 0) (zRu2 spec d) 275 (some (0, v.1)) (hc, v.2, o) (20, [some (22, 0), some (0, v1), some (0, v2), some (0, v3)], [], (hc, h, o))) (v1 : Int) (v3 : Int) (h : zHM) (v : (Int × zHM)) (e : F275_1 k0 v1 v3 h = some v) : zFin 0 (fun _ => 0) (zRu2 spec d) 275 (some (0, v.1)) (hc, v.2, o) (69, [some (22, 0), some (0, v1), none, some (0, v3)], [], (hc, h, o)) := by
  unfold F275_1 at e
  refine zF_blk (m := []) (d := 0) (b := B275_16) (gs := []) (c' := (71, [some (22, 0), some (0, v1), some (0, v3), some (0, v3)], [], (hc, h, o))) K275_16 rfl trivial ?_
  exact T275_2 hd k0 hk0 v1 v3 v3 h _ e
def F275_0 : Nat → Int → Int → Int → zHM → Option (Int × zHM)
  | 0, _, _, _, _ => none
  | n + 1, v1, v2, v3, h => if (h 14 3) ≤ v3 then some (v2, h) else if v2 = (-1) then F275_1 (F275_0 n) v1 v3 h else if ¬ v1 = 1 then (F211 v3 h).bind fun r1 => (F211 v2 h).bind fun r2 => if r2 ≤ r1 then F275_2 (F275_0 n) v1 v2 v3 h else F275_1 (F275_0 n) v1 v3 h else (F211 v3 h).bind fun r3 => (F211 v2 h).bind fun r4 => if r3 ≤ r4 then F275_2 (F275_0 n) v1 v2 v3 h else F275_1 (F275_0 n) v1 v3 h
set_option maxRecDepth 100000 in
theorem T275_0 {spec : zRn zH2} {hc : zHC} {o : Int → Int} {d : Nat} (hd : 3 ≤ d) : ∀ (n : Nat) (v1 : Int) (v2 : Int) (v3 : Int) (h : zHM) (v : (Int × zHM)), F275_0 n v1 v2 v3 h = some v → zFin 0 (fun _ => 0) (zRu2 spec d) 275 (some (0, v.1)) (hc, v.2, o) (20, [some (22, 0), some (0, v1), some (0, v2), some (0, v3)], [], (hc, h, o)) := by
  intro n
  induction n with
  | zero => intro v1 v2 v3 h v e; unfold F275_0 at e; cases e
  | succ n hk0 =>
    intro v1 v2 v3 h v e
    unfold F275_0 at e
    rcases zI_s e with ⟨q1, e⟩ | ⟨q1, e⟩
    · refine zF_blk (m := []) (d := 1) (b := B275_14) (gs := [0 ≤ 3 ∧ 3 < 2140, (h 14 3) ≤ v3]) (c' := (77, [some (22, 0), some (0, v1), some (0, v2), some (0, v3)], [], (hc, h, o))) K275_14 rfl ⟨by decide, q1, trivial⟩ ?_
      refine zF_blk (m := []) (d := 0) (b := B275_4) (gs := []) (c' := (78, [some (22, 0), some (0, v1), some (0, v2), some (0, v3)], [(0, v2)], (hc, h, o))) K275_4 rfl trivial ?_
      exact zF_riM (by decide +kernel) e
    · refine zF_blk (m := []) (d := 0) (b := B275_14) (gs := [0 ≤ 3 ∧ 3 < 2140, ¬ ((h 14 3) ≤ v3)]) (c' := (30, [some (22, 0), some (0, v1), some (0, v2), some (0, v3)], [], (hc, h, o))) K275_14 rfl ⟨by decide, q1, trivial⟩ ?_
      rcases zI_s e with ⟨q2, e⟩ | ⟨q2, e⟩
      · refine zF_blk (m := []) (d := 1) (b := B275_13) (gs := [v2 = (-1)]) (c' := (69, [some (22, 0), some (0, v1), some (0, v2), some (0, v3)], [], (hc, h, o))) K275_13 rfl ⟨q2, trivial⟩ ?_
        refine zF_blk (m := [true, true, false, true]) (d := 0) (b := []) (gs := []) (c' := (69, [some (22, 0), some (0, v1), none, some (0, v3)], [], (hc, h, o))) rfl rfl trivial ?_
        exact T275_1 hd (F275_0 n) hk0 v1 v3 h _ e
      · refine zF_blk (m := []) (d := 0) (b := B275_13) (gs := [¬ (v2 = (-1))]) (c' := (35, [some (22, 0), some (0, v1), some (0, v2), some (0, v3)], [], (hc, h, o))) K275_13 rfl ⟨q2, trivial⟩ ?_
        rcases zI_s e with ⟨q3, e⟩ | ⟨q3, e⟩
        · refine zF_blk (m := []) (d := 1) (b := B275_12) (gs := [¬ v1 = 1]) (c' := (56, [some (22, 0), some (0, v1), some (0, v2), some (0, v3)], [], (hc, h, o))) K275_12 rfl ⟨q3, trivial⟩ ?_
          obtain ⟨r1, q4, e⟩ := zB_s e
          refine zF_blk (m := []) (d := 0) (b := B275_5) (gs := []) (c' := (58, [some (22, 0), some (0, v1), some (0, v2), some (0, v3)], [(0, v3), (22, 0)], (hc, h, o))) K275_5 rfl trivial ?_
          refine zF_call (k := 211) (cl := 12) (n := 2) (i := .invokevirtual 263) (args := [(22, 0), (0, v3)]) (rest := []) (g1 := (hc, h, o)) (r1 := some (0, r1)) (by decide +kernel) rfl rfl rfl (st' := [(0, r1)]) rfl (S211 (Nat.le_trans (by decide) hd) v3 h _ q4) ?_
          obtain ⟨r2, q5, e⟩ := zB_s e
          refine zF_blk (m := []) (d := 0) (b := B275_6) (gs := []) (c' := (63, [some (22, 0), some (0, v1), some (0, v2), some (0, v3)], [(0, v2), (22, 0), (0, r1)], (hc, h, o))) K275_6 rfl trivial ?_
          refine zF_call (k := 211) (cl := 12) (n := 2) (i := .invokevirtual 263) (args := [(22, 0), (0, v2)]) (rest := [(0, r1)]) (g1 := (hc, h, o)) (r1 := some (0, r2)) (by decide +kernel) rfl rfl rfl (st' := [(0, r2), (0, r1)]) rfl (S211 (Nat.le_trans (by decide) hd) v2 h _ q5) ?_
          rcases zI_s e with ⟨q6, e⟩ | ⟨q6, e⟩
          · refine zF_blk (m := []) (d := 1) (b := B275_7) (gs := [r2 ≤ r1]) (c' := (71, [some (22, 0), some (0, v1), some (0, v2), some (0, v3)], [], (hc, h, o))) K275_7 rfl ⟨q6, trivial⟩ ?_
            exact T275_2 hd (F275_0 n) hk0 v1 v2 v3 h _ e
          · refine zF_blk (m := []) (d := 0) (b := B275_7) (gs := [¬ (r2 ≤ r1)]) (c' := (69, [some (22, 0), some (0, v1), some (0, v2), some (0, v3)], [], (hc, h, o))) K275_7 rfl ⟨q6, trivial⟩ ?_
            refine zF_blk (m := [true, true, false, true]) (d := 0) (b := []) (gs := []) (c' := (69, [some (22, 0), some (0, v1), none, some (0, v3)], [], (hc, h, o))) rfl rfl trivial ?_
            exact T275_1 hd (F275_0 n) hk0 v1 v3 h _ e
        · refine zF_blk (m := []) (d := 0) (b := B275_12) (gs := [¬ (¬ v1 = 1)]) (c' := (40, [some (22, 0), some (0, v1), some (0, v2), some (0, v3)], [], (hc, h, o))) K275_12 rfl ⟨q3, trivial⟩ ?_
          obtain ⟨r3, q7, e⟩ := zB_s e
          refine zF_blk (m := []) (d := 0) (b := B275_8) (gs := []) (c' := (42, [some (22, 0), some (0, v1), some (0, v2), some (0, v3)], [(0, v3), (22, 0)], (hc, h, o))) K275_8 rfl trivial ?_
          refine zF_call (k := 211) (cl := 12) (n := 2) (i := .invokevirtual 263) (args := [(22, 0), (0, v3)]) (rest := []) (g1 := (hc, h, o)) (r1 := some (0, r3)) (by decide +kernel) rfl rfl rfl (st' := [(0, r3)]) rfl (S211 (Nat.le_trans (by decide) hd) v3 h _ q7) ?_
          obtain ⟨r4, q8, e⟩ := zB_s e
          refine zF_blk (m := []) (d := 0) (b := B275_9) (gs := []) (c' := (47, [some (22, 0), some (0, v1), some (0, v2), some (0, v3)], [(0, v2), (22, 0), (0, r3)], (hc, h, o))) K275_9 rfl trivial ?_
          refine zF_call (k := 211) (cl := 12) (n := 2) (i := .invokevirtual 263) (args := [(22, 0), (0, v2)]) (rest := [(0, r3)]) (g1 := (hc, h, o)) (r1 := some (0, r4)) (by decide +kernel) rfl rfl rfl (st' := [(0, r4), (0, r3)]) rfl (S211 (Nat.le_trans (by decide) hd) v2 h _ q8) ?_
          rcases zI_s e with ⟨q9, e⟩ | ⟨q9, e⟩
          · refine zF_blk (m := []) (d := 1) (b := B275_11) (gs := [r3 ≤ r4]) (c' := (71, [some (22, 0), some (0, v1), some (0, v2), some (0, v3)], [], (hc, h, o))) K275_11 rfl ⟨q9, trivial⟩ ?_
            exact T275_2 hd (F275_0 n) hk0 v1 v2 v3 h _ e
          · refine zF_blk (m := []) (d := 0) (b := B275_11) (gs := [¬ (r3 ≤ r4)]) (c' := (53, [some (22, 0), some (0, v1), some (0, v2), some (0, v3)], [], (hc, h, o))) K275_11 rfl ⟨q9, trivial⟩ ?_
            refine zF_blk (m := []) (d := 0) (b := B275_10) (gs := []) (c' := (69, [some (22, 0), some (0, v1), some (0, v2), some (0, v3)], [], (hc, h, o))) K275_10 rfl trivial ?_
            refine zF_blk (m := [true, true, false, true]) (d := 0) (b := []) (gs := []) (c' := (69, [some (22, 0), some (0, v1), none, some (0, v3)], [], (hc, h, o))) rfl rfl trivial ?_
            exact T275_1 hd (F275_0 n) hk0 v1 v3 h _ e
/-- EchoValeModel.poorest(I)I -/
def F275 (v1 : Int) (h : zHM) : Option (Int × zHM) := (F188 v1 0 1).bind fun r1 => if ¬ r1 = 0 then F275_0 zFu v1 (-1) 0 (mset h 0 0 0) else some ((-1), (mset h 0 0 0))
set_option maxRecDepth 100000 in
theorem S275 {spec : zRn zH2} {hc : zHC} {o : Int → Int} {d : Nat} (hd : 4 ≤ d) (v1 : Int) (h : zHM) (v : (Int × zHM)) (e : F275 v1 h = some v) : zRu2 spec d 275 [(22, 0), (0, v1)] (hc, h, o) (some (0, v.1)) (hc, v.2, o) := by
  refine zF_in (D := 3) (mx := 4) (L := [some (22, 0), some (0, v1), none, none]) (by decide +kernel) rfl rfl hd (fun d hd => ?_)
  unfold F275 at e
  obtain ⟨r1, q1, e⟩ := zB_s e
  refine zF_blk (m := []) (d := 0) (b := B275_0) (gs := []) (c' := (8, [some (22, 0), some (0, v1), none, none], [(0, 1), (0, 0), (0, v1)], (hc, (mset h 0 0 0), o))) K275_0 rfl trivial ?_
  refine zF_call (k := 188) (cl := 12) (n := 3) (i := .invokestatic 151) (args := [(0, v1), (0, 0), (0, 1)]) (rest := []) (g1 := (hc, (mset h 0 0 0), o)) (r1 := some (0, r1)) (by decide +kernel) rfl rfl rfl (st' := [(0, r1)]) rfl (S188 (Nat.le_trans (by decide) hd) v1 0 1 (mset h 0 0 0) _ q1) ?_
  rcases zI_s e with ⟨q2, e⟩ | ⟨q2, e⟩
  · refine zF_blk (m := []) (d := 1) (b := B275_3) (gs := [¬ r1 = 0]) (c' := (16, [some (22, 0), some (0, v1), none, none], [], (hc, (mset h 0 0 0), o))) K275_3 rfl ⟨q2, trivial⟩ ?_
    refine zF_blk (m := []) (d := 0) (b := B275_1) (gs := []) (c' := (20, [some (22, 0), some (0, v1), some (0, (-1)), some (0, 0)], [], (hc, (mset h 0 0 0), o))) K275_1 rfl trivial ?_
    exact T275_0 hd zFu v1 (-1) 0 (mset h 0 0 0) _ e
  · refine zF_blk (m := []) (d := 0) (b := B275_3) (gs := [¬ (¬ r1 = 0)]) (c' := (14, [some (22, 0), some (0, v1), none, none], [], (hc, (mset h 0 0 0), o))) K275_3 rfl ⟨q2, trivial⟩ ?_
    refine zF_blk (m := []) (d := 0) (b := B275_2) (gs := []) (c' := (15, [some (22, 0), some (0, v1), none, none], [(0, (-1))], (hc, (mset h 0 0 0), o))) K275_2 rfl trivial ?_
    exact zF_riM (by decide +kernel) e
def B140_0 : List zRow := [(0, .aload_n 0, 1, (0, 0, 0)), (1, .getfield 19, 3, (11, 1, 39)), (4, .iload_n 1, 1, (0, 0, 0))]
theorem K140_0 : zRk 140 B140_0 = true := by decide +kernel
def B140_1 : List zRow := [(18, .iconst (-1), 1, (0, 0, 0))]
theorem K140_1 : zRk 140 B140_1 = true := by decide +kernel
def B140_2 : List zRow := [(11, .iload_n 2, 1, (0, 0, 0))]
theorem K140_2 : zRk 140 B140_2 = true := by decide +kernel
def B140_3 : List zRow := [(20, .aload_n 0, 1, (0, 0, 0)), (21, .getfield 19, 3, (11, 1, 39)), (24, .iload_n 1, 1, (0, 0, 0)), (25, .iload_n 2, 1, (0, 0, 0))]
theorem K140_3 : zRk 140 B140_3 = true := by decide +kernel
def B140_4 : List zRow := [(29, .istore_n 3, 1, (0, 0, 0)), (30, .iconst 0, 1, (0, 0, 0)), (31, .istore 4, 2, (0, 0, 0)), (33, .iconst 0, 1, (0, 0, 0)), (34, .istore 5, 2, (0, 0, 0))]
theorem K140_4 : zRk 140 B140_4 = true := by decide +kernel
def B140_5 : List zRow := [(15, .ifCond .ne 5, 3, (0, 0, 0))]
theorem K140_5 : zRk 140 B140_5 = true := by decide +kernel
def B140_6 : List zRow := [(8, .ifCond .eq 10, 3, (0, 0, 0))]
theorem K140_6 : zRk 140 B140_6 = true := by decide +kernel
def B140_7 : List zRow := [(77, .iload 4, 2, (0, 0, 0))]
theorem K140_7 : zRk 140 B140_7 = true := by decide +kernel
def B140_8 : List zRow := [(48, .aload_n 0, 1, (0, 0, 0)), (49, .getfield 19, 3, (11, 1, 39)), (52, .iload 5, 2, (0, 0, 0)), (54, .iload_n 1, 1, (0, 0, 0)), (55, .iload_n 3, 1, (0, 0, 0))]
theorem K140_8 : zRk 140 B140_8 = true := by decide +kernel
def B140_9 : List zRow := [(62, .iload 4, 2, (0, 0, 0)), (64, .iconst 1, 1, (0, 0, 0)), (65, .iload 5, 2, (0, 0, 0)), (67, .ishl, 1, (0, 0, 0)), (68, .ior, 1, (0, 0, 0)), (69, .istore 4, 2, (0, 0, 0))]
theorem K140_9 : zRk 140 B140_9 = true := by decide +kernel
def B140_10 : List zRow := [(59, .ifCond .le 12, 3, (0, 0, 0))]
theorem K140_10 : zRk 140 B140_10 = true := by decide +kernel
def B140_11 : List zRow := [(36, .iload 5, 2, (0, 0, 0)), (38, .aload_n 0, 1, (0, 0, 0)), (39, .getfield 19, 3, (11, 1, 39)), (42, .getfield 282, 3, (9, 2, 0)), (45, .if_icmp .ge 32, 3, (0, 0, 0))]
theorem K140_11 : zRk 140 B140_11 = true := by decide +kernel
def B140_12 : List zRow := [(71, .iinc 5 1, 3, (0, 0, 0)), (74, .goto (-38), 3, (0, 0, 0))]
theorem K140_12 : zRk 140 B140_12 = true := by decide +kernel
def F140_1 (k0 : Int → Int → Int → Int → Option Int) (h : zHC) (v1 : Int) (v3 : Int) (v4 : Int) (v5 : Int) : Option Int := k0 v1 v3 v4 (wadd v5 1)
set_option maxRecDepth 100000 in
theorem T140_1 {spec : zRn zH2} {hm : zHM} {o : Int → Int} {d : Nat} (hd : 2 ≤ d) (h : zHC) (k0 : Int → Int → Int → Int → Option Int) (hk0 : ∀ (v1 : Int) (v3 : Int) (v4 : Int) (v5 : Int) (v : Int), k0 v1 v3 v4 v5 = some v → zFin 0 (fun _ => 0) (zRu2 spec d) 140 (some (0, v)) (h, hm, o) (36, [some (21, 0), some (0, v1), none, some (0, v3), some (0, v4), some (0, v5)], [], (h, hm, o))) (v1 : Int) (v3 : Int) (v4 : Int) (v5 : Int) (v : Int) (e : F140_1 k0 h v1 v3 v4 v5 = some v) : zFin 0 (fun _ => 0) (zRu2 spec d) 140 (some (0, v)) (h, hm, o) (71, [some (21, 0), some (0, v1), none, some (0, v3), some (0, v4), some (0, v5)], [], (h, hm, o)) := by
  unfold F140_1 at e
  refine zF_blk (m := []) (d := 0) (b := B140_12) (gs := []) (c' := (36, [some (21, 0), some (0, v1), none, some (0, v3), some (0, v4), some (0, (wadd v5 1))], [], (h, hm, o))) K140_12 rfl trivial ?_
  exact hk0 v1 v3 v4 (wadd v5 1) _ e
def F140_0 (h : zHC) : Nat → Int → Int → Int → Int → Option Int
  | 0, _, _, _, _ => none
  | n + 1, v1, v3, v4, v5 => if (h 578 0 0) ≤ v5 then some v4 else (F82 v5 v1 v3 h).bind fun r1 => if r1 ≤ 0 then F140_1 (F140_0 h n) h v1 v3 v4 v5 else F140_1 (F140_0 h n) h v1 v3 (wor v4 (wshl 1 v5)) v5
set_option maxRecDepth 100000 in
theorem T140_0 {spec : zRn zH2} {hm : zHM} {o : Int → Int} {d : Nat} (hd : 2 ≤ d) (h : zHC) : ∀ (n : Nat) (v1 : Int) (v3 : Int) (v4 : Int) (v5 : Int) (v : Int), F140_0 h n v1 v3 v4 v5 = some v → zFin 0 (fun _ => 0) (zRu2 spec d) 140 (some (0, v)) (h, hm, o) (36, [some (21, 0), some (0, v1), none, some (0, v3), some (0, v4), some (0, v5)], [], (h, hm, o)) := by
  intro n
  induction n with
  | zero => intro v1 v3 v4 v5 v e; unfold F140_0 at e; cases e
  | succ n hk0 =>
    intro v1 v3 v4 v5 v e
    unfold F140_0 at e
    rcases zI_s e with ⟨q1, e⟩ | ⟨q1, e⟩
    · refine zF_blk (m := []) (d := 1) (b := B140_11) (gs := [(h 578 0 0) ≤ v5]) (c' := (77, [some (21, 0), some (0, v1), none, some (0, v3), some (0, v4), some (0, v5)], [], (h, hm, o))) K140_11 rfl ⟨q1, trivial⟩ ?_
      refine zF_blk (m := []) (d := 0) (b := B140_7) (gs := []) (c' := (79, [some (21, 0), some (0, v1), none, some (0, v3), some (0, v4), some (0, v5)], [(0, v4)], (h, hm, o))) K140_7 rfl trivial ?_
      obtain rfl := Option.some.inj e
      exact zF_ri (by decide +kernel)
    · refine zF_blk (m := []) (d := 0) (b := B140_11) (gs := [¬ ((h 578 0 0) ≤ v5)]) (c' := (48, [some (21, 0), some (0, v1), none, some (0, v3), some (0, v4), some (0, v5)], [], (h, hm, o))) K140_11 rfl ⟨q1, trivial⟩ ?_
      obtain ⟨r1, q2, e⟩ := zB_s e
      refine zF_blk (m := []) (d := 0) (b := B140_8) (gs := []) (c' := (56, [some (21, 0), some (0, v1), none, some (0, v3), some (0, v4), some (0, v5)], [(0, v3), (0, v1), (0, v5), (19, 0)], (h, hm, o))) K140_8 rfl trivial ?_
      refine zF_call (k := 82) (cl := 9) (n := 4) (i := .invokevirtual 285) (args := [(19, 0), (0, v5), (0, v1), (0, v3)]) (rest := []) (g1 := (h, hm, o)) (r1 := some (0, r1)) (by decide +kernel) rfl rfl rfl (st' := [(0, r1)]) rfl (S82 (Nat.le_trans (by decide) hd) v5 v1 v3 h _ q2) ?_
      rcases zI_s e with ⟨q3, e⟩ | ⟨q3, e⟩
      · refine zF_blk (m := []) (d := 1) (b := B140_10) (gs := [r1 ≤ 0]) (c' := (71, [some (21, 0), some (0, v1), none, some (0, v3), some (0, v4), some (0, v5)], [], (h, hm, o))) K140_10 rfl ⟨q3, trivial⟩ ?_
        exact T140_1 hd h (F140_0 h n) hk0 v1 v3 v4 v5 _ e
      · refine zF_blk (m := []) (d := 0) (b := B140_10) (gs := [¬ (r1 ≤ 0)]) (c' := (62, [some (21, 0), some (0, v1), none, some (0, v3), some (0, v4), some (0, v5)], [], (h, hm, o))) K140_10 rfl ⟨q3, trivial⟩ ?_
        refine zF_blk (m := []) (d := 0) (b := B140_9) (gs := []) (c' := (71, [some (21, 0), some (0, v1), none, some (0, v3), some (0, (wor v4 (wshl 1 v5))), some (0, v5)], [], (h, hm, o))) K140_9 rfl trivial ?_
        exact T140_1 hd h (F140_0 h n) hk0 v1 v3 (wor v4 (wshl 1 v5)) v5 _ e
/-- EchoVale.reach(II)I -/
def F140 (v1 : Int) (v2 : Int) (h : zHC) : Option Int := (F69 v1 h).bind fun r1 => if r1 = 0 then some (-1) else (F74 v2).bind fun r2 => if ¬ r2 = 0 then (F77 v1 v2 h).bind fun r3 => F140_0 h zFu v1 r3 0 0 else some (-1)
set_option maxRecDepth 100000 in
theorem S140 {spec : zRn zH2} {hm : zHM} {o : Int → Int} {d : Nat} (hd : 3 ≤ d) (v1 : Int) (v2 : Int) (h : zHC) (v : Int) (e : F140 v1 v2 h = some v) : zRu2 spec d 140 [(21, 0), (0, v1), (0, v2)] (h, hm, o) (some (0, v)) (h, hm, o) := by
  refine zF_in (D := 2) (mx := 6) (L := [some (21, 0), some (0, v1), some (0, v2), none, none, none]) (by decide +kernel) rfl rfl hd (fun d hd => ?_)
  unfold F140 at e
  obtain ⟨r1, q1, e⟩ := zB_s e
  refine zF_blk (m := []) (d := 0) (b := B140_0) (gs := []) (c' := (5, [some (21, 0), some (0, v1), some (0, v2), none, none, none], [(0, v1), (19, 0)], (h, hm, o))) K140_0 rfl trivial ?_
  refine zF_call (k := 69) (cl := 9) (n := 2) (i := .invokevirtual 214) (args := [(19, 0), (0, v1)]) (rest := []) (g1 := (h, hm, o)) (r1 := some (0, r1)) (by decide +kernel) rfl rfl rfl (st' := [(0, r1)]) rfl (S69 (Nat.le_trans (by decide) hd) v1 h _ q1) ?_
  rcases zI_s e with ⟨q2, e⟩ | ⟨q2, e⟩
  · refine zF_blk (m := []) (d := 1) (b := B140_6) (gs := [r1 = 0]) (c' := (18, [some (21, 0), some (0, v1), some (0, v2), none, none, none], [], (h, hm, o))) K140_6 rfl ⟨q2, trivial⟩ ?_
    refine zF_blk (m := []) (d := 0) (b := B140_1) (gs := []) (c' := (19, [some (21, 0), some (0, v1), some (0, v2), none, none, none], [(0, (-1))], (h, hm, o))) K140_1 rfl trivial ?_
    obtain rfl := Option.some.inj e
    exact zF_ri (by decide +kernel)
  · refine zF_blk (m := []) (d := 0) (b := B140_6) (gs := [¬ (r1 = 0)]) (c' := (11, [some (21, 0), some (0, v1), some (0, v2), none, none, none], [], (h, hm, o))) K140_6 rfl ⟨q2, trivial⟩ ?_
    obtain ⟨r2, q3, e⟩ := zB_s e
    refine zF_blk (m := []) (d := 0) (b := B140_2) (gs := []) (c' := (12, [some (21, 0), some (0, v1), some (0, v2), none, none, none], [(0, v2)], (h, hm, o))) K140_2 rfl trivial ?_
    refine zF_call (k := 74) (cl := 11) (n := 1) (i := .invokestatic 221) (args := [(0, v2)]) (rest := []) (g1 := (h, hm, o)) (r1 := some (0, r2)) (by decide +kernel) rfl rfl rfl (st' := [(0, r2)]) rfl (S74 (Nat.le_trans (by decide) hd) v2 h _ q3) ?_
    rcases zI_s e with ⟨q4, e⟩ | ⟨q4, e⟩
    · refine zF_blk (m := []) (d := 1) (b := B140_5) (gs := [¬ r2 = 0]) (c' := (20, [some (21, 0), some (0, v1), some (0, v2), none, none, none], [], (h, hm, o))) K140_5 rfl ⟨q4, trivial⟩ ?_
      obtain ⟨r3, q5, e⟩ := zB_s e
      refine zF_blk (m := []) (d := 0) (b := B140_3) (gs := []) (c' := (26, [some (21, 0), some (0, v1), some (0, v2), none, none, none], [(0, v2), (0, v1), (19, 0)], (h, hm, o))) K140_3 rfl trivial ?_
      refine zF_call (k := 77) (cl := 9) (n := 3) (i := .invokevirtual 279) (args := [(19, 0), (0, v1), (0, v2)]) (rest := []) (g1 := (h, hm, o)) (r1 := some (0, r3)) (by decide +kernel) rfl rfl rfl (st' := [(0, r3)]) rfl (S77 (Nat.le_trans (by decide) hd) v1 v2 h _ q5) ?_
      refine zF_blk (m := []) (d := 0) (b := B140_4) (gs := []) (c' := (36, [some (21, 0), some (0, v1), some (0, v2), some (0, r3), some (0, 0), some (0, 0)], [], (h, hm, o))) K140_4 rfl trivial ?_
      refine zF_blk (m := [true, true, false, true, true, true]) (d := 0) (b := []) (gs := []) (c' := (36, [some (21, 0), some (0, v1), none, some (0, r3), some (0, 0), some (0, 0)], [], (h, hm, o))) rfl rfl trivial ?_
      exact T140_0 hd h zFu v1 r3 0 0 _ e
    · refine zF_blk (m := []) (d := 0) (b := B140_5) (gs := [¬ (¬ r2 = 0)]) (c' := (18, [some (21, 0), some (0, v1), some (0, v2), none, none, none], [], (h, hm, o))) K140_5 rfl ⟨q4, trivial⟩ ?_
      refine zF_blk (m := []) (d := 0) (b := B140_1) (gs := []) (c' := (19, [some (21, 0), some (0, v1), some (0, v2), none, none, none], [(0, (-1))], (h, hm, o))) K140_1 rfl trivial ?_
      obtain rfl := Option.some.inj e
      exact zF_ri (by decide +kernel)
def B260_0 : List zRow := [(0, .aload_n 0, 1, (0, 0, 0)), (1, .iconst 0, 1, (0, 0, 0)), (2, .putfield 81, 3, (12, 0, 0)), (5, .aload_n 0, 1, (0, 0, 0)), (6, .iload_n 1, 1, (0, 0, 0))]
theorem K260_0 : zRk 260 B260_0 = true := by decide +kernel
def B260_1 : List zRow := [(23, .iconst (-1), 1, (0, 0, 0))]
theorem K260_1 : zRk 260 B260_1 = true := by decide +kernel
def B260_2 : List zRow := [(13, .iload_n 2, 1, (0, 0, 0)), (14, .iconst 1, 1, (0, 0, 0)), (15, .bipush 9, 2, (0, 0, 0))]
theorem K260_2 : zRk 260 B260_2 = true := by decide +kernel
def B260_3 : List zRow := [(25, .iconst 0, 1, (0, 0, 0)), (26, .istore_n 3, 1, (0, 0, 0)), (27, .iconst 0, 1, (0, 0, 0)), (28, .istore 4, 2, (0, 0, 0))]
theorem K260_3 : zRk 260 B260_3 = true := by decide +kernel
def B260_4 : List zRow := [(20, .ifCond .ne 5, 3, (0, 0, 0))]
theorem K260_4 : zRk 260 B260_4 = true := by decide +kernel
def B260_5 : List zRow := [(10, .ifCond .eq 13, 3, (0, 0, 0))]
theorem K260_5 : zRk 260 B260_5 = true := by decide +kernel
def B260_6 : List zRow := [(70, .iload_n 3, 1, (0, 0, 0))]
theorem K260_6 : zRk 260 B260_6 = true := by decide +kernel
def B260_7 : List zRow := [(41, .aload_n 0, 1, (0, 0, 0)), (42, .iload 4, 2, (0, 0, 0)), (44, .iload_n 1, 1, (0, 0, 0)), (45, .aload_n 0, 1, (0, 0, 0)), (46, .iload_n 1, 1, (0, 0, 0)), (47, .iload_n 2, 1, (0, 0, 0))]
theorem K260_7 : zRk 260 B260_7 = true := by decide +kernel
def B260_8 : List zRow := [(57, .iload_n 3, 1, (0, 0, 0)), (58, .iconst 1, 1, (0, 0, 0)), (59, .iload 4, 2, (0, 0, 0)), (61, .ishl, 1, (0, 0, 0)), (62, .ior, 1, (0, 0, 0)), (63, .istore_n 3, 1, (0, 0, 0))]
theorem K260_8 : zRk 260 B260_8 = true := by decide +kernel
def B260_9 : List zRow := [(54, .ifCond .le 10, 3, (0, 0, 0))]
theorem K260_9 : zRk 260 B260_9 = true := by decide +kernel
def B260_10 : List zRow := [(30, .iload 4, 2, (0, 0, 0)), (32, .aload_n 0, 1, (0, 0, 0)), (33, .getfield 13, 3, (12, 14, 5251442)), (36, .iconst 2, 1, (0, 0, 0)), (37, .iaload, 1, (0, 0, 0)), (38, .if_icmp .ge 32, 3, (0, 0, 0))]
theorem K260_10 : zRk 260 B260_10 = true := by decide +kernel
def B260_11 : List zRow := [(64, .iinc 4 1, 3, (0, 0, 0)), (67, .goto (-37), 3, (0, 0, 0))]
theorem K260_11 : zRk 260 B260_11 = true := by decide +kernel
def F260_1 (k0 : Int → Int → Int → Int → zHM → Option (Int × zHM)) (v1 : Int) (v2 : Int) (v3 : Int) (v4 : Int) (h : zHM) : Option (Int × zHM) := k0 v1 v2 v3 (wadd v4 1) h
set_option maxRecDepth 100000 in
theorem T260_1 {spec : zRn zH2} {hc : zHC} {o : Int → Int} {d : Nat} (hd : 3 ≤ d) (k0 : Int → Int → Int → Int → zHM → Option (Int × zHM)) (hk0 : ∀ (v1 : Int) (v2 : Int) (v3 : Int) (v4 : Int) (h : zHM) (v : (Int × zHM)), k0 v1 v2 v3 v4 h = some v → zFin 0 (fun _ => 0) (zRu2 spec d) 260 (some (0, v.1)) (hc, v.2, o) (30, [some (22, 0), some (0, v1), some (0, v2), some (0, v3), some (0, v4)], [], (hc, h, o))) (v1 : Int) (v2 : Int) (v3 : Int) (v4 : Int) (h : zHM) (v : (Int × zHM)) (e : F260_1 k0 v1 v2 v3 v4 h = some v) : zFin 0 (fun _ => 0) (zRu2 spec d) 260 (some (0, v.1)) (hc, v.2, o) (64, [some (22, 0), some (0, v1), some (0, v2), some (0, v3), some (0, v4)], [], (hc, h, o)) := by
  unfold F260_1 at e
  refine zF_blk (m := []) (d := 0) (b := B260_11) (gs := []) (c' := (30, [some (22, 0), some (0, v1), some (0, v2), some (0, v3), some (0, (wadd v4 1))], [], (hc, h, o))) K260_11 rfl trivial ?_
  exact hk0 v1 v2 v3 (wadd v4 1) h _ e
def F260_0 : Nat → Int → Int → Int → Int → zHM → Option (Int × zHM)
  | 0, _, _, _, _, _ => none
  | n + 1, v1, v2, v3, v4, h => if (h 14 2) ≤ v4 then some (v3, h) else (F228 v1 v2 h).bind fun r1 => (F259 v4 v1 r1 h).bind fun r2 => if r2 ≤ 0 then F260_1 (F260_0 n) v1 v2 v3 v4 h else F260_1 (F260_0 n) v1 v2 (wor v3 (wshl 1 v4)) v4 h
set_option maxRecDepth 100000 in
theorem T260_0 {spec : zRn zH2} {hc : zHC} {o : Int → Int} {d : Nat} (hd : 3 ≤ d) : ∀ (n : Nat) (v1 : Int) (v2 : Int) (v3 : Int) (v4 : Int) (h : zHM) (v : (Int × zHM)), F260_0 n v1 v2 v3 v4 h = some v → zFin 0 (fun _ => 0) (zRu2 spec d) 260 (some (0, v.1)) (hc, v.2, o) (30, [some (22, 0), some (0, v1), some (0, v2), some (0, v3), some (0, v4)], [], (hc, h, o)) := by
  intro n
  induction n with
  | zero => intro v1 v2 v3 v4 h v e; unfold F260_0 at e; cases e
  | succ n hk0 =>
    intro v1 v2 v3 v4 h v e
    unfold F260_0 at e
    rcases zI_s e with ⟨q1, e⟩ | ⟨q1, e⟩
    · refine zF_blk (m := []) (d := 1) (b := B260_10) (gs := [0 ≤ 2 ∧ 2 < 2140, (h 14 2) ≤ v4]) (c' := (70, [some (22, 0), some (0, v1), some (0, v2), some (0, v3), some (0, v4)], [], (hc, h, o))) K260_10 rfl ⟨by decide, q1, trivial⟩ ?_
      refine zF_blk (m := []) (d := 0) (b := B260_6) (gs := []) (c' := (71, [some (22, 0), some (0, v1), some (0, v2), some (0, v3), some (0, v4)], [(0, v3)], (hc, h, o))) K260_6 rfl trivial ?_
      exact zF_riM (by decide +kernel) e
    · refine zF_blk (m := []) (d := 0) (b := B260_10) (gs := [0 ≤ 2 ∧ 2 < 2140, ¬ ((h 14 2) ≤ v4)]) (c' := (41, [some (22, 0), some (0, v1), some (0, v2), some (0, v3), some (0, v4)], [], (hc, h, o))) K260_10 rfl ⟨by decide, q1, trivial⟩ ?_
      obtain ⟨r1, q2, e⟩ := zB_s e
      refine zF_blk (m := []) (d := 0) (b := B260_7) (gs := []) (c' := (48, [some (22, 0), some (0, v1), some (0, v2), some (0, v3), some (0, v4)], [(0, v2), (0, v1), (22, 0), (0, v1), (0, v4), (22, 0)], (hc, h, o))) K260_7 rfl trivial ?_
      refine zF_call (k := 228) (cl := 12) (n := 3) (i := .invokevirtual 273) (args := [(22, 0), (0, v1), (0, v2)]) (rest := [(0, v1), (0, v4), (22, 0)]) (g1 := (hc, h, o)) (r1 := some (0, r1)) (by decide +kernel) rfl rfl rfl (st' := [(0, r1), (0, v1), (0, v4), (22, 0)]) rfl (S228 (Nat.le_trans (by decide) hd) v1 v2 h _ q2) ?_
      obtain ⟨r2, q3, e⟩ := zB_s e
      refine zF_call (k := 259) (cl := 12) (n := 4) (i := .invokevirtual 339) (args := [(22, 0), (0, v4), (0, v1), (0, r1)]) (rest := []) (g1 := (hc, h, o)) (r1 := some (0, r2)) (by decide +kernel) rfl rfl rfl (st' := [(0, r2)]) rfl (S259 (Nat.le_trans (by decide) hd) v4 v1 r1 h _ q3) ?_
      rcases zI_s e with ⟨q4, e⟩ | ⟨q4, e⟩
      · refine zF_blk (m := []) (d := 1) (b := B260_9) (gs := [r2 ≤ 0]) (c' := (64, [some (22, 0), some (0, v1), some (0, v2), some (0, v3), some (0, v4)], [], (hc, h, o))) K260_9 rfl ⟨q4, trivial⟩ ?_
        exact T260_1 hd (F260_0 n) hk0 v1 v2 v3 v4 h _ e
      · refine zF_blk (m := []) (d := 0) (b := B260_9) (gs := [¬ (r2 ≤ 0)]) (c' := (57, [some (22, 0), some (0, v1), some (0, v2), some (0, v3), some (0, v4)], [], (hc, h, o))) K260_9 rfl ⟨q4, trivial⟩ ?_
        refine zF_blk (m := []) (d := 0) (b := B260_8) (gs := []) (c' := (64, [some (22, 0), some (0, v1), some (0, v2), some (0, (wor v3 (wshl 1 v4))), some (0, v4)], [], (hc, h, o))) K260_8 rfl trivial ?_
        exact T260_1 hd (F260_0 n) hk0 v1 v2 (wor v3 (wshl 1 v4)) v4 h _ e
/-- EchoValeModel.reach(II)I -/
def F260 (v1 : Int) (v2 : Int) (h : zHM) : Option (Int × zHM) := (F224 v1 (mset h 0 0 0)).bind fun r1 => if r1 = 0 then some ((-1), (mset h 0 0 0)) else (F188 v2 1 9).bind fun r2 => if ¬ r2 = 0 then F260_0 zFu v1 v2 0 0 (mset h 0 0 0) else some ((-1), (mset h 0 0 0))
set_option maxRecDepth 100000 in
theorem S260 {spec : zRn zH2} {hc : zHC} {o : Int → Int} {d : Nat} (hd : 4 ≤ d) (v1 : Int) (v2 : Int) (h : zHM) (v : (Int × zHM)) (e : F260 v1 v2 h = some v) : zRu2 spec d 260 [(22, 0), (0, v1), (0, v2)] (hc, h, o) (some (0, v.1)) (hc, v.2, o) := by
  refine zF_in (D := 3) (mx := 5) (L := [some (22, 0), some (0, v1), some (0, v2), none, none]) (by decide +kernel) rfl rfl hd (fun d hd => ?_)
  unfold F260 at e
  obtain ⟨r1, q1, e⟩ := zB_s e
  refine zF_blk (m := []) (d := 0) (b := B260_0) (gs := []) (c' := (7, [some (22, 0), some (0, v1), some (0, v2), none, none], [(0, v1), (22, 0)], (hc, (mset h 0 0 0), o))) K260_0 rfl trivial ?_
  refine zF_call (k := 224) (cl := 12) (n := 2) (i := .invokevirtual 305) (args := [(22, 0), (0, v1)]) (rest := []) (g1 := (hc, (mset h 0 0 0), o)) (r1 := some (0, r1)) (by decide +kernel) rfl rfl rfl (st' := [(0, r1)]) rfl (S224 (Nat.le_trans (by decide) hd) v1 (mset h 0 0 0) _ q1) ?_
  rcases zI_s e with ⟨q2, e⟩ | ⟨q2, e⟩
  · refine zF_blk (m := []) (d := 1) (b := B260_5) (gs := [r1 = 0]) (c' := (23, [some (22, 0), some (0, v1), some (0, v2), none, none], [], (hc, (mset h 0 0 0), o))) K260_5 rfl ⟨q2, trivial⟩ ?_
    refine zF_blk (m := []) (d := 0) (b := B260_1) (gs := []) (c' := (24, [some (22, 0), some (0, v1), some (0, v2), none, none], [(0, (-1))], (hc, (mset h 0 0 0), o))) K260_1 rfl trivial ?_
    exact zF_riM (by decide +kernel) e
  · refine zF_blk (m := []) (d := 0) (b := B260_5) (gs := [¬ (r1 = 0)]) (c' := (13, [some (22, 0), some (0, v1), some (0, v2), none, none], [], (hc, (mset h 0 0 0), o))) K260_5 rfl ⟨q2, trivial⟩ ?_
    obtain ⟨r2, q3, e⟩ := zB_s e
    refine zF_blk (m := []) (d := 0) (b := B260_2) (gs := []) (c' := (17, [some (22, 0), some (0, v1), some (0, v2), none, none], [(0, 9), (0, 1), (0, v2)], (hc, (mset h 0 0 0), o))) K260_2 rfl trivial ?_
    refine zF_call (k := 188) (cl := 12) (n := 3) (i := .invokestatic 151) (args := [(0, v2), (0, 1), (0, 9)]) (rest := []) (g1 := (hc, (mset h 0 0 0), o)) (r1 := some (0, r2)) (by decide +kernel) rfl rfl rfl (st' := [(0, r2)]) rfl (S188 (Nat.le_trans (by decide) hd) v2 1 9 (mset h 0 0 0) _ q3) ?_
    rcases zI_s e with ⟨q4, e⟩ | ⟨q4, e⟩
    · refine zF_blk (m := []) (d := 1) (b := B260_4) (gs := [¬ r2 = 0]) (c' := (25, [some (22, 0), some (0, v1), some (0, v2), none, none], [], (hc, (mset h 0 0 0), o))) K260_4 rfl ⟨q4, trivial⟩ ?_
      refine zF_blk (m := []) (d := 0) (b := B260_3) (gs := []) (c' := (30, [some (22, 0), some (0, v1), some (0, v2), some (0, 0), some (0, 0)], [], (hc, (mset h 0 0 0), o))) K260_3 rfl trivial ?_
      exact T260_0 hd zFu v1 v2 0 0 (mset h 0 0 0) _ e
    · refine zF_blk (m := []) (d := 0) (b := B260_4) (gs := [¬ (¬ r2 = 0)]) (c' := (23, [some (22, 0), some (0, v1), some (0, v2), none, none], [], (hc, (mset h 0 0 0), o))) K260_4 rfl ⟨q4, trivial⟩ ?_
      refine zF_blk (m := []) (d := 0) (b := B260_1) (gs := []) (c' := (24, [some (22, 0), some (0, v1), some (0, v2), none, none], [(0, (-1))], (hc, (mset h 0 0 0), o))) K260_1 rfl trivial ?_
      exact zF_riM (by decide +kernel) e
def B141_0 : List zRow := [(0, .aload_n 0, 1, (0, 0, 0)), (1, .iload_n 1, 1, (0, 0, 0))]
theorem K141_0 : zRk 141 B141_0 = true := by decide +kernel
def B141_1 : List zRow := [(34, .iconst (-1), 1, (0, 0, 0))]
theorem K141_1 : zRk 141 B141_1 = true := by decide +kernel
def B141_2 : List zRow := [(8, .iload_n 2, 1, (0, 0, 0))]
theorem K141_2 : zRk 141 B141_2 = true := by decide +kernel
def B141_3 : List zRow := [(15, .aload_n 0, 1, (0, 0, 0)), (16, .getfield 19, 3, (11, 1, 39)), (19, .iload_n 1, 1, (0, 0, 0)), (20, .iload_n 2, 1, (0, 0, 0)), (21, .aload_n 0, 1, (0, 0, 0)), (22, .getfield 56, 3, (11, 6, 7)), (25, .getfield 177, 3, (1, 3, 5242906))]
theorem K141_3 : zRk 141 B141_3 = true := by decide +kernel
def B141_4 : List zRow := [(31, .goto 4, 3, (0, 0, 0))]
theorem K141_4 : zRk 141 B141_4 = true := by decide +kernel
def B141_5 : List zRow := [(12, .ifCond .eq 22, 3, (0, 0, 0))]
theorem K141_5 : zRk 141 B141_5 = true := by decide +kernel
def B141_6 : List zRow := [(5, .ifCond .eq 29, 3, (0, 0, 0))]
theorem K141_6 : zRk 141 B141_6 = true := by decide +kernel
/-- EchoVale.hears(II)I -/
def F141 (v1 : Int) (v2 : Int) (h : zHC) : Option Int := (F59 v1 h).bind fun r1 => if r1 = 0 then some (-1) else (F74 v2).bind fun r2 => if r2 = 0 then some (-1) else (F93 v1 v2 h).bind fun r3 => some r3
set_option maxRecDepth 100000 in
theorem S141 {spec : zRn zH2} {hm : zHM} {o : Int → Int} {d : Nat} (hd : 3 ≤ d) (v1 : Int) (v2 : Int) (h : zHC) (v : Int) (e : F141 v1 v2 h = some v) : zRu2 spec d 141 [(21, 0), (0, v1), (0, v2)] (h, hm, o) (some (0, v)) (h, hm, o) := by
  refine zF_in (D := 2) (mx := 3) (L := [some (21, 0), some (0, v1), some (0, v2)]) (by decide +kernel) rfl rfl hd (fun d hd => ?_)
  unfold F141 at e
  obtain ⟨r1, q1, e⟩ := zB_s e
  refine zF_blk (m := []) (d := 0) (b := B141_0) (gs := []) (c' := (2, [some (21, 0), some (0, v1), some (0, v2)], [(0, v1), (21, 0)], (h, hm, o))) K141_0 rfl trivial ?_
  refine zF_call (k := 59) (cl := 11) (n := 2) (i := .invokevirtual 139) (args := [(21, 0), (0, v1)]) (rest := []) (g1 := (h, hm, o)) (r1 := some (0, r1)) (by decide +kernel) rfl rfl rfl (st' := [(0, r1)]) rfl (S59 (Nat.le_trans (by decide) hd) v1 h _ q1) ?_
  rcases zI_s e with ⟨q2, e⟩ | ⟨q2, e⟩
  · refine zF_blk (m := []) (d := 1) (b := B141_6) (gs := [r1 = 0]) (c' := (34, [some (21, 0), some (0, v1), some (0, v2)], [], (h, hm, o))) K141_6 rfl ⟨q2, trivial⟩ ?_
    refine zF_blk (m := []) (d := 0) (b := B141_1) (gs := []) (c' := (35, [some (21, 0), some (0, v1), some (0, v2)], [(0, (-1))], (h, hm, o))) K141_1 rfl trivial ?_
    obtain rfl := Option.some.inj e
    exact zF_ri (by decide +kernel)
  · refine zF_blk (m := []) (d := 0) (b := B141_6) (gs := [¬ (r1 = 0)]) (c' := (8, [some (21, 0), some (0, v1), some (0, v2)], [], (h, hm, o))) K141_6 rfl ⟨q2, trivial⟩ ?_
    obtain ⟨r2, q3, e⟩ := zB_s e
    refine zF_blk (m := []) (d := 0) (b := B141_2) (gs := []) (c' := (9, [some (21, 0), some (0, v1), some (0, v2)], [(0, v2)], (h, hm, o))) K141_2 rfl trivial ?_
    refine zF_call (k := 74) (cl := 11) (n := 1) (i := .invokestatic 221) (args := [(0, v2)]) (rest := []) (g1 := (h, hm, o)) (r1 := some (0, r2)) (by decide +kernel) rfl rfl rfl (st' := [(0, r2)]) rfl (S74 (Nat.le_trans (by decide) hd) v2 h _ q3) ?_
    rcases zI_s e with ⟨q4, e⟩ | ⟨q4, e⟩
    · refine zF_blk (m := []) (d := 1) (b := B141_5) (gs := [r2 = 0]) (c' := (34, [some (21, 0), some (0, v1), some (0, v2)], [], (h, hm, o))) K141_5 rfl ⟨q4, trivial⟩ ?_
      refine zF_blk (m := []) (d := 0) (b := B141_1) (gs := []) (c' := (35, [some (21, 0), some (0, v1), some (0, v2)], [(0, (-1))], (h, hm, o))) K141_1 rfl trivial ?_
      obtain rfl := Option.some.inj e
      exact zF_ri (by decide +kernel)
    · refine zF_blk (m := []) (d := 0) (b := B141_5) (gs := [¬ (r2 = 0)]) (c' := (15, [some (21, 0), some (0, v1), some (0, v2)], [], (h, hm, o))) K141_5 rfl ⟨q4, trivial⟩ ?_
      obtain ⟨r3, q5, e⟩ := zB_s e
      refine zF_blk (m := []) (d := 0) (b := B141_3) (gs := []) (c' := (28, [some (21, 0), some (0, v1), some (0, v2)], [(1342184491, 0), (0, v2), (0, v1), (19, 0)], (h, hm, o))) K141_3 rfl trivial ?_
      refine zF_call (k := 93) (cl := 9) (n := 4) (i := .invokevirtual 323) (args := [(19, 0), (0, v1), (0, v2), (1342184491, 0)]) (rest := []) (g1 := (h, hm, o)) (r1 := some (0, r3)) (by decide +kernel) rfl rfl rfl (st' := [(0, r3)]) rfl (S93 (Nat.le_trans (by decide) hd) v1 v2 h _ q5) ?_
      refine zF_blk (m := []) (d := 0) (b := B141_4) (gs := []) (c' := (35, [some (21, 0), some (0, v1), some (0, v2)], [(0, r3)], (h, hm, o))) K141_4 rfl trivial ?_
      obtain rfl := Option.some.inj e
      exact zF_ri (by decide +kernel)
def B261_0 : List zRow := [(0, .aload_n 0, 1, (0, 0, 0)), (1, .iconst 0, 1, (0, 0, 0)), (2, .putfield 81, 3, (12, 0, 0)), (5, .aload_n 0, 1, (0, 0, 0)), (6, .iload_n 1, 1, (0, 0, 0))]
theorem K261_0 : zRk 261 B261_0 = true := by decide +kernel
def B261_1 : List zRow := [(32, .iconst (-1), 1, (0, 0, 0))]
theorem K261_1 : zRk 261 B261_1 = true := by decide +kernel
def B261_2 : List zRow := [(13, .iload_n 2, 1, (0, 0, 0)), (14, .iconst 1, 1, (0, 0, 0)), (15, .bipush 9, 2, (0, 0, 0))]
theorem K261_2 : zRk 261 B261_2 = true := by decide +kernel
def B261_3 : List zRow := [(23, .aload_n 0, 1, (0, 0, 0)), (24, .iload_n 1, 1, (0, 0, 0)), (25, .iload_n 2, 1, (0, 0, 0))]
theorem K261_3 : zRk 261 B261_3 = true := by decide +kernel
def B261_4 : List zRow := [(29, .goto 4, 3, (0, 0, 0))]
theorem K261_4 : zRk 261 B261_4 = true := by decide +kernel
def B261_5 : List zRow := [(20, .ifCond .eq 12, 3, (0, 0, 0))]
theorem K261_5 : zRk 261 B261_5 = true := by decide +kernel
def B261_6 : List zRow := [(10, .ifCond .eq 22, 3, (0, 0, 0))]
theorem K261_6 : zRk 261 B261_6 = true := by decide +kernel
/-- EchoValeModel.hears(II)I -/
def F261 (v1 : Int) (v2 : Int) (h : zHM) : Option (Int × zHM) := (F205 v1 (mset h 0 0 0)).bind fun r1 => if r1 = 0 then some ((-1), (mset h 0 0 0)) else (F188 v2 1 9).bind fun r2 => if r2 = 0 then some ((-1), (mset h 0 0 0)) else (F240 v1 v2 (mset h 0 0 0)).bind fun r3 => some (r3, (mset h 0 0 0))
set_option maxRecDepth 100000 in
theorem S261 {spec : zRn zH2} {hc : zHC} {o : Int → Int} {d : Nat} (hd : 4 ≤ d) (v1 : Int) (v2 : Int) (h : zHM) (v : (Int × zHM)) (e : F261 v1 v2 h = some v) : zRu2 spec d 261 [(22, 0), (0, v1), (0, v2)] (hc, h, o) (some (0, v.1)) (hc, v.2, o) := by
  refine zF_in (D := 3) (mx := 3) (L := [some (22, 0), some (0, v1), some (0, v2)]) (by decide +kernel) rfl rfl hd (fun d hd => ?_)
  unfold F261 at e
  obtain ⟨r1, q1, e⟩ := zB_s e
  refine zF_blk (m := []) (d := 0) (b := B261_0) (gs := []) (c' := (7, [some (22, 0), some (0, v1), some (0, v2)], [(0, v1), (22, 0)], (hc, (mset h 0 0 0), o))) K261_0 rfl trivial ?_
  refine zF_call (k := 205) (cl := 12) (n := 2) (i := .invokevirtual 235) (args := [(22, 0), (0, v1)]) (rest := []) (g1 := (hc, (mset h 0 0 0), o)) (r1 := some (0, r1)) (by decide +kernel) rfl rfl rfl (st' := [(0, r1)]) rfl (S205 (Nat.le_trans (by decide) hd) v1 (mset h 0 0 0) _ q1) ?_
  rcases zI_s e with ⟨q2, e⟩ | ⟨q2, e⟩
  · refine zF_blk (m := []) (d := 1) (b := B261_6) (gs := [r1 = 0]) (c' := (32, [some (22, 0), some (0, v1), some (0, v2)], [], (hc, (mset h 0 0 0), o))) K261_6 rfl ⟨q2, trivial⟩ ?_
    refine zF_blk (m := []) (d := 0) (b := B261_1) (gs := []) (c' := (33, [some (22, 0), some (0, v1), some (0, v2)], [(0, (-1))], (hc, (mset h 0 0 0), o))) K261_1 rfl trivial ?_
    exact zF_riM (by decide +kernel) e
  · refine zF_blk (m := []) (d := 0) (b := B261_6) (gs := [¬ (r1 = 0)]) (c' := (13, [some (22, 0), some (0, v1), some (0, v2)], [], (hc, (mset h 0 0 0), o))) K261_6 rfl ⟨q2, trivial⟩ ?_
    obtain ⟨r2, q3, e⟩ := zB_s e
    refine zF_blk (m := []) (d := 0) (b := B261_2) (gs := []) (c' := (17, [some (22, 0), some (0, v1), some (0, v2)], [(0, 9), (0, 1), (0, v2)], (hc, (mset h 0 0 0), o))) K261_2 rfl trivial ?_
    refine zF_call (k := 188) (cl := 12) (n := 3) (i := .invokestatic 151) (args := [(0, v2), (0, 1), (0, 9)]) (rest := []) (g1 := (hc, (mset h 0 0 0), o)) (r1 := some (0, r2)) (by decide +kernel) rfl rfl rfl (st' := [(0, r2)]) rfl (S188 (Nat.le_trans (by decide) hd) v2 1 9 (mset h 0 0 0) _ q3) ?_
    rcases zI_s e with ⟨q4, e⟩ | ⟨q4, e⟩
    · refine zF_blk (m := []) (d := 1) (b := B261_5) (gs := [r2 = 0]) (c' := (32, [some (22, 0), some (0, v1), some (0, v2)], [], (hc, (mset h 0 0 0), o))) K261_5 rfl ⟨q4, trivial⟩ ?_
      refine zF_blk (m := []) (d := 0) (b := B261_1) (gs := []) (c' := (33, [some (22, 0), some (0, v1), some (0, v2)], [(0, (-1))], (hc, (mset h 0 0 0), o))) K261_1 rfl trivial ?_
      exact zF_riM (by decide +kernel) e
    · refine zF_blk (m := []) (d := 0) (b := B261_5) (gs := [¬ (r2 = 0)]) (c' := (23, [some (22, 0), some (0, v1), some (0, v2)], [], (hc, (mset h 0 0 0), o))) K261_5 rfl ⟨q4, trivial⟩ ?_
      obtain ⟨r3, q5, e⟩ := zB_s e
      refine zF_blk (m := []) (d := 0) (b := B261_3) (gs := []) (c' := (26, [some (22, 0), some (0, v1), some (0, v2)], [(0, v2), (0, v1), (22, 0)], (hc, (mset h 0 0 0), o))) K261_3 rfl trivial ?_
      refine zF_call (k := 240) (cl := 12) (n := 3) (i := .invokevirtual 289) (args := [(22, 0), (0, v1), (0, v2)]) (rest := []) (g1 := (hc, (mset h 0 0 0), o)) (r1 := some (0, r3)) (by decide +kernel) rfl rfl rfl (st' := [(0, r3)]) rfl (S240 (Nat.le_trans (by decide) hd) v1 v2 (mset h 0 0 0) _ q5) ?_
      refine zF_blk (m := []) (d := 0) (b := B261_4) (gs := []) (c' := (33, [some (22, 0), some (0, v1), some (0, v2)], [(0, r3)], (hc, (mset h 0 0 0), o))) K261_4 rfl trivial ?_
      exact zF_riM (by decide +kernel) e
def B144_0 : List zRow := [(9, .aload_n 0, 1, (0, 0, 0)), (10, .getfield 95, 3, (11, 13, 5243266)), (13, .aload_n 0, 1, (0, 0, 0)), (14, .getfield 327, 3, (11, 14, 0)), (17, .iload_n 1, 1, (0, 0, 0)), (18, .iastore, 1, (0, 0, 0)), (19, .aload_n 0, 1, (0, 0, 0)), (20, .dup, 1, (0, 0, 0)), (21, .getfield 327, 3, (11, 14, 0)), (24, .iconst 1, 1, (0, 0, 0)), (25, .iadd, 1, (0, 0, 0)), (26, .putfield 327, 3, (11, 14, 0))]
theorem K144_0 : zRk 144 B144_0 = true := by decide +kernel
def B144_1 : List zRow := [(0, .aload_n 0, 1, (0, 0, 0)), (1, .getfield 327, 3, (11, 14, 0)), (4, .bipush 96, 2, (0, 0, 0)), (6, .if_icmp .ge 23, 3, (0, 0, 0))]
theorem K144_1 : zRk 144 B144_1 = true := by decide +kernel
/-- EchoVale.put(I)V -/
def F144 (v1 : Int) (h : zHC) : Option zHC := if 96 ≤ (h 718 0 0) then some h else zG (0 ≤ (h 718 0 0) ∧ (h 718 0 0) < 96) (some (hset (hset h 717 0 (h 718 0 0) v1) 718 0 0 (wadd ((hset h 717 0 (h 718 0 0) v1) 718 0 0) 1)))
set_option maxRecDepth 100000 in
theorem S144 {spec : zRn zH2} {hm : zHM} {o : Int → Int} {d : Nat} (hd : 1 ≤ d) (v1 : Int) (h : zHC) (v : zHC) (e : F144 v1 h = some v) : zRu2 spec d 144 [(21, 0), (0, v1)] (h, hm, o) none (v, hm, o) := by
  refine zF_in (D := 0) (mx := 2) (L := [some (21, 0), some (0, v1)]) (by decide +kernel) rfl rfl hd (fun d hd => ?_)
  unfold F144 at e
  rcases zI_s e with ⟨q1, e⟩ | ⟨q1, e⟩
  · refine zF_blk (m := []) (d := 1) (b := B144_1) (gs := [96 ≤ (h 718 0 0)]) (c' := (29, [some (21, 0), some (0, v1)], [], (h, hm, o))) K144_1 rfl ⟨q1, trivial⟩ ?_
    obtain rfl := Option.some.inj e
    exact zF_rv (by decide +kernel)
  · refine zF_blk (m := []) (d := 0) (b := B144_1) (gs := [¬ (96 ≤ (h 718 0 0))]) (c' := (9, [some (21, 0), some (0, v1)], [], (h, hm, o))) K144_1 rfl ⟨q1, trivial⟩ ?_
    obtain ⟨q2, e⟩ := zG_s e
    refine zF_blk (m := []) (d := 0) (b := B144_0) (gs := [0 ≤ (h 718 0 0) ∧ (h 718 0 0) < 96]) (c' := (29, [some (21, 0), some (0, v1)], [], ((hset (hset h 717 0 (h 718 0 0) v1) 718 0 0 (wadd ((hset h 717 0 (h 718 0 0) v1) 718 0 0) 1)), hm, o))) K144_0 rfl ⟨q2, trivial⟩ ?_
    obtain rfl := Option.some.inj e
    exact zF_rv (by decide +kernel)
def B143_0 : List zRow := [(0, .bipush 6, 2, (0, 0, 0)), (2, .istore_n 3, 1, (0, 0, 0))]
theorem K143_0 : zRk 143 B143_0 = true := by decide +kernel
def B143_1 : List zRow := [(23, .aload_n 0, 1, (0, 0, 0)), (24, .bipush 97, 2, (0, 0, 0)), (26, .iload 4, 2, (0, 0, 0))]
theorem K143_1 : zRk 143 B143_1 = true := by decide +kernel
def B143_2 : List zRow := [(28, .iadd, 1, (0, 0, 0)), (29, .iconst 1, 1, (0, 0, 0)), (30, .isub, 1, (0, 0, 0))]
theorem K143_2 : zRk 143 B143_2 = true := by decide +kernel
def B143_3 : List zRow := [(7, .lload_n 1, 1, (0, 0, 0)), (8, .iload_n 3, 1, (0, 0, 0)), (9, .iconst 5, 1, (0, 0, 0)), (10, .imul, 1, (0, 0, 0)), (11, .lshr, 1, (0, 0, 0)), (12, .l2i, 1, (0, 0, 0)), (13, .bipush 31, 2, (0, 0, 0)), (15, .iand, 1, (0, 0, 0)), (16, .istore 4, 2, (0, 0, 0)), (18, .iload 4, 2, (0, 0, 0)), (20, .ifCond .le 14, 3, (0, 0, 0))]
theorem K143_3 : zRk 143 B143_3 = true := by decide +kernel
def B143_4 : List zRow := [(3, .iload_n 3, 1, (0, 0, 0)), (4, .ifCond .lt 36, 3, (0, 0, 0))]
theorem K143_4 : zRk 143 B143_4 = true := by decide +kernel
def B143_5 : List zRow := [(34, .iinc 3 (-1), 3, (0, 0, 0)), (37, .goto (-34), 3, (0, 0, 0))]
theorem K143_5 : zRk 143 B143_5 = true := by decide +kernel
def F143_1 (k0 : Int → Int → zHC → Option zHC) (v1 : Int) (v3 : Int) (h : zHC) : Option zHC := k0 v1 (wadd v3 (-1)) h
set_option maxRecDepth 100000 in
theorem T143_1 {spec : zRn zH2} {hm : zHM} {o : Int → Int} {d : Nat} (hd : 1 ≤ d) (k0 : Int → Int → zHC → Option zHC) (hk0 : ∀ (v1 : Int) (v3 : Int) (h : zHC) (v : zHC), k0 v1 v3 h = some v → zFin 0 (fun _ => 0) (zRu2 spec d) 143 none (v, hm, o) (3, [some (21, 0), some (1, v1), none, some (0, v3), none], [], (h, hm, o))) (v1 : Int) (v3 : Int) (h : zHC) (v : zHC) (e : F143_1 k0 v1 v3 h = some v) : zFin 0 (fun _ => 0) (zRu2 spec d) 143 none (v, hm, o) (34, [some (21, 0), some (1, v1), none, some (0, v3), none], [], (h, hm, o)) := by
  unfold F143_1 at e
  refine zF_blk (m := []) (d := 0) (b := B143_5) (gs := []) (c' := (3, [some (21, 0), some (1, v1), none, some (0, (wadd v3 (-1))), none], [], (h, hm, o))) K143_5 rfl trivial ?_
  exact hk0 v1 (wadd v3 (-1)) h _ e
def F143_0 : Nat → Int → Int → zHC → Option zHC
  | 0, _, _, _ => none
  | n + 1, v1, v3, h => if v3 < 0 then some h else if (wand (wl2i (qshr v1 (wmul v3 5))) 31) ≤ 0 then F143_1 (F143_0 n) v1 v3 h else (F144 (wsub (wadd 97 (wand (wl2i (qshr v1 (wmul v3 5))) 31)) 1) h).bind fun r1 => F143_1 (F143_0 n) v1 v3 r1
set_option maxRecDepth 100000 in
theorem T143_0 {spec : zRn zH2} {hm : zHM} {o : Int → Int} {d : Nat} (hd : 1 ≤ d) : ∀ (n : Nat) (v1 : Int) (v3 : Int) (h : zHC) (v : zHC), F143_0 n v1 v3 h = some v → zFin 0 (fun _ => 0) (zRu2 spec d) 143 none (v, hm, o) (3, [some (21, 0), some (1, v1), none, some (0, v3), none], [], (h, hm, o)) := by
  intro n
  induction n with
  | zero => intro v1 v3 h v e; unfold F143_0 at e; cases e
  | succ n hk0 =>
    intro v1 v3 h v e
    unfold F143_0 at e
    rcases zI_s e with ⟨q1, e⟩ | ⟨q1, e⟩
    · refine zF_blk (m := []) (d := 1) (b := B143_4) (gs := [v3 < 0]) (c' := (40, [some (21, 0), some (1, v1), none, some (0, v3), none], [], (h, hm, o))) K143_4 rfl ⟨q1, trivial⟩ ?_
      obtain rfl := Option.some.inj e
      exact zF_rv (by decide +kernel)
    · refine zF_blk (m := []) (d := 0) (b := B143_4) (gs := [¬ (v3 < 0)]) (c' := (7, [some (21, 0), some (1, v1), none, some (0, v3), none], [], (h, hm, o))) K143_4 rfl ⟨q1, trivial⟩ ?_
      rcases zI_s e with ⟨q2, e⟩ | ⟨q2, e⟩
      · refine zF_blk (m := []) (d := 1) (b := B143_3) (gs := [(wand (wl2i (qshr v1 (wmul v3 5))) 31) ≤ 0]) (c' := (34, [some (21, 0), some (1, v1), none, some (0, v3), some (0, (wand (wl2i (qshr v1 (wmul v3 5))) 31))], [], (h, hm, o))) K143_3 rfl ⟨q2, trivial⟩ ?_
        refine zF_blk (m := [true, true, false, true, false]) (d := 0) (b := []) (gs := []) (c' := (34, [some (21, 0), some (1, v1), none, some (0, v3), none], [], (h, hm, o))) rfl rfl trivial ?_
        exact T143_1 hd (F143_0 n) hk0 v1 v3 h _ e
      · refine zF_blk (m := []) (d := 0) (b := B143_3) (gs := [¬ ((wand (wl2i (qshr v1 (wmul v3 5))) 31) ≤ 0)]) (c' := (23, [some (21, 0), some (1, v1), none, some (0, v3), some (0, (wand (wl2i (qshr v1 (wmul v3 5))) 31))], [], (h, hm, o))) K143_3 rfl ⟨q2, trivial⟩ ?_
        refine zF_blk (m := []) (d := 0) (b := B143_1) (gs := []) (c' := (28, [some (21, 0), some (1, v1), none, some (0, v3), some (0, (wand (wl2i (qshr v1 (wmul v3 5))) 31))], [(0, (wand (wl2i (qshr v1 (wmul v3 5))) 31)), (0, 97), (21, 0)], (h, hm, o))) K143_1 rfl trivial ?_
        obtain ⟨r1, q3, e⟩ := zB_s e
        refine zF_blk (m := []) (d := 0) (b := B143_2) (gs := []) (c' := (31, [some (21, 0), some (1, v1), none, some (0, v3), some (0, (wand (wl2i (qshr v1 (wmul v3 5))) 31))], [(0, (wsub (wadd 97 (wand (wl2i (qshr v1 (wmul v3 5))) 31)) 1)), (21, 0)], (h, hm, o))) K143_2 rfl trivial ?_
        refine zF_call (k := 144) (cl := 11) (n := 2) (i := .invokevirtual 338) (args := [(21, 0), (0, (wsub (wadd 97 (wand (wl2i (qshr v1 (wmul v3 5))) 31)) 1))]) (rest := []) (g1 := (r1, hm, o)) (r1 := none) (by decide +kernel) rfl rfl rfl (st' := []) rfl (S144 (Nat.le_trans (by decide) hd) (wsub (wadd 97 (wand (wl2i (qshr v1 (wmul v3 5))) 31)) 1) h _ q3) ?_
        refine zF_blk (m := [true, true, false, true, false]) (d := 0) (b := []) (gs := []) (c' := (34, [some (21, 0), some (1, v1), none, some (0, v3), none], [], (r1, hm, o))) rfl rfl trivial ?_
        exact T143_1 hd (F143_0 n) hk0 v1 v3 r1 _ e
/-- EchoVale.putName(J)V -/
def F143 (v1 : Int) (h : zHC) : Option zHC := F143_0 zFu v1 6 h
set_option maxRecDepth 100000 in
theorem S143 {spec : zRn zH2} {hm : zHM} {o : Int → Int} {d : Nat} (hd : 2 ≤ d) (v1 : Int) (h : zHC) (v : zHC) (e : F143 v1 h = some v) : zRu2 spec d 143 [(21, 0), (1, v1)] (h, hm, o) none (v, hm, o) := by
  refine zF_in (D := 1) (mx := 5) (L := [some (21, 0), some (1, v1), none, none, none]) (by decide +kernel) rfl rfl hd (fun d hd => ?_)
  unfold F143 at e
  refine zF_blk (m := []) (d := 0) (b := B143_0) (gs := []) (c' := (3, [some (21, 0), some (1, v1), none, some (0, 6), none], [], (h, hm, o))) K143_0 rfl trivial ?_
  exact T143_0 hd zFu v1 6 h _ e
def B145_0 : List zRow := [(6, .aload_n 0, 1, (0, 0, 0)), (7, .bipush 48, 2, (0, 0, 0)), (9, .iload_n 1, 1, (0, 0, 0)), (10, .bipush 100, 2, (0, 0, 0)), (12, .idiv, 1, (0, 0, 0))]
theorem K145_0 : zRk 145 B145_0 = true := by decide +kernel
def B145_1 : List zRow := [(13, .iadd, 1, (0, 0, 0))]
theorem K145_1 : zRk 145 B145_1 = true := by decide +kernel
def B145_2 : List zRow := [(0, .iload_n 1, 1, (0, 0, 0)), (1, .bipush 100, 2, (0, 0, 0)), (3, .if_icmp .lt 14, 3, (0, 0, 0))]
theorem K145_2 : zRk 145 B145_2 = true := by decide +kernel
def B145_3 : List zRow := [(23, .aload_n 0, 1, (0, 0, 0)), (24, .bipush 48, 2, (0, 0, 0)), (26, .iload_n 1, 1, (0, 0, 0)), (27, .bipush 10, 2, (0, 0, 0)), (29, .idiv, 1, (0, 0, 0)), (30, .bipush 10, 2, (0, 0, 0)), (32, .irem, 1, (0, 0, 0))]
theorem K145_3 : zRk 145 B145_3 = true := by decide +kernel
def B145_4 : List zRow := [(33, .iadd, 1, (0, 0, 0))]
theorem K145_4 : zRk 145 B145_4 = true := by decide +kernel
def B145_5 : List zRow := [(17, .iload_n 1, 1, (0, 0, 0)), (18, .bipush 10, 2, (0, 0, 0)), (20, .if_icmp .lt 17, 3, (0, 0, 0))]
theorem K145_5 : zRk 145 B145_5 = true := by decide +kernel
def B145_6 : List zRow := [(37, .aload_n 0, 1, (0, 0, 0)), (38, .bipush 48, 2, (0, 0, 0)), (40, .iload_n 1, 1, (0, 0, 0)), (41, .bipush 10, 2, (0, 0, 0)), (43, .irem, 1, (0, 0, 0))]
theorem K145_6 : zRk 145 B145_6 = true := by decide +kernel
def B145_7 : List zRow := [(44, .iadd, 1, (0, 0, 0))]
theorem K145_7 : zRk 145 B145_7 = true := by decide +kernel
def F145_1 (v1 : Int) (h : zHC) : Option zHC := (F144 (wadd 48 (wrem v1 10)) h).bind fun r1 => some r1
set_option maxRecDepth 100000 in
theorem T145_1 {spec : zRn zH2} {hm : zHM} {o : Int → Int} {d : Nat} (hd : 1 ≤ d) (v1 : Int) (h : zHC) (v : zHC) (e : F145_1 v1 h = some v) : zFin 0 (fun _ => 0) (zRu2 spec d) 145 none (v, hm, o) (37, [some (21, 0), some (0, v1)], [], (h, hm, o)) := by
  unfold F145_1 at e
  refine zF_blk (m := []) (d := 0) (b := B145_6) (gs := [¬ 10 = 0]) (c' := (44, [some (21, 0), some (0, v1)], [(0, (wrem v1 10)), (0, 48), (21, 0)], (h, hm, o))) K145_6 rfl ⟨by decide, trivial⟩ ?_
  obtain ⟨r1, q1, e⟩ := zB_s e
  refine zF_blk (m := []) (d := 0) (b := B145_7) (gs := []) (c' := (45, [some (21, 0), some (0, v1)], [(0, (wadd 48 (wrem v1 10))), (21, 0)], (h, hm, o))) K145_7 rfl trivial ?_
  refine zF_call (k := 144) (cl := 11) (n := 2) (i := .invokevirtual 338) (args := [(21, 0), (0, (wadd 48 (wrem v1 10)))]) (rest := []) (g1 := (r1, hm, o)) (r1 := none) (by decide +kernel) rfl rfl rfl (st' := []) rfl (S144 (Nat.le_trans (by decide) hd) (wadd 48 (wrem v1 10)) h _ q1) ?_
  obtain rfl := Option.some.inj e
  exact zF_rv (by decide +kernel)
def F145_0 (v1 : Int) (h : zHC) : Option zHC := if v1 < 10 then F145_1 v1 h else (F144 (wadd 48 (wrem (wdiv v1 10) 10)) h).bind fun r1 => F145_1 v1 r1
set_option maxRecDepth 100000 in
theorem T145_0 {spec : zRn zH2} {hm : zHM} {o : Int → Int} {d : Nat} (hd : 1 ≤ d) (v1 : Int) (h : zHC) (v : zHC) (e : F145_0 v1 h = some v) : zFin 0 (fun _ => 0) (zRu2 spec d) 145 none (v, hm, o) (17, [some (21, 0), some (0, v1)], [], (h, hm, o)) := by
  unfold F145_0 at e
  rcases zI_s e with ⟨q1, e⟩ | ⟨q1, e⟩
  · refine zF_blk (m := []) (d := 1) (b := B145_5) (gs := [v1 < 10]) (c' := (37, [some (21, 0), some (0, v1)], [], (h, hm, o))) K145_5 rfl ⟨q1, trivial⟩ ?_
    exact T145_1 hd v1 h _ e
  · refine zF_blk (m := []) (d := 0) (b := B145_5) (gs := [¬ (v1 < 10)]) (c' := (23, [some (21, 0), some (0, v1)], [], (h, hm, o))) K145_5 rfl ⟨q1, trivial⟩ ?_
    refine zF_blk (m := []) (d := 0) (b := B145_3) (gs := [¬ 10 = 0, ¬ 10 = 0]) (c' := (33, [some (21, 0), some (0, v1)], [(0, (wrem (wdiv v1 10) 10)), (0, 48), (21, 0)], (h, hm, o))) K145_3 rfl ⟨by decide, by decide, trivial⟩ ?_
    obtain ⟨r1, q2, e⟩ := zB_s e
    refine zF_blk (m := []) (d := 0) (b := B145_4) (gs := []) (c' := (34, [some (21, 0), some (0, v1)], [(0, (wadd 48 (wrem (wdiv v1 10) 10))), (21, 0)], (h, hm, o))) K145_4 rfl trivial ?_
    refine zF_call (k := 144) (cl := 11) (n := 2) (i := .invokevirtual 338) (args := [(21, 0), (0, (wadd 48 (wrem (wdiv v1 10) 10)))]) (rest := []) (g1 := (r1, hm, o)) (r1 := none) (by decide +kernel) rfl rfl rfl (st' := []) rfl (S144 (Nat.le_trans (by decide) hd) (wadd 48 (wrem (wdiv v1 10) 10)) h _ q2) ?_
    exact T145_1 hd v1 r1 _ e
/-- EchoVale.putNumber(I)V -/
def F145 (v1 : Int) (h : zHC) : Option zHC := if v1 < 100 then F145_0 v1 h else (F144 (wadd 48 (wdiv v1 100)) h).bind fun r1 => F145_0 v1 r1
set_option maxRecDepth 100000 in
theorem S145 {spec : zRn zH2} {hm : zHM} {o : Int → Int} {d : Nat} (hd : 2 ≤ d) (v1 : Int) (h : zHC) (v : zHC) (e : F145 v1 h = some v) : zRu2 spec d 145 [(21, 0), (0, v1)] (h, hm, o) none (v, hm, o) := by
  refine zF_in (D := 1) (mx := 2) (L := [some (21, 0), some (0, v1)]) (by decide +kernel) rfl rfl hd (fun d hd => ?_)
  unfold F145 at e
  rcases zI_s e with ⟨q1, e⟩ | ⟨q1, e⟩
  · refine zF_blk (m := []) (d := 1) (b := B145_2) (gs := [v1 < 100]) (c' := (17, [some (21, 0), some (0, v1)], [], (h, hm, o))) K145_2 rfl ⟨q1, trivial⟩ ?_
    exact T145_0 hd v1 h _ e
  · refine zF_blk (m := []) (d := 0) (b := B145_2) (gs := [¬ (v1 < 100)]) (c' := (6, [some (21, 0), some (0, v1)], [], (h, hm, o))) K145_2 rfl ⟨q1, trivial⟩ ?_
    refine zF_blk (m := []) (d := 0) (b := B145_0) (gs := [¬ 100 = 0]) (c' := (13, [some (21, 0), some (0, v1)], [(0, (wdiv v1 100)), (0, 48), (21, 0)], (h, hm, o))) K145_0 rfl ⟨by decide, trivial⟩ ?_
    obtain ⟨r1, q2, e⟩ := zB_s e
    refine zF_blk (m := []) (d := 0) (b := B145_1) (gs := []) (c' := (14, [some (21, 0), some (0, v1)], [(0, (wadd 48 (wdiv v1 100))), (21, 0)], (h, hm, o))) K145_1 rfl trivial ?_
    refine zF_call (k := 144) (cl := 11) (n := 2) (i := .invokevirtual 338) (args := [(21, 0), (0, (wadd 48 (wdiv v1 100)))]) (rest := []) (g1 := (r1, hm, o)) (r1 := none) (by decide +kernel) rfl rfl rfl (st' := []) rfl (S144 (Nat.le_trans (by decide) hd) (wadd 48 (wdiv v1 100)) h _ q2) ?_
    exact T145_0 hd v1 r1 _ e
