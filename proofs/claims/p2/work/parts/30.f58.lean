/-! Functions of the methods, by wip/gen/lift.py. -/
def B158_0 : List zRow := [(72, .aload_n 1, 1, (0, 0, 0)), (73, .iload_n 2, 1, (0, 0, 0)), (74, .bipush 6, 2, (0, 0, 0))]
theorem K158_0 : zRk 158 B158_0 = true := by decide +kernel
def B158_1 : List zRow := [(94, .iconst 0, 1, (0, 0, 0))]
theorem K158_1 : zRk 158 B158_1 = true := by decide +kernel
def B158_2 : List zRow := [(82, .aload_n 1, 1, (0, 0, 0)), (83, .iload_n 2, 1, (0, 0, 0))]
theorem K158_2 : zRk 158 B158_2 = true := by decide +kernel
def B158_3 : List zRow := [(90, .iconst 1, 1, (0, 0, 0)), (91, .goto 4, 3, (0, 0, 0))]
theorem K158_3 : zRk 158 B158_3 = true := by decide +kernel
def B158_4 : List zRow := [(87, .ifCond .ne 7, 3, (0, 0, 0))]
theorem K158_4 : zRk 158 B158_4 = true := by decide +kernel
def B158_5 : List zRow := [(79, .ifCond .ne 15, 3, (0, 0, 0))]
theorem K158_5 : zRk 158 B158_5 = true := by decide +kernel
def B158_6 : List zRow := [(0, .aload_n 0, 1, (0, 0, 0)), (1, .getfield 9, 3, (6, 2, 5243362)), (4, .iload_n 3, 1, (0, 0, 0)), (5, .iconst 1, 1, (0, 0, 0)), (6, .iadd, 1, (0, 0, 0)), (7, .iaload, 1, (0, 0, 0)), (8, .istore 4, 2, (0, 0, 0)), (10, .aload_n 0, 1, (0, 0, 0)), (11, .getfield 9, 3, (6, 2, 5243362)), (14, .iload_n 3, 1, (0, 0, 0)), (15, .iconst 2, 1, (0, 0, 0)), (16, .iadd, 1, (0, 0, 0)), (17, .iaload, 1, (0, 0, 0)), (18, .istore 5, 2, (0, 0, 0)), (20, .aload_n 0, 1, (0, 0, 0)), (21, .getfield 9, 3, (6, 2, 5243362)), (24, .iload_n 3, 1, (0, 0, 0)), (25, .iaload, 1, (0, 0, 0)), (26, .tableswitch 175 13 20 #[46, 70, 89, 101, 118, 132, 146, 160], 46, (0, 0, 0))]
theorem K158_6 : zRk 158 B158_6 = true := by decide +kernel
def B158_7 : List zRow := [(96, .aload_n 1, 1, (0, 0, 0)), (97, .iload_n 2, 1, (0, 0, 0)), (98, .iconst 5, 1, (0, 0, 0))]
theorem K158_7 : zRk 158 B158_7 = true := by decide +kernel
def B158_8 : List zRow := [(113, .iconst 0, 1, (0, 0, 0))]
theorem K158_8 : zRk 158 B158_8 = true := by decide +kernel
def B158_9 : List zRow := [(109, .iconst 1, 1, (0, 0, 0)), (110, .goto 4, 3, (0, 0, 0))]
theorem K158_9 : zRk 158 B158_9 = true := by decide +kernel
def B158_10 : List zRow := [(105, .iconst 1, 1, (0, 0, 0)), (106, .if_icmp .le 7, 3, (0, 0, 0))]
theorem K158_10 : zRk 158 B158_10 = true := by decide +kernel
def B158_11 : List zRow := [(115, .aload_n 1, 1, (0, 0, 0)), (116, .iload_n 2, 1, (0, 0, 0)), (117, .iconst 5, 1, (0, 0, 0))]
theorem K158_11 : zRk 158 B158_11 = true := by decide +kernel
def B158_12 : List zRow := [(121, .iload 5, 2, (0, 0, 0))]
theorem K158_12 : zRk 158 B158_12 = true := by decide +kernel
def B158_13 : List zRow := [(127, .aload_n 1, 1, (0, 0, 0)), (128, .iload_n 2, 1, (0, 0, 0)), (129, .iconst 1, 1, (0, 0, 0))]
theorem K158_13 : zRk 158 B158_13 = true := by decide +kernel
def B158_14 : List zRow := [(142, .iconst 0, 1, (0, 0, 0))]
theorem K158_14 : zRk 158 B158_14 = true := by decide +kernel
def B158_15 : List zRow := [(138, .iconst 1, 1, (0, 0, 0)), (139, .goto 4, 3, (0, 0, 0))]
theorem K158_15 : zRk 158 B158_15 = true := by decide +kernel
def B158_16 : List zRow := [(133, .iload 5, 2, (0, 0, 0)), (135, .if_icmp .ne 7, 3, (0, 0, 0))]
theorem K158_16 : zRk 158 B158_16 = true := by decide +kernel
def B158_17 : List zRow := [(144, .aload_n 1, 1, (0, 0, 0)), (145, .iload_n 2, 1, (0, 0, 0)), (146, .iconst 0, 1, (0, 0, 0))]
theorem K158_17 : zRk 158 B158_17 = true := by decide +kernel
def B158_18 : List zRow := [(150, .iload 4, 2, (0, 0, 0)), (152, .iload 5, 2, (0, 0, 0))]
theorem K158_18 : zRk 158 B158_18 = true := by decide +kernel
def B158_19 : List zRow := [(158, .aload_n 1, 1, (0, 0, 0)), (159, .iload_n 2, 1, (0, 0, 0)), (160, .iconst 4, 1, (0, 0, 0))]
theorem K158_19 : zRk 158 B158_19 = true := by decide +kernel
def B158_20 : List zRow := [(164, .iload 4, 2, (0, 0, 0)), (166, .iload 5, 2, (0, 0, 0))]
theorem K158_20 : zRk 158 B158_20 = true := by decide +kernel
def B158_21 : List zRow := [(172, .aload_n 1, 1, (0, 0, 0)), (173, .iload_n 2, 1, (0, 0, 0)), (174, .iconst 2, 1, (0, 0, 0))]
theorem K158_21 : zRk 158 B158_21 = true := by decide +kernel
def B158_22 : List zRow := [(178, .iload 4, 2, (0, 0, 0)), (180, .iload 5, 2, (0, 0, 0))]
theorem K158_22 : zRk 158 B158_22 = true := by decide +kernel
def B158_23 : List zRow := [(186, .aload_n 1, 1, (0, 0, 0)), (187, .iload_n 2, 1, (0, 0, 0)), (188, .bipush 6, 2, (0, 0, 0))]
theorem K158_23 : zRk 158 B158_23 = true := by decide +kernel
def B158_24 : List zRow := [(193, .iload 4, 2, (0, 0, 0)), (195, .iload 5, 2, (0, 0, 0))]
theorem K158_24 : zRk 158 B158_24 = true := by decide +kernel
def B158_25 : List zRow := [(201, .iconst 0, 1, (0, 0, 0))]
theorem K158_25 : zRk 158 B158_25 = true := by decide +kernel
/-- EchoVale$Sentence.isSo(LEchoVale$Course;II)Z -/
def F158 (v0 : Int) (v1 : Int) (v2 : Int) (v3 : Int) (h : zHC) : Option Int := zG (0 ≤ (wadd v3 1) ∧ (wadd v3 1) < 120) (zG (0 ≤ (wadd v3 2) ∧ (wadd v3 2) < 120) (zG (0 ≤ v3 ∧ v3 < 120) (if (h 386 v0 v3) = 13 then (F63 v1 v2 6 h).bind fun r1 => if ¬ r1 = 0 then some 0 else (F125 v1 v2 h).bind fun r2 => if ¬ r2 = 0 then some 0 else some 1 else if (h 386 v0 v3) = 14 then (F63 v1 v2 5 h).bind fun r3 => (F64 r3).bind fun r4 => if r4 ≤ 1 then some 0 else some 1 else if (h 386 v0 v3) = 15 then (F63 v1 v2 5 h).bind fun r5 => (F65 r5 (h 386 v0 (wadd v3 2))).bind fun r6 => zG (r6 = 0 ∨ r6 = 1) (some r6) else if (h 386 v0 v3) = 16 then (F63 v1 v2 1 h).bind fun r7 => if ¬ r7 = (h 386 v0 (wadd v3 2)) then some 0 else some 1 else if (h 386 v0 v3) = 17 then (F63 v1 v2 0 h).bind fun r8 => (F159 r8 (h 386 v0 (wadd v3 1)) (h 386 v0 (wadd v3 2))).bind fun r9 => zG (r9 = 0 ∨ r9 = 1) (some r9) else if (h 386 v0 v3) = 18 then (F63 v1 v2 4 h).bind fun r10 => (F159 r10 (h 386 v0 (wadd v3 1)) (h 386 v0 (wadd v3 2))).bind fun r11 => zG (r11 = 0 ∨ r11 = 1) (some r11) else if (h 386 v0 v3) = 19 then (F63 v1 v2 2 h).bind fun r12 => (F159 r12 (h 386 v0 (wadd v3 1)) (h 386 v0 (wadd v3 2))).bind fun r13 => zG (r13 = 0 ∨ r13 = 1) (some r13) else if (h 386 v0 v3) = 20 then (F63 v1 v2 6 h).bind fun r14 => (F159 r14 (h 386 v0 (wadd v3 1)) (h 386 v0 (wadd v3 2))).bind fun r15 => zG (r15 = 0 ∨ r15 = 1) (some r15) else zG ((h 386 v0 v3) < 13 ∨ 20 < (h 386 v0 v3)) (some 0))))
set_option maxRecDepth 100000 in
theorem S158 {spec : zRn zH2} {hm : zHM} {o : Int → Int} {d : Nat} (hd : 2 ≤ d) (v0 : Int) (v1 : Int) (v2 : Int) (v3 : Int) (h : zHC) (v : Int) (e : F158 v0 v1 v2 v3 h = some v) : zRu2 spec d 158 [(16, v0), (11, v1), (0, v2), (0, v3)] (h, hm, o) (some (0, v)) (h, hm, o) := by
  refine zF_in (D := 1) (mx := 6) (L := [some (16, v0), some (11, v1), some (0, v2), some (0, v3), none, none]) (by decide +kernel) rfl rfl hd (fun d hd => ?_)
  unfold F158 at e
  obtain ⟨q1, e⟩ := zG_s e
  obtain ⟨q2, e⟩ := zG_s e
  obtain ⟨q3, e⟩ := zG_s e
  rcases zI_s e with ⟨q4, e⟩ | ⟨q4, e⟩
  · refine zF_blk (m := []) (d := 13) (b := B158_6) (gs := [0 ≤ (wadd v3 1) ∧ (wadd v3 1) < 120, 0 ≤ (wadd v3 2) ∧ (wadd v3 2) < 120, 0 ≤ v3 ∧ v3 < 120, (h 386 v0 v3) = 13]) (c' := (72, [some (16, v0), some (11, v1), some (0, v2), some (0, v3), some (0, (h 386 v0 (wadd v3 1))), some (0, (h 386 v0 (wadd v3 2)))], [], (h, hm, o))) K158_6 rfl ⟨q1, q2, q3, q4, trivial⟩ ?_
    obtain ⟨r1, q5, e⟩ := zB_s e
    refine zF_blk (m := []) (d := 0) (b := B158_0) (gs := []) (c' := (76, [some (16, v0), some (11, v1), some (0, v2), some (0, v3), some (0, (h 386 v0 (wadd v3 1))), some (0, (h 386 v0 (wadd v3 2)))], [(0, 6), (0, v2), (11, v1)], (h, hm, o))) K158_0 rfl trivial ?_
    refine zF_call (k := 63) (cl := 1) (n := 3) (i := .invokevirtual 36) (args := [(11, v1), (0, v2), (0, 6)]) (rest := []) (g1 := (h, hm, o)) (r1 := some (0, r1)) (by decide +kernel) rfl rfl rfl (st' := [(0, r1)]) rfl (S63 (Nat.le_trans (by decide) hd) v1 v2 6 h _ q5) ?_
    rcases zI_s e with ⟨q6, e⟩ | ⟨q6, e⟩
    · refine zF_blk (m := []) (d := 1) (b := B158_5) (gs := [¬ r1 = 0]) (c' := (94, [some (16, v0), some (11, v1), some (0, v2), some (0, v3), some (0, (h 386 v0 (wadd v3 1))), some (0, (h 386 v0 (wadd v3 2)))], [], (h, hm, o))) K158_5 rfl ⟨q6, trivial⟩ ?_
      refine zF_blk (m := []) (d := 0) (b := B158_1) (gs := []) (c' := (95, [some (16, v0), some (11, v1), some (0, v2), some (0, v3), some (0, (h 386 v0 (wadd v3 1))), some (0, (h 386 v0 (wadd v3 2)))], [(0, 0)], (h, hm, o))) K158_1 rfl trivial ?_
      obtain rfl := Option.some.inj e
      exact zF_rb (by decide +kernel) (Or.inl rfl)
    · refine zF_blk (m := []) (d := 0) (b := B158_5) (gs := [¬ (¬ r1 = 0)]) (c' := (82, [some (16, v0), some (11, v1), some (0, v2), some (0, v3), some (0, (h 386 v0 (wadd v3 1))), some (0, (h 386 v0 (wadd v3 2)))], [], (h, hm, o))) K158_5 rfl ⟨q6, trivial⟩ ?_
      obtain ⟨r2, q7, e⟩ := zB_s e
      refine zF_blk (m := []) (d := 0) (b := B158_2) (gs := []) (c' := (84, [some (16, v0), some (11, v1), some (0, v2), some (0, v3), some (0, (h 386 v0 (wadd v3 1))), some (0, (h 386 v0 (wadd v3 2)))], [(0, v2), (11, v1)], (h, hm, o))) K158_2 rfl trivial ?_
      refine zF_call (k := 125) (cl := 1) (n := 2) (i := .invokevirtual 42) (args := [(11, v1), (0, v2)]) (rest := []) (g1 := (h, hm, o)) (r1 := some (0, r2)) (by decide +kernel) rfl rfl rfl (st' := [(0, r2)]) rfl (S125 (Nat.le_trans (by decide) hd) v1 v2 h _ q7) ?_
      rcases zI_s e with ⟨q8, e⟩ | ⟨q8, e⟩
      · refine zF_blk (m := []) (d := 1) (b := B158_4) (gs := [¬ r2 = 0]) (c' := (94, [some (16, v0), some (11, v1), some (0, v2), some (0, v3), some (0, (h 386 v0 (wadd v3 1))), some (0, (h 386 v0 (wadd v3 2)))], [], (h, hm, o))) K158_4 rfl ⟨q8, trivial⟩ ?_
        refine zF_blk (m := []) (d := 0) (b := B158_1) (gs := []) (c' := (95, [some (16, v0), some (11, v1), some (0, v2), some (0, v3), some (0, (h 386 v0 (wadd v3 1))), some (0, (h 386 v0 (wadd v3 2)))], [(0, 0)], (h, hm, o))) K158_1 rfl trivial ?_
        obtain rfl := Option.some.inj e
        exact zF_rb (by decide +kernel) (Or.inl rfl)
      · refine zF_blk (m := []) (d := 0) (b := B158_4) (gs := [¬ (¬ r2 = 0)]) (c' := (90, [some (16, v0), some (11, v1), some (0, v2), some (0, v3), some (0, (h 386 v0 (wadd v3 1))), some (0, (h 386 v0 (wadd v3 2)))], [], (h, hm, o))) K158_4 rfl ⟨q8, trivial⟩ ?_
        refine zF_blk (m := []) (d := 0) (b := B158_3) (gs := []) (c' := (95, [some (16, v0), some (11, v1), some (0, v2), some (0, v3), some (0, (h 386 v0 (wadd v3 1))), some (0, (h 386 v0 (wadd v3 2)))], [(0, 1)], (h, hm, o))) K158_3 rfl trivial ?_
        obtain rfl := Option.some.inj e
        exact zF_rb (by decide +kernel) (Or.inr rfl)
  rcases zI_s e with ⟨q9, e⟩ | ⟨q9, e⟩
  · refine zF_blk (m := []) (d := 14) (b := B158_6) (gs := [0 ≤ (wadd v3 1) ∧ (wadd v3 1) < 120, 0 ≤ (wadd v3 2) ∧ (wadd v3 2) < 120, 0 ≤ v3 ∧ v3 < 120, (h 386 v0 v3) = 14]) (c' := (96, [some (16, v0), some (11, v1), some (0, v2), some (0, v3), some (0, (h 386 v0 (wadd v3 1))), some (0, (h 386 v0 (wadd v3 2)))], [], (h, hm, o))) K158_6 rfl ⟨q1, q2, q3, q9, trivial⟩ ?_
    obtain ⟨r3, q10, e⟩ := zB_s e
    refine zF_blk (m := []) (d := 0) (b := B158_7) (gs := []) (c' := (99, [some (16, v0), some (11, v1), some (0, v2), some (0, v3), some (0, (h 386 v0 (wadd v3 1))), some (0, (h 386 v0 (wadd v3 2)))], [(0, 5), (0, v2), (11, v1)], (h, hm, o))) K158_7 rfl trivial ?_
    refine zF_call (k := 63) (cl := 1) (n := 3) (i := .invokevirtual 36) (args := [(11, v1), (0, v2), (0, 5)]) (rest := []) (g1 := (h, hm, o)) (r1 := some (0, r3)) (by decide +kernel) rfl rfl rfl (st' := [(0, r3)]) rfl (S63 (Nat.le_trans (by decide) hd) v1 v2 5 h _ q10) ?_
    obtain ⟨r4, q11, e⟩ := zB_s e
    refine zF_call (k := 64) (cl := 13) (n := 1) (i := .invokestatic 46) (args := [(0, r3)]) (rest := []) (g1 := (h, hm, o)) (r1 := some (0, r4)) (by decide +kernel) rfl rfl rfl (st' := [(0, r4)]) rfl (S64 (Nat.le_trans (by decide) hd) r3 h _ q11) ?_
    rcases zI_s e with ⟨q12, e⟩ | ⟨q12, e⟩
    · refine zF_blk (m := []) (d := 1) (b := B158_10) (gs := [r4 ≤ 1]) (c' := (113, [some (16, v0), some (11, v1), some (0, v2), some (0, v3), some (0, (h 386 v0 (wadd v3 1))), some (0, (h 386 v0 (wadd v3 2)))], [], (h, hm, o))) K158_10 rfl ⟨q12, trivial⟩ ?_
      refine zF_blk (m := []) (d := 0) (b := B158_8) (gs := []) (c' := (114, [some (16, v0), some (11, v1), some (0, v2), some (0, v3), some (0, (h 386 v0 (wadd v3 1))), some (0, (h 386 v0 (wadd v3 2)))], [(0, 0)], (h, hm, o))) K158_8 rfl trivial ?_
      obtain rfl := Option.some.inj e
      exact zF_rb (by decide +kernel) (Or.inl rfl)
    · refine zF_blk (m := []) (d := 0) (b := B158_10) (gs := [¬ (r4 ≤ 1)]) (c' := (109, [some (16, v0), some (11, v1), some (0, v2), some (0, v3), some (0, (h 386 v0 (wadd v3 1))), some (0, (h 386 v0 (wadd v3 2)))], [], (h, hm, o))) K158_10 rfl ⟨q12, trivial⟩ ?_
      refine zF_blk (m := []) (d := 0) (b := B158_9) (gs := []) (c' := (114, [some (16, v0), some (11, v1), some (0, v2), some (0, v3), some (0, (h 386 v0 (wadd v3 1))), some (0, (h 386 v0 (wadd v3 2)))], [(0, 1)], (h, hm, o))) K158_9 rfl trivial ?_
      obtain rfl := Option.some.inj e
      exact zF_rb (by decide +kernel) (Or.inr rfl)
  rcases zI_s e with ⟨q13, e⟩ | ⟨q13, e⟩
  · refine zF_blk (m := []) (d := 15) (b := B158_6) (gs := [0 ≤ (wadd v3 1) ∧ (wadd v3 1) < 120, 0 ≤ (wadd v3 2) ∧ (wadd v3 2) < 120, 0 ≤ v3 ∧ v3 < 120, (h 386 v0 v3) = 15]) (c' := (115, [some (16, v0), some (11, v1), some (0, v2), some (0, v3), some (0, (h 386 v0 (wadd v3 1))), some (0, (h 386 v0 (wadd v3 2)))], [], (h, hm, o))) K158_6 rfl ⟨q1, q2, q3, q13, trivial⟩ ?_
    obtain ⟨r5, q14, e⟩ := zB_s e
    refine zF_blk (m := []) (d := 0) (b := B158_11) (gs := []) (c' := (118, [some (16, v0), some (11, v1), some (0, v2), some (0, v3), some (0, (h 386 v0 (wadd v3 1))), some (0, (h 386 v0 (wadd v3 2)))], [(0, 5), (0, v2), (11, v1)], (h, hm, o))) K158_11 rfl trivial ?_
    refine zF_call (k := 63) (cl := 1) (n := 3) (i := .invokevirtual 36) (args := [(11, v1), (0, v2), (0, 5)]) (rest := []) (g1 := (h, hm, o)) (r1 := some (0, r5)) (by decide +kernel) rfl rfl rfl (st' := [(0, r5)]) rfl (S63 (Nat.le_trans (by decide) hd) v1 v2 5 h _ q14) ?_
    obtain ⟨r6, q15, e⟩ := zB_s e
    refine zF_blk (m := []) (d := 0) (b := B158_12) (gs := []) (c' := (123, [some (16, v0), some (11, v1), some (0, v2), some (0, v3), some (0, (h 386 v0 (wadd v3 1))), some (0, (h 386 v0 (wadd v3 2)))], [(0, (h 386 v0 (wadd v3 2))), (0, r5)], (h, hm, o))) K158_12 rfl trivial ?_
    refine zF_call (k := 65) (cl := 11) (n := 2) (i := .invokestatic 52) (args := [(0, r5), (0, (h 386 v0 (wadd v3 2)))]) (rest := []) (g1 := (h, hm, o)) (r1 := some (0, r6)) (by decide +kernel) rfl rfl rfl (st' := [(0, r6)]) rfl (S65 (Nat.le_trans (by decide) hd) r5 (h 386 v0 (wadd v3 2)) h _ q15) ?_
    obtain ⟨q16, e⟩ := zG_s e
    obtain rfl := Option.some.inj e
    exact zF_rb (by decide +kernel) q16
  rcases zI_s e with ⟨q17, e⟩ | ⟨q17, e⟩
  · refine zF_blk (m := []) (d := 16) (b := B158_6) (gs := [0 ≤ (wadd v3 1) ∧ (wadd v3 1) < 120, 0 ≤ (wadd v3 2) ∧ (wadd v3 2) < 120, 0 ≤ v3 ∧ v3 < 120, (h 386 v0 v3) = 16]) (c' := (127, [some (16, v0), some (11, v1), some (0, v2), some (0, v3), some (0, (h 386 v0 (wadd v3 1))), some (0, (h 386 v0 (wadd v3 2)))], [], (h, hm, o))) K158_6 rfl ⟨q1, q2, q3, q17, trivial⟩ ?_
    obtain ⟨r7, q18, e⟩ := zB_s e
    refine zF_blk (m := []) (d := 0) (b := B158_13) (gs := []) (c' := (130, [some (16, v0), some (11, v1), some (0, v2), some (0, v3), some (0, (h 386 v0 (wadd v3 1))), some (0, (h 386 v0 (wadd v3 2)))], [(0, 1), (0, v2), (11, v1)], (h, hm, o))) K158_13 rfl trivial ?_
    refine zF_call (k := 63) (cl := 1) (n := 3) (i := .invokevirtual 36) (args := [(11, v1), (0, v2), (0, 1)]) (rest := []) (g1 := (h, hm, o)) (r1 := some (0, r7)) (by decide +kernel) rfl rfl rfl (st' := [(0, r7)]) rfl (S63 (Nat.le_trans (by decide) hd) v1 v2 1 h _ q18) ?_
    rcases zI_s e with ⟨q19, e⟩ | ⟨q19, e⟩
    · refine zF_blk (m := []) (d := 1) (b := B158_16) (gs := [¬ r7 = (h 386 v0 (wadd v3 2))]) (c' := (142, [some (16, v0), some (11, v1), some (0, v2), some (0, v3), some (0, (h 386 v0 (wadd v3 1))), some (0, (h 386 v0 (wadd v3 2)))], [], (h, hm, o))) K158_16 rfl ⟨q19, trivial⟩ ?_
      refine zF_blk (m := []) (d := 0) (b := B158_14) (gs := []) (c' := (143, [some (16, v0), some (11, v1), some (0, v2), some (0, v3), some (0, (h 386 v0 (wadd v3 1))), some (0, (h 386 v0 (wadd v3 2)))], [(0, 0)], (h, hm, o))) K158_14 rfl trivial ?_
      obtain rfl := Option.some.inj e
      exact zF_rb (by decide +kernel) (Or.inl rfl)
    · refine zF_blk (m := []) (d := 0) (b := B158_16) (gs := [¬ (¬ r7 = (h 386 v0 (wadd v3 2)))]) (c' := (138, [some (16, v0), some (11, v1), some (0, v2), some (0, v3), some (0, (h 386 v0 (wadd v3 1))), some (0, (h 386 v0 (wadd v3 2)))], [], (h, hm, o))) K158_16 rfl ⟨q19, trivial⟩ ?_
      refine zF_blk (m := []) (d := 0) (b := B158_15) (gs := []) (c' := (143, [some (16, v0), some (11, v1), some (0, v2), some (0, v3), some (0, (h 386 v0 (wadd v3 1))), some (0, (h 386 v0 (wadd v3 2)))], [(0, 1)], (h, hm, o))) K158_15 rfl trivial ?_
      obtain rfl := Option.some.inj e
      exact zF_rb (by decide +kernel) (Or.inr rfl)
  rcases zI_s e with ⟨q20, e⟩ | ⟨q20, e⟩
  · refine zF_blk (m := []) (d := 17) (b := B158_6) (gs := [0 ≤ (wadd v3 1) ∧ (wadd v3 1) < 120, 0 ≤ (wadd v3 2) ∧ (wadd v3 2) < 120, 0 ≤ v3 ∧ v3 < 120, (h 386 v0 v3) = 17]) (c' := (144, [some (16, v0), some (11, v1), some (0, v2), some (0, v3), some (0, (h 386 v0 (wadd v3 1))), some (0, (h 386 v0 (wadd v3 2)))], [], (h, hm, o))) K158_6 rfl ⟨q1, q2, q3, q20, trivial⟩ ?_
    obtain ⟨r8, q21, e⟩ := zB_s e
    refine zF_blk (m := []) (d := 0) (b := B158_17) (gs := []) (c' := (147, [some (16, v0), some (11, v1), some (0, v2), some (0, v3), some (0, (h 386 v0 (wadd v3 1))), some (0, (h 386 v0 (wadd v3 2)))], [(0, 0), (0, v2), (11, v1)], (h, hm, o))) K158_17 rfl trivial ?_
    refine zF_call (k := 63) (cl := 1) (n := 3) (i := .invokevirtual 36) (args := [(11, v1), (0, v2), (0, 0)]) (rest := []) (g1 := (h, hm, o)) (r1 := some (0, r8)) (by decide +kernel) rfl rfl rfl (st' := [(0, r8)]) rfl (S63 (Nat.le_trans (by decide) hd) v1 v2 0 h _ q21) ?_
    obtain ⟨r9, q22, e⟩ := zB_s e
    refine zF_blk (m := []) (d := 0) (b := B158_18) (gs := []) (c' := (154, [some (16, v0), some (11, v1), some (0, v2), some (0, v3), some (0, (h 386 v0 (wadd v3 1))), some (0, (h 386 v0 (wadd v3 2)))], [(0, (h 386 v0 (wadd v3 2))), (0, (h 386 v0 (wadd v3 1))), (0, r8)], (h, hm, o))) K158_18 rfl trivial ?_
    refine zF_call (k := 159) (cl := 6) (n := 3) (i := .invokestatic 56) (args := [(0, r8), (0, (h 386 v0 (wadd v3 1))), (0, (h 386 v0 (wadd v3 2)))]) (rest := []) (g1 := (h, hm, o)) (r1 := some (0, r9)) (by decide +kernel) rfl rfl rfl (st' := [(0, r9)]) rfl (S159 (Nat.le_trans (by decide) hd) r8 (h 386 v0 (wadd v3 1)) (h 386 v0 (wadd v3 2)) h _ q22) ?_
    obtain ⟨q23, e⟩ := zG_s e
    obtain rfl := Option.some.inj e
    exact zF_rb (by decide +kernel) q23
  rcases zI_s e with ⟨q24, e⟩ | ⟨q24, e⟩
  · refine zF_blk (m := []) (d := 18) (b := B158_6) (gs := [0 ≤ (wadd v3 1) ∧ (wadd v3 1) < 120, 0 ≤ (wadd v3 2) ∧ (wadd v3 2) < 120, 0 ≤ v3 ∧ v3 < 120, (h 386 v0 v3) = 18]) (c' := (158, [some (16, v0), some (11, v1), some (0, v2), some (0, v3), some (0, (h 386 v0 (wadd v3 1))), some (0, (h 386 v0 (wadd v3 2)))], [], (h, hm, o))) K158_6 rfl ⟨q1, q2, q3, q24, trivial⟩ ?_
    obtain ⟨r10, q25, e⟩ := zB_s e
    refine zF_blk (m := []) (d := 0) (b := B158_19) (gs := []) (c' := (161, [some (16, v0), some (11, v1), some (0, v2), some (0, v3), some (0, (h 386 v0 (wadd v3 1))), some (0, (h 386 v0 (wadd v3 2)))], [(0, 4), (0, v2), (11, v1)], (h, hm, o))) K158_19 rfl trivial ?_
    refine zF_call (k := 63) (cl := 1) (n := 3) (i := .invokevirtual 36) (args := [(11, v1), (0, v2), (0, 4)]) (rest := []) (g1 := (h, hm, o)) (r1 := some (0, r10)) (by decide +kernel) rfl rfl rfl (st' := [(0, r10)]) rfl (S63 (Nat.le_trans (by decide) hd) v1 v2 4 h _ q25) ?_
    obtain ⟨r11, q26, e⟩ := zB_s e
    refine zF_blk (m := []) (d := 0) (b := B158_20) (gs := []) (c' := (168, [some (16, v0), some (11, v1), some (0, v2), some (0, v3), some (0, (h 386 v0 (wadd v3 1))), some (0, (h 386 v0 (wadd v3 2)))], [(0, (h 386 v0 (wadd v3 2))), (0, (h 386 v0 (wadd v3 1))), (0, r10)], (h, hm, o))) K158_20 rfl trivial ?_
    refine zF_call (k := 159) (cl := 6) (n := 3) (i := .invokestatic 56) (args := [(0, r10), (0, (h 386 v0 (wadd v3 1))), (0, (h 386 v0 (wadd v3 2)))]) (rest := []) (g1 := (h, hm, o)) (r1 := some (0, r11)) (by decide +kernel) rfl rfl rfl (st' := [(0, r11)]) rfl (S159 (Nat.le_trans (by decide) hd) r10 (h 386 v0 (wadd v3 1)) (h 386 v0 (wadd v3 2)) h _ q26) ?_
    obtain ⟨q27, e⟩ := zG_s e
    obtain rfl := Option.some.inj e
    exact zF_rb (by decide +kernel) q27
  rcases zI_s e with ⟨q28, e⟩ | ⟨q28, e⟩
  · refine zF_blk (m := []) (d := 19) (b := B158_6) (gs := [0 ≤ (wadd v3 1) ∧ (wadd v3 1) < 120, 0 ≤ (wadd v3 2) ∧ (wadd v3 2) < 120, 0 ≤ v3 ∧ v3 < 120, (h 386 v0 v3) = 19]) (c' := (172, [some (16, v0), some (11, v1), some (0, v2), some (0, v3), some (0, (h 386 v0 (wadd v3 1))), some (0, (h 386 v0 (wadd v3 2)))], [], (h, hm, o))) K158_6 rfl ⟨q1, q2, q3, q28, trivial⟩ ?_
    obtain ⟨r12, q29, e⟩ := zB_s e
    refine zF_blk (m := []) (d := 0) (b := B158_21) (gs := []) (c' := (175, [some (16, v0), some (11, v1), some (0, v2), some (0, v3), some (0, (h 386 v0 (wadd v3 1))), some (0, (h 386 v0 (wadd v3 2)))], [(0, 2), (0, v2), (11, v1)], (h, hm, o))) K158_21 rfl trivial ?_
    refine zF_call (k := 63) (cl := 1) (n := 3) (i := .invokevirtual 36) (args := [(11, v1), (0, v2), (0, 2)]) (rest := []) (g1 := (h, hm, o)) (r1 := some (0, r12)) (by decide +kernel) rfl rfl rfl (st' := [(0, r12)]) rfl (S63 (Nat.le_trans (by decide) hd) v1 v2 2 h _ q29) ?_
    obtain ⟨r13, q30, e⟩ := zB_s e
    refine zF_blk (m := []) (d := 0) (b := B158_22) (gs := []) (c' := (182, [some (16, v0), some (11, v1), some (0, v2), some (0, v3), some (0, (h 386 v0 (wadd v3 1))), some (0, (h 386 v0 (wadd v3 2)))], [(0, (h 386 v0 (wadd v3 2))), (0, (h 386 v0 (wadd v3 1))), (0, r12)], (h, hm, o))) K158_22 rfl trivial ?_
    refine zF_call (k := 159) (cl := 6) (n := 3) (i := .invokestatic 56) (args := [(0, r12), (0, (h 386 v0 (wadd v3 1))), (0, (h 386 v0 (wadd v3 2)))]) (rest := []) (g1 := (h, hm, o)) (r1 := some (0, r13)) (by decide +kernel) rfl rfl rfl (st' := [(0, r13)]) rfl (S159 (Nat.le_trans (by decide) hd) r12 (h 386 v0 (wadd v3 1)) (h 386 v0 (wadd v3 2)) h _ q30) ?_
    obtain ⟨q31, e⟩ := zG_s e
    obtain rfl := Option.some.inj e
    exact zF_rb (by decide +kernel) q31
  rcases zI_s e with ⟨q32, e⟩ | ⟨q32, e⟩
  · refine zF_blk (m := []) (d := 20) (b := B158_6) (gs := [0 ≤ (wadd v3 1) ∧ (wadd v3 1) < 120, 0 ≤ (wadd v3 2) ∧ (wadd v3 2) < 120, 0 ≤ v3 ∧ v3 < 120, (h 386 v0 v3) = 20]) (c' := (186, [some (16, v0), some (11, v1), some (0, v2), some (0, v3), some (0, (h 386 v0 (wadd v3 1))), some (0, (h 386 v0 (wadd v3 2)))], [], (h, hm, o))) K158_6 rfl ⟨q1, q2, q3, q32, trivial⟩ ?_
    obtain ⟨r14, q33, e⟩ := zB_s e
    refine zF_blk (m := []) (d := 0) (b := B158_23) (gs := []) (c' := (190, [some (16, v0), some (11, v1), some (0, v2), some (0, v3), some (0, (h 386 v0 (wadd v3 1))), some (0, (h 386 v0 (wadd v3 2)))], [(0, 6), (0, v2), (11, v1)], (h, hm, o))) K158_23 rfl trivial ?_
    refine zF_call (k := 63) (cl := 1) (n := 3) (i := .invokevirtual 36) (args := [(11, v1), (0, v2), (0, 6)]) (rest := []) (g1 := (h, hm, o)) (r1 := some (0, r14)) (by decide +kernel) rfl rfl rfl (st' := [(0, r14)]) rfl (S63 (Nat.le_trans (by decide) hd) v1 v2 6 h _ q33) ?_
    obtain ⟨r15, q34, e⟩ := zB_s e
    refine zF_blk (m := []) (d := 0) (b := B158_24) (gs := []) (c' := (197, [some (16, v0), some (11, v1), some (0, v2), some (0, v3), some (0, (h 386 v0 (wadd v3 1))), some (0, (h 386 v0 (wadd v3 2)))], [(0, (h 386 v0 (wadd v3 2))), (0, (h 386 v0 (wadd v3 1))), (0, r14)], (h, hm, o))) K158_24 rfl trivial ?_
    refine zF_call (k := 159) (cl := 6) (n := 3) (i := .invokestatic 56) (args := [(0, r14), (0, (h 386 v0 (wadd v3 1))), (0, (h 386 v0 (wadd v3 2)))]) (rest := []) (g1 := (h, hm, o)) (r1 := some (0, r15)) (by decide +kernel) rfl rfl rfl (st' := [(0, r15)]) rfl (S159 (Nat.le_trans (by decide) hd) r14 (h 386 v0 (wadd v3 1)) (h 386 v0 (wadd v3 2)) h _ q34) ?_
    obtain ⟨q35, e⟩ := zG_s e
    obtain rfl := Option.some.inj e
    exact zF_rb (by decide +kernel) q35
  obtain ⟨q36, e⟩ := zG_s e
  refine zF_blk (m := []) (d := 21) (b := B158_6) (gs := [0 ≤ (wadd v3 1) ∧ (wadd v3 1) < 120, 0 ≤ (wadd v3 2) ∧ (wadd v3 2) < 120, 0 ≤ v3 ∧ v3 < 120, (h 386 v0 v3) < 13 ∨ 20 < (h 386 v0 v3)]) (c' := (201, [some (16, v0), some (11, v1), some (0, v2), some (0, v3), some (0, (h 386 v0 (wadd v3 1))), some (0, (h 386 v0 (wadd v3 2)))], [], (h, hm, o))) K158_6 rfl ⟨q1, q2, q3, q36, trivial⟩ ?_
  refine zF_blk (m := []) (d := 0) (b := B158_25) (gs := []) (c' := (202, [some (16, v0), some (11, v1), some (0, v2), some (0, v3), some (0, (h 386 v0 (wadd v3 1))), some (0, (h 386 v0 (wadd v3 2)))], [(0, 0)], (h, hm, o))) K158_25 rfl trivial ?_
  obtain rfl := Option.some.inj e
  exact zF_rb (by decide +kernel) (Or.inl rfl)
def B157_0 : List zRow := [(0, .iconst 0, 1, (0, 0, 0)), (1, .istore_n 3, 1, (0, 0, 0)), (2, .iconst 0, 1, (0, 0, 0)), (3, .istore 4, 2, (0, 0, 0))]
theorem K157_0 : zRk 157 B157_0 = true := by decide +kernel
def B157_1 : List zRow := [(215, .iconst 0, 1, (0, 0, 0))]
theorem K157_1 : zRk 157 B157_1 = true := by decide +kernel
def B157_2 : List zRow := [(211, .iconst 1, 1, (0, 0, 0)), (212, .goto 4, 3, (0, 0, 0))]
theorem K157_2 : zRk 157 B157_2 = true := by decide +kernel
def B157_3 : List zRow := [(200, .aload_n 0, 1, (0, 0, 0)), (201, .getfield 15, 3, (6, 3, 5767330)), (204, .iload_n 3, 1, (0, 0, 0)), (205, .iconst 1, 1, (0, 0, 0)), (206, .isub, 1, (0, 0, 0)), (207, .baload, 1, (0, 0, 0)), (208, .ifCond .eq 7, 3, (0, 0, 0))]
theorem K157_3 : zRk 157 B157_3 = true := by decide +kernel
def B157_4 : List zRow := [(196, .iload_n 3, 1, (0, 0, 0)), (197, .ifCond .le 18, 3, (0, 0, 0))]
theorem K157_4 : zRk 157 B157_4 = true := by decide +kernel
def B157_5 : List zRow := [(58, .iconst 0, 1, (0, 0, 0))]
theorem K157_5 : zRk 157 B157_5 = true := by decide +kernel
def B157_6 : List zRow := [(54, .iconst 1, 1, (0, 0, 0)), (55, .goto 4, 3, (0, 0, 0))]
theorem K157_6 : zRk 157 B157_6 = true := by decide +kernel
def B157_7 : List zRow := [(36, .aload_n 0, 1, (0, 0, 0)), (37, .getfield 15, 3, (6, 3, 5767330)), (40, .iload_n 3, 1, (0, 0, 0)), (41, .iconst 1, 1, (0, 0, 0)), (42, .isub, 1, (0, 0, 0)), (43, .aload_n 0, 1, (0, 0, 0)), (44, .getfield 15, 3, (6, 3, 5767330)), (47, .iload_n 3, 1, (0, 0, 0)), (48, .iconst 1, 1, (0, 0, 0)), (49, .isub, 1, (0, 0, 0)), (50, .baload, 1, (0, 0, 0)), (51, .ifCond .ne 7, 3, (0, 0, 0))]
theorem K157_7 : zRk 157 B157_7 = true := by decide +kernel
def B157_8 : List zRow := [(32, .iload_n 3, 1, (0, 0, 0)), (33, .ifCond .le 30, 3, (0, 0, 0))]
theorem K157_8 : zRk 157 B157_8 = true := by decide +kernel
def B157_9 : List zRow := [(14, .aload_n 0, 1, (0, 0, 0)), (15, .getfield 9, 3, (6, 2, 5243362)), (18, .iload 4, 2, (0, 0, 0)), (20, .iconst 3, 1, (0, 0, 0)), (21, .imul, 1, (0, 0, 0)), (22, .iaload, 1, (0, 0, 0)), (23, .istore 5, 2, (0, 0, 0)), (25, .iload 5, 2, (0, 0, 0)), (27, .bipush 12, 2, (0, 0, 0)), (29, .if_icmp .ne 34, 3, (0, 0, 0))]
theorem K157_9 : zRk 157 B157_9 = true := by decide +kernel
def B157_10 : List zRow := [(5, .iload 4, 2, (0, 0, 0)), (7, .aload_n 0, 1, (0, 0, 0)), (8, .getfield 23, 3, (6, 1, 0)), (11, .if_icmp .ge 185, 3, (0, 0, 0))]
theorem K157_10 : zRk 157 B157_10 = true := by decide +kernel
def B157_11 : List zRow := [(59, .bastore, 1, (0, 0, 0)), (60, .goto 130, 3, (0, 0, 0))]
theorem K157_11 : zRk 157 B157_11 = true := by decide +kernel
def B157_12 : List zRow := [(190, .iinc 4 1, 3, (0, 0, 0)), (193, .goto (-188), 3, (0, 0, 0))]
theorem K157_12 : zRk 157 B157_12 = true := by decide +kernel
def B157_13 : List zRow := [(105, .iconst 1, 1, (0, 0, 0)), (106, .goto 4, 3, (0, 0, 0))]
theorem K157_13 : zRk 157 B157_13 = true := by decide +kernel
def B157_14 : List zRow := [(96, .aload_n 0, 1, (0, 0, 0)), (97, .getfield 15, 3, (6, 3, 5767330)), (100, .iload_n 3, 1, (0, 0, 0)), (101, .baload, 1, (0, 0, 0)), (102, .ifCond .eq 7, 3, (0, 0, 0))]
theorem K157_14 : zRk 157 B157_14 = true := by decide +kernel
def B157_15 : List zRow := [(75, .iinc 3 (-1), 3, (0, 0, 0)), (78, .aload_n 0, 1, (0, 0, 0)), (79, .getfield 15, 3, (6, 3, 5767330)), (82, .iload_n 3, 1, (0, 0, 0)), (83, .iconst 1, 1, (0, 0, 0)), (84, .isub, 1, (0, 0, 0)), (85, .aload_n 0, 1, (0, 0, 0)), (86, .getfield 15, 3, (6, 3, 5767330)), (89, .iload_n 3, 1, (0, 0, 0)), (90, .iconst 1, 1, (0, 0, 0)), (91, .isub, 1, (0, 0, 0)), (92, .baload, 1, (0, 0, 0)), (93, .ifCond .eq 16, 3, (0, 0, 0))]
theorem K157_15 : zRk 157 B157_15 = true := by decide +kernel
def B157_16 : List zRow := [(70, .iload_n 3, 1, (0, 0, 0)), (71, .iconst 1, 1, (0, 0, 0)), (72, .if_icmp .le 42, 3, (0, 0, 0))]
theorem K157_16 : zRk 157 B157_16 = true := by decide +kernel
def B157_17 : List zRow := [(63, .iload 5, 2, (0, 0, 0)), (65, .bipush 11, 2, (0, 0, 0)), (67, .if_icmp .ne 47, 3, (0, 0, 0))]
theorem K157_17 : zRk 157 B157_17 = true := by decide +kernel
def B157_18 : List zRow := [(110, .bastore, 1, (0, 0, 0)), (111, .goto 79, 3, (0, 0, 0))]
theorem K157_18 : zRk 157 B157_18 = true := by decide +kernel
def B157_19 : List zRow := [(109, .iconst 0, 1, (0, 0, 0))]
theorem K157_19 : zRk 157 B157_19 = true := by decide +kernel
def B157_20 : List zRow := [(160, .iconst 0, 1, (0, 0, 0))]
theorem K157_20 : zRk 157 B157_20 = true := by decide +kernel
def B157_21 : List zRow := [(147, .aload_n 0, 1, (0, 0, 0)), (148, .getfield 15, 3, (6, 3, 5767330)), (151, .iload_n 3, 1, (0, 0, 0)), (152, .baload, 1, (0, 0, 0)), (153, .ifCond .eq 7, 3, (0, 0, 0))]
theorem K157_21 : zRk 157 B157_21 = true := by decide +kernel
def B157_22 : List zRow := [(126, .iinc 3 (-1), 3, (0, 0, 0)), (129, .aload_n 0, 1, (0, 0, 0)), (130, .getfield 15, 3, (6, 3, 5767330)), (133, .iload_n 3, 1, (0, 0, 0)), (134, .iconst 1, 1, (0, 0, 0)), (135, .isub, 1, (0, 0, 0)), (136, .aload_n 0, 1, (0, 0, 0)), (137, .getfield 15, 3, (6, 3, 5767330)), (140, .iload_n 3, 1, (0, 0, 0)), (141, .iconst 1, 1, (0, 0, 0)), (142, .isub, 1, (0, 0, 0)), (143, .baload, 1, (0, 0, 0)), (144, .ifCond .ne 12, 3, (0, 0, 0))]
theorem K157_22 : zRk 157 B157_22 = true := by decide +kernel
def B157_23 : List zRow := [(121, .iload_n 3, 1, (0, 0, 0)), (122, .iconst 1, 1, (0, 0, 0)), (123, .if_icmp .le 42, 3, (0, 0, 0))]
theorem K157_23 : zRk 157 B157_23 = true := by decide +kernel
def B157_24 : List zRow := [(114, .iload 5, 2, (0, 0, 0)), (116, .bipush 10, 2, (0, 0, 0)), (118, .if_icmp .ne 47, 3, (0, 0, 0))]
theorem K157_24 : zRk 157 B157_24 = true := by decide +kernel
def B157_25 : List zRow := [(161, .bastore, 1, (0, 0, 0)), (162, .goto 28, 3, (0, 0, 0))]
theorem K157_25 : zRk 157 B157_25 = true := by decide +kernel
def B157_26 : List zRow := [(156, .iconst 1, 1, (0, 0, 0)), (157, .goto 4, 3, (0, 0, 0))]
theorem K157_26 : zRk 157 B157_26 = true := by decide +kernel
def B157_27 : List zRow := [(171, .aload_n 0, 1, (0, 0, 0)), (172, .getfield 15, 3, (6, 3, 5767330)), (175, .iload_n 3, 1, (0, 0, 0)), (176, .aload_n 0, 1, (0, 0, 0)), (177, .aload_n 1, 1, (0, 0, 0)), (178, .iload_n 2, 1, (0, 0, 0)), (179, .iload 4, 2, (0, 0, 0)), (181, .iconst 3, 1, (0, 0, 0)), (182, .imul, 1, (0, 0, 0))]
theorem K157_27 : zRk 157 B157_27 = true := by decide +kernel
def B157_28 : List zRow := [(186, .bastore, 1, (0, 0, 0)), (187, .iinc 3 1, 3, (0, 0, 0))]
theorem K157_28 : zRk 157 B157_28 = true := by decide +kernel
def B157_29 : List zRow := [(165, .iload_n 3, 1, (0, 0, 0)), (166, .bipush 40, 2, (0, 0, 0)), (168, .if_icmp .ge 22, 3, (0, 0, 0))]
theorem K157_29 : zRk 157 B157_29 = true := by decide +kernel
def F157_3 (k0 : Int → Int → Int → Int → Int → zHC → Option (Int × zHC)) (v0 : Int) (v1 : Int) (v2 : Int) (v3 : Int) (v4 : Int) (h : zHC) : Option (Int × zHC) := k0 v0 v1 v2 v3 (wadd v4 1) h
set_option maxRecDepth 100000 in
theorem T157_3 {spec : zRn zH2} {hm : zHM} {o : Int → Int} {d : Nat} (hd : 2 ≤ d) (k0 : Int → Int → Int → Int → Int → zHC → Option (Int × zHC)) (hk0 : ∀ (v0 : Int) (v1 : Int) (v2 : Int) (v3 : Int) (v4 : Int) (h : zHC) (v : (Int × zHC)), k0 v0 v1 v2 v3 v4 h = some v → zFin 0 (fun _ => 0) (zRu2 spec d) 157 (some (0, v.1)) (v.2, hm, o) (5, [some (16, v0), some (11, v1), some (0, v2), some (0, v3), some (0, v4), none], [], (h, hm, o))) (v0 : Int) (v1 : Int) (v2 : Int) (v3 : Int) (v4 : Int) (h : zHC) (v : (Int × zHC)) (e : F157_3 k0 v0 v1 v2 v3 v4 h = some v) : zFin 0 (fun _ => 0) (zRu2 spec d) 157 (some (0, v.1)) (v.2, hm, o) (190, [some (16, v0), some (11, v1), some (0, v2), some (0, v3), some (0, v4), none], [], (h, hm, o)) := by
  unfold F157_3 at e
  refine zF_blk (m := []) (d := 0) (b := B157_12) (gs := []) (c' := (5, [some (16, v0), some (11, v1), some (0, v2), some (0, v3), some (0, (wadd v4 1)), none], [], (h, hm, o))) K157_12 rfl trivial ?_
  exact hk0 v0 v1 v2 v3 (wadd v4 1) h _ e
def F157_7 (k0 : Int → Int → Int → Int → Int → zHC → Option (Int × zHC)) (v0 : Int) (v1 : Int) (v2 : Int) (v3 : Int) (v4 : Int) (h : zHC) : Option (Int × zHC) := if 40 ≤ v3 then F157_3 k0 v0 v1 v2 v3 v4 h else (F158 v0 v1 v2 (wmul v4 3) h).bind fun r1 => zG (0 ≤ v3 ∧ v3 < 40) (zG (r1 = 0 ∨ r1 = 1) (F157_3 k0 v0 v1 v2 (wadd v3 1) v4 (hset h 387 v0 v3 r1)))
set_option maxRecDepth 100000 in
theorem T157_7 {spec : zRn zH2} {hm : zHM} {o : Int → Int} {d : Nat} (hd : 2 ≤ d) (k0 : Int → Int → Int → Int → Int → zHC → Option (Int × zHC)) (hk0 : ∀ (v0 : Int) (v1 : Int) (v2 : Int) (v3 : Int) (v4 : Int) (h : zHC) (v : (Int × zHC)), k0 v0 v1 v2 v3 v4 h = some v → zFin 0 (fun _ => 0) (zRu2 spec d) 157 (some (0, v.1)) (v.2, hm, o) (5, [some (16, v0), some (11, v1), some (0, v2), some (0, v3), some (0, v4), none], [], (h, hm, o))) (v0 : Int) (v1 : Int) (v2 : Int) (v3 : Int) (v4 : Int) (h : zHC) (v : (Int × zHC)) (e : F157_7 k0 v0 v1 v2 v3 v4 h = some v) : zFin 0 (fun _ => 0) (zRu2 spec d) 157 (some (0, v.1)) (v.2, hm, o) (165, [some (16, v0), some (11, v1), some (0, v2), some (0, v3), some (0, v4), none], [], (h, hm, o)) := by
  unfold F157_7 at e
  rcases zI_s e with ⟨q1, e⟩ | ⟨q1, e⟩
  · refine zF_blk (m := []) (d := 1) (b := B157_29) (gs := [40 ≤ v3]) (c' := (190, [some (16, v0), some (11, v1), some (0, v2), some (0, v3), some (0, v4), none], [], (h, hm, o))) K157_29 rfl ⟨q1, trivial⟩ ?_
    exact T157_3 hd k0 hk0 v0 v1 v2 v3 v4 h _ e
  · refine zF_blk (m := []) (d := 0) (b := B157_29) (gs := [¬ (40 ≤ v3)]) (c' := (171, [some (16, v0), some (11, v1), some (0, v2), some (0, v3), some (0, v4), none], [], (h, hm, o))) K157_29 rfl ⟨q1, trivial⟩ ?_
    obtain ⟨r1, q2, e⟩ := zB_s e
    refine zF_blk (m := []) (d := 0) (b := B157_27) (gs := []) (c' := (183, [some (16, v0), some (11, v1), some (0, v2), some (0, v3), some (0, v4), none], [(0, (wmul v4 3)), (0, v2), (11, v1), (16, v0), (0, v3), (1476437355, v0)], (h, hm, o))) K157_27 rfl trivial ?_
    refine zF_call (k := 158) (cl := 6) (n := 4) (i := .invokevirtual 32) (args := [(16, v0), (11, v1), (0, v2), (0, (wmul v4 3))]) (rest := [(0, v3), (1476437355, v0)]) (g1 := (h, hm, o)) (r1 := some (0, r1)) (by decide +kernel) rfl rfl rfl (st' := [(0, r1), (0, v3), (1476437355, v0)]) rfl (S158 (Nat.le_trans (by decide) hd) v0 v1 v2 (wmul v4 3) h _ q2) ?_
    obtain ⟨q3, e⟩ := zG_s e
    obtain ⟨q4, e⟩ := zG_s e
    refine zF_blk (m := []) (d := 0) (b := B157_28) (gs := [0 ≤ v3 ∧ v3 < 40, r1 = 0 ∨ r1 = 1]) (c' := (190, [some (16, v0), some (11, v1), some (0, v2), some (0, (wadd v3 1)), some (0, v4), none], [], ((hset h 387 v0 v3 r1), hm, o))) K157_28 rfl ⟨q3, q4, trivial⟩ ?_
    exact T157_3 hd k0 hk0 v0 v1 v2 (wadd v3 1) v4 (hset h 387 v0 v3 r1) _ e
def F157_9 (k0 : Int → Int → Int → Int → Int → zHC → Option (Int × zHC)) (v0 : Int) (v1 : Int) (v2 : Int) (v3 : Int) (v4 : Int) (s0 : Int) (s1 : Int) (s2 : Int) (h : zHC) : Option (Int × zHC) := zG (0 ≤ s1 ∧ s1 < 40) (zG (s0 = 0 ∨ s0 = 1) (F157_3 k0 v0 v1 v2 v3 v4 (hset h 387 s2 s1 s0)))
set_option maxRecDepth 100000 in
theorem T157_9 {spec : zRn zH2} {hm : zHM} {o : Int → Int} {d : Nat} (hd : 2 ≤ d) (k0 : Int → Int → Int → Int → Int → zHC → Option (Int × zHC)) (hk0 : ∀ (v0 : Int) (v1 : Int) (v2 : Int) (v3 : Int) (v4 : Int) (h : zHC) (v : (Int × zHC)), k0 v0 v1 v2 v3 v4 h = some v → zFin 0 (fun _ => 0) (zRu2 spec d) 157 (some (0, v.1)) (v.2, hm, o) (5, [some (16, v0), some (11, v1), some (0, v2), some (0, v3), some (0, v4), none], [], (h, hm, o))) (v0 : Int) (v1 : Int) (v2 : Int) (v3 : Int) (v4 : Int) (s0 : Int) (s1 : Int) (s2 : Int) (h : zHC) (v : (Int × zHC)) (e : F157_9 k0 v0 v1 v2 v3 v4 s0 s1 s2 h = some v) : zFin 0 (fun _ => 0) (zRu2 spec d) 157 (some (0, v.1)) (v.2, hm, o) (161, [some (16, v0), some (11, v1), some (0, v2), some (0, v3), some (0, v4), none], [(0, s0), (0, s1), (1476437355, s2)], (h, hm, o)) := by
  unfold F157_9 at e
  obtain ⟨q1, e⟩ := zG_s e
  obtain ⟨q2, e⟩ := zG_s e
  refine zF_blk (m := []) (d := 0) (b := B157_25) (gs := [0 ≤ s1 ∧ s1 < 40, s0 = 0 ∨ s0 = 1]) (c' := (190, [some (16, v0), some (11, v1), some (0, v2), some (0, v3), some (0, v4), none], [], ((hset h 387 s2 s1 s0), hm, o))) K157_25 rfl ⟨q1, q2, trivial⟩ ?_
  exact T157_3 hd k0 hk0 v0 v1 v2 v3 v4 (hset h 387 s2 s1 s0) _ e
def F157_8 (k0 : Int → Int → Int → Int → Int → zHC → Option (Int × zHC)) (v0 : Int) (v1 : Int) (v2 : Int) (v3 : Int) (v4 : Int) (s0 : Int) (s1 : Int) (h : zHC) : Option (Int × zHC) := F157_9 k0 v0 v1 v2 v3 v4 1 s0 s1 h
set_option maxRecDepth 100000 in
theorem T157_8 {spec : zRn zH2} {hm : zHM} {o : Int → Int} {d : Nat} (hd : 2 ≤ d) (k0 : Int → Int → Int → Int → Int → zHC → Option (Int × zHC)) (hk0 : ∀ (v0 : Int) (v1 : Int) (v2 : Int) (v3 : Int) (v4 : Int) (h : zHC) (v : (Int × zHC)), k0 v0 v1 v2 v3 v4 h = some v → zFin 0 (fun _ => 0) (zRu2 spec d) 157 (some (0, v.1)) (v.2, hm, o) (5, [some (16, v0), some (11, v1), some (0, v2), some (0, v3), some (0, v4), none], [], (h, hm, o))) (v0 : Int) (v1 : Int) (v2 : Int) (v3 : Int) (v4 : Int) (s0 : Int) (s1 : Int) (h : zHC) (v : (Int × zHC)) (e : F157_8 k0 v0 v1 v2 v3 v4 s0 s1 h = some v) : zFin 0 (fun _ => 0) (zRu2 spec d) 157 (some (0, v.1)) (v.2, hm, o) (156, [some (16, v0), some (11, v1), some (0, v2), some (0, v3), some (0, v4), none], [(0, s0), (1476437355, s1)], (h, hm, o)) := by
  unfold F157_8 at e
  refine zF_blk (m := []) (d := 0) (b := B157_26) (gs := []) (c' := (161, [some (16, v0), some (11, v1), some (0, v2), some (0, v3), some (0, v4), none], [(0, 1), (0, s0), (1476437355, s1)], (h, hm, o))) K157_26 rfl trivial ?_
  exact T157_9 hd k0 hk0 v0 v1 v2 v3 v4 1 s0 s1 h _ e
def F157_4 (k0 : Int → Int → Int → Int → Int → zHC → Option (Int × zHC)) (v0 : Int) (v1 : Int) (v2 : Int) (v3 : Int) (v4 : Int) (v5 : Int) (h : zHC) : Option (Int × zHC) := if ¬ v5 = 10 then F157_7 k0 v0 v1 v2 v3 v4 h else if v3 ≤ 1 then F157_7 k0 v0 v1 v2 v3 v4 h else zG (0 ≤ (wsub (wadd v3 (-1)) 1) ∧ (wsub (wadd v3 (-1)) 1) < 40) (if ¬ (h 387 v0 (wsub (wadd v3 (-1)) 1)) = 0 then F157_8 k0 v0 v1 v2 (wadd v3 (-1)) v4 (wsub (wadd v3 (-1)) 1) v0 h else zG (0 ≤ (wadd v3 (-1)) ∧ (wadd v3 (-1)) < 40) (if (h 387 v0 (wadd v3 (-1))) = 0 then F157_9 k0 v0 v1 v2 (wadd v3 (-1)) v4 0 (wsub (wadd v3 (-1)) 1) v0 h else F157_8 k0 v0 v1 v2 (wadd v3 (-1)) v4 (wsub (wadd v3 (-1)) 1) v0 h))
set_option maxRecDepth 100000 in
theorem T157_4 {spec : zRn zH2} {hm : zHM} {o : Int → Int} {d : Nat} (hd : 2 ≤ d) (k0 : Int → Int → Int → Int → Int → zHC → Option (Int × zHC)) (hk0 : ∀ (v0 : Int) (v1 : Int) (v2 : Int) (v3 : Int) (v4 : Int) (h : zHC) (v : (Int × zHC)), k0 v0 v1 v2 v3 v4 h = some v → zFin 0 (fun _ => 0) (zRu2 spec d) 157 (some (0, v.1)) (v.2, hm, o) (5, [some (16, v0), some (11, v1), some (0, v2), some (0, v3), some (0, v4), none], [], (h, hm, o))) (v0 : Int) (v1 : Int) (v2 : Int) (v3 : Int) (v4 : Int) (v5 : Int) (h : zHC) (v : (Int × zHC)) (e : F157_4 k0 v0 v1 v2 v3 v4 v5 h = some v) : zFin 0 (fun _ => 0) (zRu2 spec d) 157 (some (0, v.1)) (v.2, hm, o) (114, [some (16, v0), some (11, v1), some (0, v2), some (0, v3), some (0, v4), some (0, v5)], [], (h, hm, o)) := by
  unfold F157_4 at e
  rcases zI_s e with ⟨q1, e⟩ | ⟨q1, e⟩
  · refine zF_blk (m := []) (d := 1) (b := B157_24) (gs := [¬ v5 = 10]) (c' := (165, [some (16, v0), some (11, v1), some (0, v2), some (0, v3), some (0, v4), some (0, v5)], [], (h, hm, o))) K157_24 rfl ⟨q1, trivial⟩ ?_
    refine zF_blk (m := [true, true, true, true, true, false]) (d := 0) (b := []) (gs := []) (c' := (165, [some (16, v0), some (11, v1), some (0, v2), some (0, v3), some (0, v4), none], [], (h, hm, o))) rfl rfl trivial ?_
    exact T157_7 hd k0 hk0 v0 v1 v2 v3 v4 h _ e
  · refine zF_blk (m := []) (d := 0) (b := B157_24) (gs := [¬ (¬ v5 = 10)]) (c' := (121, [some (16, v0), some (11, v1), some (0, v2), some (0, v3), some (0, v4), some (0, v5)], [], (h, hm, o))) K157_24 rfl ⟨q1, trivial⟩ ?_
    rcases zI_s e with ⟨q2, e⟩ | ⟨q2, e⟩
    · refine zF_blk (m := []) (d := 1) (b := B157_23) (gs := [v3 ≤ 1]) (c' := (165, [some (16, v0), some (11, v1), some (0, v2), some (0, v3), some (0, v4), some (0, v5)], [], (h, hm, o))) K157_23 rfl ⟨q2, trivial⟩ ?_
      refine zF_blk (m := [true, true, true, true, true, false]) (d := 0) (b := []) (gs := []) (c' := (165, [some (16, v0), some (11, v1), some (0, v2), some (0, v3), some (0, v4), none], [], (h, hm, o))) rfl rfl trivial ?_
      exact T157_7 hd k0 hk0 v0 v1 v2 v3 v4 h _ e
    · refine zF_blk (m := []) (d := 0) (b := B157_23) (gs := [¬ (v3 ≤ 1)]) (c' := (126, [some (16, v0), some (11, v1), some (0, v2), some (0, v3), some (0, v4), some (0, v5)], [], (h, hm, o))) K157_23 rfl ⟨q2, trivial⟩ ?_
      obtain ⟨q3, e⟩ := zG_s e
      rcases zI_s e with ⟨q4, e⟩ | ⟨q4, e⟩
      · refine zF_blk (m := []) (d := 1) (b := B157_22) (gs := [0 ≤ (wsub (wadd v3 (-1)) 1) ∧ (wsub (wadd v3 (-1)) 1) < 40, ¬ (h 387 v0 (wsub (wadd v3 (-1)) 1)) = 0]) (c' := (156, [some (16, v0), some (11, v1), some (0, v2), some (0, (wadd v3 (-1))), some (0, v4), some (0, v5)], [(0, (wsub (wadd v3 (-1)) 1)), (1476437355, v0)], (h, hm, o))) K157_22 rfl ⟨q3, q4, trivial⟩ ?_
        refine zF_blk (m := [true, true, true, true, true, false]) (d := 0) (b := []) (gs := []) (c' := (156, [some (16, v0), some (11, v1), some (0, v2), some (0, (wadd v3 (-1))), some (0, v4), none], [(0, (wsub (wadd v3 (-1)) 1)), (1476437355, v0)], (h, hm, o))) rfl rfl trivial ?_
        exact T157_8 hd k0 hk0 v0 v1 v2 (wadd v3 (-1)) v4 (wsub (wadd v3 (-1)) 1) v0 h _ e
      · refine zF_blk (m := []) (d := 0) (b := B157_22) (gs := [0 ≤ (wsub (wadd v3 (-1)) 1) ∧ (wsub (wadd v3 (-1)) 1) < 40, ¬ (¬ (h 387 v0 (wsub (wadd v3 (-1)) 1)) = 0)]) (c' := (147, [some (16, v0), some (11, v1), some (0, v2), some (0, (wadd v3 (-1))), some (0, v4), some (0, v5)], [(0, (wsub (wadd v3 (-1)) 1)), (1476437355, v0)], (h, hm, o))) K157_22 rfl ⟨q3, q4, trivial⟩ ?_
        obtain ⟨q5, e⟩ := zG_s e
        rcases zI_s e with ⟨q6, e⟩ | ⟨q6, e⟩
        · refine zF_blk (m := []) (d := 1) (b := B157_21) (gs := [0 ≤ (wadd v3 (-1)) ∧ (wadd v3 (-1)) < 40, (h 387 v0 (wadd v3 (-1))) = 0]) (c' := (160, [some (16, v0), some (11, v1), some (0, v2), some (0, (wadd v3 (-1))), some (0, v4), some (0, v5)], [(0, (wsub (wadd v3 (-1)) 1)), (1476437355, v0)], (h, hm, o))) K157_21 rfl ⟨q5, q6, trivial⟩ ?_
          refine zF_blk (m := []) (d := 0) (b := B157_20) (gs := []) (c' := (161, [some (16, v0), some (11, v1), some (0, v2), some (0, (wadd v3 (-1))), some (0, v4), some (0, v5)], [(0, 0), (0, (wsub (wadd v3 (-1)) 1)), (1476437355, v0)], (h, hm, o))) K157_20 rfl trivial ?_
          refine zF_blk (m := [true, true, true, true, true, false]) (d := 0) (b := []) (gs := []) (c' := (161, [some (16, v0), some (11, v1), some (0, v2), some (0, (wadd v3 (-1))), some (0, v4), none], [(0, 0), (0, (wsub (wadd v3 (-1)) 1)), (1476437355, v0)], (h, hm, o))) rfl rfl trivial ?_
          exact T157_9 hd k0 hk0 v0 v1 v2 (wadd v3 (-1)) v4 0 (wsub (wadd v3 (-1)) 1) v0 h _ e
        · refine zF_blk (m := []) (d := 0) (b := B157_21) (gs := [0 ≤ (wadd v3 (-1)) ∧ (wadd v3 (-1)) < 40, ¬ ((h 387 v0 (wadd v3 (-1))) = 0)]) (c' := (156, [some (16, v0), some (11, v1), some (0, v2), some (0, (wadd v3 (-1))), some (0, v4), some (0, v5)], [(0, (wsub (wadd v3 (-1)) 1)), (1476437355, v0)], (h, hm, o))) K157_21 rfl ⟨q5, q6, trivial⟩ ?_
          refine zF_blk (m := [true, true, true, true, true, false]) (d := 0) (b := []) (gs := []) (c' := (156, [some (16, v0), some (11, v1), some (0, v2), some (0, (wadd v3 (-1))), some (0, v4), none], [(0, (wsub (wadd v3 (-1)) 1)), (1476437355, v0)], (h, hm, o))) rfl rfl trivial ?_
          exact T157_8 hd k0 hk0 v0 v1 v2 (wadd v3 (-1)) v4 (wsub (wadd v3 (-1)) 1) v0 h _ e
def F157_6 (k0 : Int → Int → Int → Int → Int → zHC → Option (Int × zHC)) (v0 : Int) (v1 : Int) (v2 : Int) (v3 : Int) (v4 : Int) (s0 : Int) (s1 : Int) (s2 : Int) (h : zHC) : Option (Int × zHC) := zG (0 ≤ s1 ∧ s1 < 40) (zG (s0 = 0 ∨ s0 = 1) (F157_3 k0 v0 v1 v2 v3 v4 (hset h 387 s2 s1 s0)))
set_option maxRecDepth 100000 in
theorem T157_6 {spec : zRn zH2} {hm : zHM} {o : Int → Int} {d : Nat} (hd : 2 ≤ d) (k0 : Int → Int → Int → Int → Int → zHC → Option (Int × zHC)) (hk0 : ∀ (v0 : Int) (v1 : Int) (v2 : Int) (v3 : Int) (v4 : Int) (h : zHC) (v : (Int × zHC)), k0 v0 v1 v2 v3 v4 h = some v → zFin 0 (fun _ => 0) (zRu2 spec d) 157 (some (0, v.1)) (v.2, hm, o) (5, [some (16, v0), some (11, v1), some (0, v2), some (0, v3), some (0, v4), none], [], (h, hm, o))) (v0 : Int) (v1 : Int) (v2 : Int) (v3 : Int) (v4 : Int) (s0 : Int) (s1 : Int) (s2 : Int) (h : zHC) (v : (Int × zHC)) (e : F157_6 k0 v0 v1 v2 v3 v4 s0 s1 s2 h = some v) : zFin 0 (fun _ => 0) (zRu2 spec d) 157 (some (0, v.1)) (v.2, hm, o) (110, [some (16, v0), some (11, v1), some (0, v2), some (0, v3), some (0, v4), none], [(0, s0), (0, s1), (1476437355, s2)], (h, hm, o)) := by
  unfold F157_6 at e
  obtain ⟨q1, e⟩ := zG_s e
  obtain ⟨q2, e⟩ := zG_s e
  refine zF_blk (m := []) (d := 0) (b := B157_18) (gs := [0 ≤ s1 ∧ s1 < 40, s0 = 0 ∨ s0 = 1]) (c' := (190, [some (16, v0), some (11, v1), some (0, v2), some (0, v3), some (0, v4), none], [], ((hset h 387 s2 s1 s0), hm, o))) K157_18 rfl ⟨q1, q2, trivial⟩ ?_
  exact T157_3 hd k0 hk0 v0 v1 v2 v3 v4 (hset h 387 s2 s1 s0) _ e
def F157_5 (k0 : Int → Int → Int → Int → Int → zHC → Option (Int × zHC)) (v0 : Int) (v1 : Int) (v2 : Int) (v3 : Int) (v4 : Int) (s0 : Int) (s1 : Int) (h : zHC) : Option (Int × zHC) := F157_6 k0 v0 v1 v2 v3 v4 0 s0 s1 h
set_option maxRecDepth 100000 in
theorem T157_5 {spec : zRn zH2} {hm : zHM} {o : Int → Int} {d : Nat} (hd : 2 ≤ d) (k0 : Int → Int → Int → Int → Int → zHC → Option (Int × zHC)) (hk0 : ∀ (v0 : Int) (v1 : Int) (v2 : Int) (v3 : Int) (v4 : Int) (h : zHC) (v : (Int × zHC)), k0 v0 v1 v2 v3 v4 h = some v → zFin 0 (fun _ => 0) (zRu2 spec d) 157 (some (0, v.1)) (v.2, hm, o) (5, [some (16, v0), some (11, v1), some (0, v2), some (0, v3), some (0, v4), none], [], (h, hm, o))) (v0 : Int) (v1 : Int) (v2 : Int) (v3 : Int) (v4 : Int) (s0 : Int) (s1 : Int) (h : zHC) (v : (Int × zHC)) (e : F157_5 k0 v0 v1 v2 v3 v4 s0 s1 h = some v) : zFin 0 (fun _ => 0) (zRu2 spec d) 157 (some (0, v.1)) (v.2, hm, o) (109, [some (16, v0), some (11, v1), some (0, v2), some (0, v3), some (0, v4), none], [(0, s0), (1476437355, s1)], (h, hm, o)) := by
  unfold F157_5 at e
  refine zF_blk (m := []) (d := 0) (b := B157_19) (gs := []) (c' := (110, [some (16, v0), some (11, v1), some (0, v2), some (0, v3), some (0, v4), none], [(0, 0), (0, s0), (1476437355, s1)], (h, hm, o))) K157_19 rfl trivial ?_
  exact T157_6 hd k0 hk0 v0 v1 v2 v3 v4 0 s0 s1 h _ e
def F157_1 (k0 : Int → Int → Int → Int → Int → zHC → Option (Int × zHC)) (v0 : Int) (v1 : Int) (v2 : Int) (v3 : Int) (v4 : Int) (v5 : Int) (h : zHC) : Option (Int × zHC) := if ¬ v5 = 11 then F157_4 k0 v0 v1 v2 v3 v4 v5 h else if v3 ≤ 1 then F157_4 k0 v0 v1 v2 v3 v4 v5 h else zG (0 ≤ (wsub (wadd v3 (-1)) 1) ∧ (wsub (wadd v3 (-1)) 1) < 40) (if (h 387 v0 (wsub (wadd v3 (-1)) 1)) = 0 then F157_5 k0 v0 v1 v2 (wadd v3 (-1)) v4 (wsub (wadd v3 (-1)) 1) v0 h else zG (0 ≤ (wadd v3 (-1)) ∧ (wadd v3 (-1)) < 40) (if (h 387 v0 (wadd v3 (-1))) = 0 then F157_5 k0 v0 v1 v2 (wadd v3 (-1)) v4 (wsub (wadd v3 (-1)) 1) v0 h else F157_6 k0 v0 v1 v2 (wadd v3 (-1)) v4 1 (wsub (wadd v3 (-1)) 1) v0 h))
set_option maxRecDepth 100000 in
theorem T157_1 {spec : zRn zH2} {hm : zHM} {o : Int → Int} {d : Nat} (hd : 2 ≤ d) (k0 : Int → Int → Int → Int → Int → zHC → Option (Int × zHC)) (hk0 : ∀ (v0 : Int) (v1 : Int) (v2 : Int) (v3 : Int) (v4 : Int) (h : zHC) (v : (Int × zHC)), k0 v0 v1 v2 v3 v4 h = some v → zFin 0 (fun _ => 0) (zRu2 spec d) 157 (some (0, v.1)) (v.2, hm, o) (5, [some (16, v0), some (11, v1), some (0, v2), some (0, v3), some (0, v4), none], [], (h, hm, o))) (v0 : Int) (v1 : Int) (v2 : Int) (v3 : Int) (v4 : Int) (v5 : Int) (h : zHC) (v : (Int × zHC)) (e : F157_1 k0 v0 v1 v2 v3 v4 v5 h = some v) : zFin 0 (fun _ => 0) (zRu2 spec d) 157 (some (0, v.1)) (v.2, hm, o) (63, [some (16, v0), some (11, v1), some (0, v2), some (0, v3), some (0, v4), some (0, v5)], [], (h, hm, o)) := by
  unfold F157_1 at e
  rcases zI_s e with ⟨q1, e⟩ | ⟨q1, e⟩
  · refine zF_blk (m := []) (d := 1) (b := B157_17) (gs := [¬ v5 = 11]) (c' := (114, [some (16, v0), some (11, v1), some (0, v2), some (0, v3), some (0, v4), some (0, v5)], [], (h, hm, o))) K157_17 rfl ⟨q1, trivial⟩ ?_
    exact T157_4 hd k0 hk0 v0 v1 v2 v3 v4 v5 h _ e
  · refine zF_blk (m := []) (d := 0) (b := B157_17) (gs := [¬ (¬ v5 = 11)]) (c' := (70, [some (16, v0), some (11, v1), some (0, v2), some (0, v3), some (0, v4), some (0, v5)], [], (h, hm, o))) K157_17 rfl ⟨q1, trivial⟩ ?_
    rcases zI_s e with ⟨q2, e⟩ | ⟨q2, e⟩
    · refine zF_blk (m := []) (d := 1) (b := B157_16) (gs := [v3 ≤ 1]) (c' := (114, [some (16, v0), some (11, v1), some (0, v2), some (0, v3), some (0, v4), some (0, v5)], [], (h, hm, o))) K157_16 rfl ⟨q2, trivial⟩ ?_
      exact T157_4 hd k0 hk0 v0 v1 v2 v3 v4 v5 h _ e
    · refine zF_blk (m := []) (d := 0) (b := B157_16) (gs := [¬ (v3 ≤ 1)]) (c' := (75, [some (16, v0), some (11, v1), some (0, v2), some (0, v3), some (0, v4), some (0, v5)], [], (h, hm, o))) K157_16 rfl ⟨q2, trivial⟩ ?_
      obtain ⟨q3, e⟩ := zG_s e
      rcases zI_s e with ⟨q4, e⟩ | ⟨q4, e⟩
      · refine zF_blk (m := []) (d := 1) (b := B157_15) (gs := [0 ≤ (wsub (wadd v3 (-1)) 1) ∧ (wsub (wadd v3 (-1)) 1) < 40, (h 387 v0 (wsub (wadd v3 (-1)) 1)) = 0]) (c' := (109, [some (16, v0), some (11, v1), some (0, v2), some (0, (wadd v3 (-1))), some (0, v4), some (0, v5)], [(0, (wsub (wadd v3 (-1)) 1)), (1476437355, v0)], (h, hm, o))) K157_15 rfl ⟨q3, q4, trivial⟩ ?_
        refine zF_blk (m := [true, true, true, true, true, false]) (d := 0) (b := []) (gs := []) (c' := (109, [some (16, v0), some (11, v1), some (0, v2), some (0, (wadd v3 (-1))), some (0, v4), none], [(0, (wsub (wadd v3 (-1)) 1)), (1476437355, v0)], (h, hm, o))) rfl rfl trivial ?_
        exact T157_5 hd k0 hk0 v0 v1 v2 (wadd v3 (-1)) v4 (wsub (wadd v3 (-1)) 1) v0 h _ e
      · refine zF_blk (m := []) (d := 0) (b := B157_15) (gs := [0 ≤ (wsub (wadd v3 (-1)) 1) ∧ (wsub (wadd v3 (-1)) 1) < 40, ¬ ((h 387 v0 (wsub (wadd v3 (-1)) 1)) = 0)]) (c' := (96, [some (16, v0), some (11, v1), some (0, v2), some (0, (wadd v3 (-1))), some (0, v4), some (0, v5)], [(0, (wsub (wadd v3 (-1)) 1)), (1476437355, v0)], (h, hm, o))) K157_15 rfl ⟨q3, q4, trivial⟩ ?_
        obtain ⟨q5, e⟩ := zG_s e
        rcases zI_s e with ⟨q6, e⟩ | ⟨q6, e⟩
        · refine zF_blk (m := []) (d := 1) (b := B157_14) (gs := [0 ≤ (wadd v3 (-1)) ∧ (wadd v3 (-1)) < 40, (h 387 v0 (wadd v3 (-1))) = 0]) (c' := (109, [some (16, v0), some (11, v1), some (0, v2), some (0, (wadd v3 (-1))), some (0, v4), some (0, v5)], [(0, (wsub (wadd v3 (-1)) 1)), (1476437355, v0)], (h, hm, o))) K157_14 rfl ⟨q5, q6, trivial⟩ ?_
          refine zF_blk (m := [true, true, true, true, true, false]) (d := 0) (b := []) (gs := []) (c' := (109, [some (16, v0), some (11, v1), some (0, v2), some (0, (wadd v3 (-1))), some (0, v4), none], [(0, (wsub (wadd v3 (-1)) 1)), (1476437355, v0)], (h, hm, o))) rfl rfl trivial ?_
          exact T157_5 hd k0 hk0 v0 v1 v2 (wadd v3 (-1)) v4 (wsub (wadd v3 (-1)) 1) v0 h _ e
        · refine zF_blk (m := []) (d := 0) (b := B157_14) (gs := [0 ≤ (wadd v3 (-1)) ∧ (wadd v3 (-1)) < 40, ¬ ((h 387 v0 (wadd v3 (-1))) = 0)]) (c' := (105, [some (16, v0), some (11, v1), some (0, v2), some (0, (wadd v3 (-1))), some (0, v4), some (0, v5)], [(0, (wsub (wadd v3 (-1)) 1)), (1476437355, v0)], (h, hm, o))) K157_14 rfl ⟨q5, q6, trivial⟩ ?_
          refine zF_blk (m := []) (d := 0) (b := B157_13) (gs := []) (c' := (110, [some (16, v0), some (11, v1), some (0, v2), some (0, (wadd v3 (-1))), some (0, v4), some (0, v5)], [(0, 1), (0, (wsub (wadd v3 (-1)) 1)), (1476437355, v0)], (h, hm, o))) K157_13 rfl trivial ?_
          refine zF_blk (m := [true, true, true, true, true, false]) (d := 0) (b := []) (gs := []) (c' := (110, [some (16, v0), some (11, v1), some (0, v2), some (0, (wadd v3 (-1))), some (0, v4), none], [(0, 1), (0, (wsub (wadd v3 (-1)) 1)), (1476437355, v0)], (h, hm, o))) rfl rfl trivial ?_
          exact T157_6 hd k0 hk0 v0 v1 v2 (wadd v3 (-1)) v4 1 (wsub (wadd v3 (-1)) 1) v0 h _ e
def F157_2 (k0 : Int → Int → Int → Int → Int → zHC → Option (Int × zHC)) (v0 : Int) (v1 : Int) (v2 : Int) (v3 : Int) (v4 : Int) (s0 : Int) (s1 : Int) (s2 : Int) (h : zHC) : Option (Int × zHC) := zG (0 ≤ s1 ∧ s1 < 40) (zG (s0 = 0 ∨ s0 = 1) (F157_3 k0 v0 v1 v2 v3 v4 (hset h 387 s2 s1 s0)))
set_option maxRecDepth 100000 in
theorem T157_2 {spec : zRn zH2} {hm : zHM} {o : Int → Int} {d : Nat} (hd : 2 ≤ d) (k0 : Int → Int → Int → Int → Int → zHC → Option (Int × zHC)) (hk0 : ∀ (v0 : Int) (v1 : Int) (v2 : Int) (v3 : Int) (v4 : Int) (h : zHC) (v : (Int × zHC)), k0 v0 v1 v2 v3 v4 h = some v → zFin 0 (fun _ => 0) (zRu2 spec d) 157 (some (0, v.1)) (v.2, hm, o) (5, [some (16, v0), some (11, v1), some (0, v2), some (0, v3), some (0, v4), none], [], (h, hm, o))) (v0 : Int) (v1 : Int) (v2 : Int) (v3 : Int) (v4 : Int) (s0 : Int) (s1 : Int) (s2 : Int) (h : zHC) (v : (Int × zHC)) (e : F157_2 k0 v0 v1 v2 v3 v4 s0 s1 s2 h = some v) : zFin 0 (fun _ => 0) (zRu2 spec d) 157 (some (0, v.1)) (v.2, hm, o) (59, [some (16, v0), some (11, v1), some (0, v2), some (0, v3), some (0, v4), none], [(0, s0), (0, s1), (1476437355, s2)], (h, hm, o)) := by
  unfold F157_2 at e
  obtain ⟨q1, e⟩ := zG_s e
  obtain ⟨q2, e⟩ := zG_s e
  refine zF_blk (m := []) (d := 0) (b := B157_11) (gs := [0 ≤ s1 ∧ s1 < 40, s0 = 0 ∨ s0 = 1]) (c' := (190, [some (16, v0), some (11, v1), some (0, v2), some (0, v3), some (0, v4), none], [], ((hset h 387 s2 s1 s0), hm, o))) K157_11 rfl ⟨q1, q2, trivial⟩ ?_
  exact T157_3 hd k0 hk0 v0 v1 v2 v3 v4 (hset h 387 s2 s1 s0) _ e
def F157_0 : Nat → Int → Int → Int → Int → Int → zHC → Option (Int × zHC)
  | 0, _, _, _, _, _, _ => none
  | n + 1, v0, v1, v2, v3, v4, h => if (h 385 v0 0) ≤ v4 then if v3 ≤ 0 then some (0, h) else zG (0 ≤ (wsub v3 1) ∧ (wsub v3 1) < 40) (if (h 387 v0 (wsub v3 1)) = 0 then some (0, h) else some (1, h)) else zG (0 ≤ (wmul v4 3) ∧ (wmul v4 3) < 120) (if ¬ (h 386 v0 (wmul v4 3)) = 12 then F157_1 (F157_0 n) v0 v1 v2 v3 v4 (h 386 v0 (wmul v4 3)) h else if v3 ≤ 0 then F157_1 (F157_0 n) v0 v1 v2 v3 v4 (h 386 v0 (wmul v4 3)) h else zG (0 ≤ (wsub v3 1) ∧ (wsub v3 1) < 40) (if ¬ (h 387 v0 (wsub v3 1)) = 0 then F157_2 (F157_0 n) v0 v1 v2 v3 v4 0 (wsub v3 1) v0 h else F157_2 (F157_0 n) v0 v1 v2 v3 v4 1 (wsub v3 1) v0 h))
set_option maxRecDepth 100000 in
theorem T157_0 {spec : zRn zH2} {hm : zHM} {o : Int → Int} {d : Nat} (hd : 2 ≤ d) : ∀ (n : Nat) (v0 : Int) (v1 : Int) (v2 : Int) (v3 : Int) (v4 : Int) (h : zHC) (v : (Int × zHC)), F157_0 n v0 v1 v2 v3 v4 h = some v → zFin 0 (fun _ => 0) (zRu2 spec d) 157 (some (0, v.1)) (v.2, hm, o) (5, [some (16, v0), some (11, v1), some (0, v2), some (0, v3), some (0, v4), none], [], (h, hm, o)) := by
  intro n
  induction n with
  | zero => intro v0 v1 v2 v3 v4 h v e; unfold F157_0 at e; cases e
  | succ n hk0 =>
    intro v0 v1 v2 v3 v4 h v e
    unfold F157_0 at e
    rcases zI_s e with ⟨q1, e⟩ | ⟨q1, e⟩
    · refine zF_blk (m := []) (d := 1) (b := B157_10) (gs := [(h 385 v0 0) ≤ v4]) (c' := (196, [some (16, v0), some (11, v1), some (0, v2), some (0, v3), some (0, v4), none], [], (h, hm, o))) K157_10 rfl ⟨q1, trivial⟩ ?_
      rcases zI_s e with ⟨q2, e⟩ | ⟨q2, e⟩
      · refine zF_blk (m := []) (d := 1) (b := B157_4) (gs := [v3 ≤ 0]) (c' := (215, [some (16, v0), some (11, v1), some (0, v2), some (0, v3), some (0, v4), none], [], (h, hm, o))) K157_4 rfl ⟨q2, trivial⟩ ?_
        refine zF_blk (m := []) (d := 0) (b := B157_1) (gs := []) (c' := (216, [some (16, v0), some (11, v1), some (0, v2), some (0, v3), some (0, v4), none], [(0, 0)], (h, hm, o))) K157_1 rfl trivial ?_
        exact zF_rbC (by decide +kernel) (Or.inl rfl) e
      · refine zF_blk (m := []) (d := 0) (b := B157_4) (gs := [¬ (v3 ≤ 0)]) (c' := (200, [some (16, v0), some (11, v1), some (0, v2), some (0, v3), some (0, v4), none], [], (h, hm, o))) K157_4 rfl ⟨q2, trivial⟩ ?_
        obtain ⟨q3, e⟩ := zG_s e
        rcases zI_s e with ⟨q4, e⟩ | ⟨q4, e⟩
        · refine zF_blk (m := []) (d := 1) (b := B157_3) (gs := [0 ≤ (wsub v3 1) ∧ (wsub v3 1) < 40, (h 387 v0 (wsub v3 1)) = 0]) (c' := (215, [some (16, v0), some (11, v1), some (0, v2), some (0, v3), some (0, v4), none], [], (h, hm, o))) K157_3 rfl ⟨q3, q4, trivial⟩ ?_
          refine zF_blk (m := []) (d := 0) (b := B157_1) (gs := []) (c' := (216, [some (16, v0), some (11, v1), some (0, v2), some (0, v3), some (0, v4), none], [(0, 0)], (h, hm, o))) K157_1 rfl trivial ?_
          exact zF_rbC (by decide +kernel) (Or.inl rfl) e
        · refine zF_blk (m := []) (d := 0) (b := B157_3) (gs := [0 ≤ (wsub v3 1) ∧ (wsub v3 1) < 40, ¬ ((h 387 v0 (wsub v3 1)) = 0)]) (c' := (211, [some (16, v0), some (11, v1), some (0, v2), some (0, v3), some (0, v4), none], [], (h, hm, o))) K157_3 rfl ⟨q3, q4, trivial⟩ ?_
          refine zF_blk (m := []) (d := 0) (b := B157_2) (gs := []) (c' := (216, [some (16, v0), some (11, v1), some (0, v2), some (0, v3), some (0, v4), none], [(0, 1)], (h, hm, o))) K157_2 rfl trivial ?_
          exact zF_rbC (by decide +kernel) (Or.inr rfl) e
    · refine zF_blk (m := []) (d := 0) (b := B157_10) (gs := [¬ ((h 385 v0 0) ≤ v4)]) (c' := (14, [some (16, v0), some (11, v1), some (0, v2), some (0, v3), some (0, v4), none], [], (h, hm, o))) K157_10 rfl ⟨q1, trivial⟩ ?_
      obtain ⟨q5, e⟩ := zG_s e
      rcases zI_s e with ⟨q6, e⟩ | ⟨q6, e⟩
      · refine zF_blk (m := []) (d := 1) (b := B157_9) (gs := [0 ≤ (wmul v4 3) ∧ (wmul v4 3) < 120, ¬ (h 386 v0 (wmul v4 3)) = 12]) (c' := (63, [some (16, v0), some (11, v1), some (0, v2), some (0, v3), some (0, v4), some (0, (h 386 v0 (wmul v4 3)))], [], (h, hm, o))) K157_9 rfl ⟨q5, q6, trivial⟩ ?_
        exact T157_1 hd (F157_0 n) hk0 v0 v1 v2 v3 v4 (h 386 v0 (wmul v4 3)) h _ e
      · refine zF_blk (m := []) (d := 0) (b := B157_9) (gs := [0 ≤ (wmul v4 3) ∧ (wmul v4 3) < 120, ¬ (¬ (h 386 v0 (wmul v4 3)) = 12)]) (c' := (32, [some (16, v0), some (11, v1), some (0, v2), some (0, v3), some (0, v4), some (0, (h 386 v0 (wmul v4 3)))], [], (h, hm, o))) K157_9 rfl ⟨q5, q6, trivial⟩ ?_
        rcases zI_s e with ⟨q7, e⟩ | ⟨q7, e⟩
        · refine zF_blk (m := []) (d := 1) (b := B157_8) (gs := [v3 ≤ 0]) (c' := (63, [some (16, v0), some (11, v1), some (0, v2), some (0, v3), some (0, v4), some (0, (h 386 v0 (wmul v4 3)))], [], (h, hm, o))) K157_8 rfl ⟨q7, trivial⟩ ?_
          exact T157_1 hd (F157_0 n) hk0 v0 v1 v2 v3 v4 (h 386 v0 (wmul v4 3)) h _ e
        · refine zF_blk (m := []) (d := 0) (b := B157_8) (gs := [¬ (v3 ≤ 0)]) (c' := (36, [some (16, v0), some (11, v1), some (0, v2), some (0, v3), some (0, v4), some (0, (h 386 v0 (wmul v4 3)))], [], (h, hm, o))) K157_8 rfl ⟨q7, trivial⟩ ?_
          obtain ⟨q8, e⟩ := zG_s e
          rcases zI_s e with ⟨q9, e⟩ | ⟨q9, e⟩
          · refine zF_blk (m := []) (d := 1) (b := B157_7) (gs := [0 ≤ (wsub v3 1) ∧ (wsub v3 1) < 40, ¬ (h 387 v0 (wsub v3 1)) = 0]) (c' := (58, [some (16, v0), some (11, v1), some (0, v2), some (0, v3), some (0, v4), some (0, (h 386 v0 (wmul v4 3)))], [(0, (wsub v3 1)), (1476437355, v0)], (h, hm, o))) K157_7 rfl ⟨q8, q9, trivial⟩ ?_
            refine zF_blk (m := []) (d := 0) (b := B157_5) (gs := []) (c' := (59, [some (16, v0), some (11, v1), some (0, v2), some (0, v3), some (0, v4), some (0, (h 386 v0 (wmul v4 3)))], [(0, 0), (0, (wsub v3 1)), (1476437355, v0)], (h, hm, o))) K157_5 rfl trivial ?_
            refine zF_blk (m := [true, true, true, true, true, false]) (d := 0) (b := []) (gs := []) (c' := (59, [some (16, v0), some (11, v1), some (0, v2), some (0, v3), some (0, v4), none], [(0, 0), (0, (wsub v3 1)), (1476437355, v0)], (h, hm, o))) rfl rfl trivial ?_
            exact T157_2 hd (F157_0 n) hk0 v0 v1 v2 v3 v4 0 (wsub v3 1) v0 h _ e
          · refine zF_blk (m := []) (d := 0) (b := B157_7) (gs := [0 ≤ (wsub v3 1) ∧ (wsub v3 1) < 40, ¬ (¬ (h 387 v0 (wsub v3 1)) = 0)]) (c' := (54, [some (16, v0), some (11, v1), some (0, v2), some (0, v3), some (0, v4), some (0, (h 386 v0 (wmul v4 3)))], [(0, (wsub v3 1)), (1476437355, v0)], (h, hm, o))) K157_7 rfl ⟨q8, q9, trivial⟩ ?_
            refine zF_blk (m := []) (d := 0) (b := B157_6) (gs := []) (c' := (59, [some (16, v0), some (11, v1), some (0, v2), some (0, v3), some (0, v4), some (0, (h 386 v0 (wmul v4 3)))], [(0, 1), (0, (wsub v3 1)), (1476437355, v0)], (h, hm, o))) K157_6 rfl trivial ?_
            refine zF_blk (m := [true, true, true, true, true, false]) (d := 0) (b := []) (gs := []) (c' := (59, [some (16, v0), some (11, v1), some (0, v2), some (0, v3), some (0, v4), none], [(0, 1), (0, (wsub v3 1)), (1476437355, v0)], (h, hm, o))) rfl rfl trivial ?_
            exact T157_2 hd (F157_0 n) hk0 v0 v1 v2 v3 v4 1 (wsub v3 1) v0 h _ e
/-- EchoVale$Sentence.holds(LEchoVale$Course;I)Z -/
def F157 (v0 : Int) (v1 : Int) (v2 : Int) (h : zHC) : Option (Int × zHC) := F157_0 zFu v0 v1 v2 0 0 h
set_option maxRecDepth 100000 in
theorem S157 {spec : zRn zH2} {hm : zHM} {o : Int → Int} {d : Nat} (hd : 3 ≤ d) (v0 : Int) (v1 : Int) (v2 : Int) (h : zHC) (v : (Int × zHC)) (e : F157 v0 v1 v2 h = some v) : zRu2 spec d 157 [(16, v0), (11, v1), (0, v2)] (h, hm, o) (some (0, v.1)) (v.2, hm, o) := by
  refine zF_in (D := 2) (mx := 6) (L := [some (16, v0), some (11, v1), some (0, v2), none, none, none]) (by decide +kernel) rfl rfl hd (fun d hd => ?_)
  unfold F157 at e
  refine zF_blk (m := []) (d := 0) (b := B157_0) (gs := []) (c' := (5, [some (16, v0), some (11, v1), some (0, v2), some (0, 0), some (0, 0), none], [], (h, hm, o))) K157_0 rfl trivial ?_
  exact T157_0 hd zFu v0 v1 v2 0 0 h _ e
