/-! Functions of the methods, by wip/gen/lift.py. -/
noncomputable def B159_0 : List zRow := [(45, .iconst 0, 1, (0, 0, 0))]
theorem K159_0 : zRk 159 B159_0 = true := zRw_ok (by decide +kernel)
noncomputable def B159_1 : List zRow := [(41, .iconst 1, 1, (0, 0, 0)), (42, .goto 4, 3, (0, 0, 0))]
theorem K159_1 : zRk 159 B159_1 = true := zRw_ok (by decide +kernel)
noncomputable def B159_2 : List zRow := [(36, .iload_n 0, 1, (0, 0, 0)), (37, .iload_n 2, 1, (0, 0, 0)), (38, .if_icmp .ne 7, 3, (0, 0, 0))]
theorem K159_2 : zRk 159 B159_2 = true := zRw_ok (by decide +kernel)
noncomputable def B159_3 : List zRow := [(32, .iconst 0, 1, (0, 0, 0)), (33, .goto 13, 3, (0, 0, 0))]
theorem K159_3 : zRk 159 B159_3 = true := zRw_ok (by decide +kernel)
noncomputable def B159_4 : List zRow := [(28, .iconst 1, 1, (0, 0, 0)), (29, .goto 17, 3, (0, 0, 0))]
theorem K159_4 : zRk 159 B159_4 = true := zRw_ok (by decide +kernel)
noncomputable def B159_5 : List zRow := [(23, .iload_n 0, 1, (0, 0, 0)), (24, .iload_n 2, 1, (0, 0, 0)), (25, .if_icmp .le 7, 3, (0, 0, 0))]
theorem K159_5 : zRk 159 B159_5 = true := zRw_ok (by decide +kernel)
noncomputable def B159_6 : List zRow := [(17, .iload_n 1, 1, (0, 0, 0)), (18, .bipush 62, 2, (0, 0, 0)), (20, .if_icmp .ne 16, 3, (0, 0, 0))]
theorem K159_6 : zRk 159 B159_6 = true := zRw_ok (by decide +kernel)
noncomputable def B159_7 : List zRow := [(15, .iconst 0, 1, (0, 0, 0))]
theorem K159_7 : zRk 159 B159_7 = true := zRw_ok (by decide +kernel)
noncomputable def B159_8 : List zRow := [(11, .iconst 1, 1, (0, 0, 0)), (12, .goto 4, 3, (0, 0, 0))]
theorem K159_8 : zRk 159 B159_8 = true := zRw_ok (by decide +kernel)
noncomputable def B159_9 : List zRow := [(6, .iload_n 0, 1, (0, 0, 0)), (7, .iload_n 2, 1, (0, 0, 0)), (8, .if_icmp .ge 7, 3, (0, 0, 0))]
theorem K159_9 : zRk 159 B159_9 = true := zRw_ok (by decide +kernel)
noncomputable def B159_10 : List zRow := [(0, .iload_n 1, 1, (0, 0, 0)), (1, .bipush 60, 2, (0, 0, 0)), (3, .if_icmp .ne 14, 3, (0, 0, 0))]
theorem K159_10 : zRk 159 B159_10 = true := zRw_ok (by decide +kernel)
/-- EchoVale$Sentence.compares(III)Z -/
def F159 (v0 : Int) (v1 : Int) (v2 : Int) : Option Int := if ¬ v1 = 60 then if ¬ v1 = 62 then if ¬ v0 = v2 then some 0 else some 1 else if v0 ≤ v2 then some 0 else some 1 else if v2 ≤ v0 then some 0 else some 1
set_option maxRecDepth 100000 in
theorem S159 {spec : zRn zH2} {hm : zHM} {o : Int → Int} {d : Nat} (hd : 1 ≤ d) (v0 : Int) (v1 : Int) (v2 : Int) (h : zHC) (v : Int) (e : F159 v0 v1 v2 = some v) : zRu2 spec d 159 [(0, v0), (0, v1), (0, v2)] (h, hm, o) (some (0, v)) (h, hm, o) := by
  refine zF_in (D := 0) (mx := 3) (L := [some (0, v0), some (0, v1), some (0, v2)]) (by decide +kernel) rfl rfl hd (fun d hd => ?_)
  unfold F159 at e
  rcases zI_s e with ⟨q1, e⟩ | ⟨q1, e⟩
  · refine zF_blk (m := []) (d := 1) (b := B159_10) (gs := [¬ v1 = 60]) (c' := (17, [some (0, v0), some (0, v1), some (0, v2)], [], (h, hm, o))) K159_10 rfl ⟨q1, trivial⟩ ?_
    rcases zI_s e with ⟨q2, e⟩ | ⟨q2, e⟩
    · refine zF_blk (m := []) (d := 1) (b := B159_6) (gs := [¬ v1 = 62]) (c' := (36, [some (0, v0), some (0, v1), some (0, v2)], [], (h, hm, o))) K159_6 rfl ⟨q2, trivial⟩ ?_
      rcases zI_s e with ⟨q3, e⟩ | ⟨q3, e⟩
      · refine zF_blk (m := []) (d := 1) (b := B159_2) (gs := [¬ v0 = v2]) (c' := (45, [some (0, v0), some (0, v1), some (0, v2)], [], (h, hm, o))) K159_2 rfl ⟨q3, trivial⟩ ?_
        refine zF_blk (m := []) (d := 0) (b := B159_0) (gs := []) (c' := (46, [some (0, v0), some (0, v1), some (0, v2)], [(0, 0)], (h, hm, o))) K159_0 rfl trivial ?_
        obtain rfl := Option.some.inj e
        exact zF_rb (zRe1_w (by decide +kernel)) (Or.inl rfl)
      · refine zF_blk (m := []) (d := 0) (b := B159_2) (gs := [¬ (¬ v0 = v2)]) (c' := (41, [some (0, v0), some (0, v1), some (0, v2)], [], (h, hm, o))) K159_2 rfl ⟨q3, trivial⟩ ?_
        refine zF_blk (m := []) (d := 0) (b := B159_1) (gs := []) (c' := (46, [some (0, v0), some (0, v1), some (0, v2)], [(0, 1)], (h, hm, o))) K159_1 rfl trivial ?_
        obtain rfl := Option.some.inj e
        exact zF_rb (zRe1_w (by decide +kernel)) (Or.inr rfl)
    · refine zF_blk (m := []) (d := 0) (b := B159_6) (gs := [¬ (¬ v1 = 62)]) (c' := (23, [some (0, v0), some (0, v1), some (0, v2)], [], (h, hm, o))) K159_6 rfl ⟨q2, trivial⟩ ?_
      rcases zI_s e with ⟨q4, e⟩ | ⟨q4, e⟩
      · refine zF_blk (m := []) (d := 1) (b := B159_5) (gs := [v0 ≤ v2]) (c' := (32, [some (0, v0), some (0, v1), some (0, v2)], [], (h, hm, o))) K159_5 rfl ⟨q4, trivial⟩ ?_
        refine zF_blk (m := []) (d := 0) (b := B159_3) (gs := []) (c' := (46, [some (0, v0), some (0, v1), some (0, v2)], [(0, 0)], (h, hm, o))) K159_3 rfl trivial ?_
        obtain rfl := Option.some.inj e
        exact zF_rb (zRe1_w (by decide +kernel)) (Or.inl rfl)
      · refine zF_blk (m := []) (d := 0) (b := B159_5) (gs := [¬ (v0 ≤ v2)]) (c' := (28, [some (0, v0), some (0, v1), some (0, v2)], [], (h, hm, o))) K159_5 rfl ⟨q4, trivial⟩ ?_
        refine zF_blk (m := []) (d := 0) (b := B159_4) (gs := []) (c' := (46, [some (0, v0), some (0, v1), some (0, v2)], [(0, 1)], (h, hm, o))) K159_4 rfl trivial ?_
        obtain rfl := Option.some.inj e
        exact zF_rb (zRe1_w (by decide +kernel)) (Or.inr rfl)
  · refine zF_blk (m := []) (d := 0) (b := B159_10) (gs := [¬ (¬ v1 = 60)]) (c' := (6, [some (0, v0), some (0, v1), some (0, v2)], [], (h, hm, o))) K159_10 rfl ⟨q1, trivial⟩ ?_
    rcases zI_s e with ⟨q5, e⟩ | ⟨q5, e⟩
    · refine zF_blk (m := []) (d := 1) (b := B159_9) (gs := [v2 ≤ v0]) (c' := (15, [some (0, v0), some (0, v1), some (0, v2)], [], (h, hm, o))) K159_9 rfl ⟨q5, trivial⟩ ?_
      refine zF_blk (m := []) (d := 0) (b := B159_7) (gs := []) (c' := (16, [some (0, v0), some (0, v1), some (0, v2)], [(0, 0)], (h, hm, o))) K159_7 rfl trivial ?_
      obtain rfl := Option.some.inj e
      exact zF_rb (zRe1_w (by decide +kernel)) (Or.inl rfl)
    · refine zF_blk (m := []) (d := 0) (b := B159_9) (gs := [¬ (v2 ≤ v0)]) (c' := (11, [some (0, v0), some (0, v1), some (0, v2)], [], (h, hm, o))) K159_9 rfl ⟨q5, trivial⟩ ?_
      refine zF_blk (m := []) (d := 0) (b := B159_8) (gs := []) (c' := (16, [some (0, v0), some (0, v1), some (0, v2)], [(0, 1)], (h, hm, o))) K159_8 rfl trivial ?_
      obtain rfl := Option.some.inj e
      exact zF_rb (zRe1_w (by decide +kernel)) (Or.inr rfl)
noncomputable def B158_0 : List zRow := [(72, .aload_n 1, 1, (0, 0, 0)), (73, .iload_n 2, 1, (0, 0, 0)), (74, .bipush 6, 2, (0, 0, 0))]
theorem K158_0 : zRk 158 B158_0 = true := zRw_ok (by decide +kernel)
noncomputable def B158_1 : List zRow := [(94, .iconst 0, 1, (0, 0, 0))]
theorem K158_1 : zRk 158 B158_1 = true := zRw_ok (by decide +kernel)
noncomputable def B158_2 : List zRow := [(82, .aload_n 1, 1, (0, 0, 0)), (83, .iload_n 2, 1, (0, 0, 0))]
theorem K158_2 : zRk 158 B158_2 = true := zRw_ok (by decide +kernel)
noncomputable def B158_3 : List zRow := [(90, .iconst 1, 1, (0, 0, 0)), (91, .goto 4, 3, (0, 0, 0))]
theorem K158_3 : zRk 158 B158_3 = true := zRw_ok (by decide +kernel)
noncomputable def B158_4 : List zRow := [(87, .ifCond .ne 7, 3, (0, 0, 0))]
theorem K158_4 : zRk 158 B158_4 = true := zRw_ok (by decide +kernel)
noncomputable def B158_5 : List zRow := [(79, .ifCond .ne 15, 3, (0, 0, 0))]
theorem K158_5 : zRk 158 B158_5 = true := zRw_ok (by decide +kernel)
noncomputable def B158_6 : List zRow := [(0, .aload_n 0, 1, (0, 0, 0)), (1, .getfield 9, 3, (6, 2, 5243362)), (4, .iload_n 3, 1, (0, 0, 0)), (5, .iconst 1, 1, (0, 0, 0)), (6, .iadd, 1, (0, 0, 0)), (7, .iaload, 1, (0, 0, 0)), (8, .istore 4, 2, (0, 0, 0)), (10, .aload_n 0, 1, (0, 0, 0)), (11, .getfield 9, 3, (6, 2, 5243362)), (14, .iload_n 3, 1, (0, 0, 0)), (15, .iconst 2, 1, (0, 0, 0)), (16, .iadd, 1, (0, 0, 0)), (17, .iaload, 1, (0, 0, 0)), (18, .istore 5, 2, (0, 0, 0)), (20, .aload_n 0, 1, (0, 0, 0)), (21, .getfield 9, 3, (6, 2, 5243362)), (24, .iload_n 3, 1, (0, 0, 0)), (25, .iaload, 1, (0, 0, 0)), (26, .tableswitch 175 13 20 #[46, 70, 89, 101, 118, 132, 146, 160], 46, (0, 0, 0))]
theorem K158_6 : zRk 158 B158_6 = true := by decide +kernel
noncomputable def B158_7 : List zRow := [(96, .aload_n 1, 1, (0, 0, 0)), (97, .iload_n 2, 1, (0, 0, 0)), (98, .iconst 5, 1, (0, 0, 0))]
theorem K158_7 : zRk 158 B158_7 = true := zRw_ok (by decide +kernel)
noncomputable def B158_8 : List zRow := [(113, .iconst 0, 1, (0, 0, 0))]
theorem K158_8 : zRk 158 B158_8 = true := zRw_ok (by decide +kernel)
noncomputable def B158_9 : List zRow := [(109, .iconst 1, 1, (0, 0, 0)), (110, .goto 4, 3, (0, 0, 0))]
theorem K158_9 : zRk 158 B158_9 = true := zRw_ok (by decide +kernel)
noncomputable def B158_10 : List zRow := [(105, .iconst 1, 1, (0, 0, 0)), (106, .if_icmp .le 7, 3, (0, 0, 0))]
theorem K158_10 : zRk 158 B158_10 = true := zRw_ok (by decide +kernel)
noncomputable def B158_11 : List zRow := [(115, .aload_n 1, 1, (0, 0, 0)), (116, .iload_n 2, 1, (0, 0, 0)), (117, .iconst 5, 1, (0, 0, 0))]
theorem K158_11 : zRk 158 B158_11 = true := zRw_ok (by decide +kernel)
noncomputable def B158_12 : List zRow := [(121, .iload 5, 2, (0, 0, 0))]
theorem K158_12 : zRk 158 B158_12 = true := zRw_ok (by decide +kernel)
noncomputable def B158_13 : List zRow := [(127, .aload_n 1, 1, (0, 0, 0)), (128, .iload_n 2, 1, (0, 0, 0)), (129, .iconst 1, 1, (0, 0, 0))]
theorem K158_13 : zRk 158 B158_13 = true := zRw_ok (by decide +kernel)
noncomputable def B158_14 : List zRow := [(142, .iconst 0, 1, (0, 0, 0))]
theorem K158_14 : zRk 158 B158_14 = true := zRw_ok (by decide +kernel)
noncomputable def B158_15 : List zRow := [(138, .iconst 1, 1, (0, 0, 0)), (139, .goto 4, 3, (0, 0, 0))]
theorem K158_15 : zRk 158 B158_15 = true := zRw_ok (by decide +kernel)
noncomputable def B158_16 : List zRow := [(133, .iload 5, 2, (0, 0, 0)), (135, .if_icmp .ne 7, 3, (0, 0, 0))]
theorem K158_16 : zRk 158 B158_16 = true := zRw_ok (by decide +kernel)
noncomputable def B158_17 : List zRow := [(144, .aload_n 1, 1, (0, 0, 0)), (145, .iload_n 2, 1, (0, 0, 0)), (146, .iconst 0, 1, (0, 0, 0))]
theorem K158_17 : zRk 158 B158_17 = true := zRw_ok (by decide +kernel)
noncomputable def B158_18 : List zRow := [(150, .iload 4, 2, (0, 0, 0)), (152, .iload 5, 2, (0, 0, 0))]
theorem K158_18 : zRk 158 B158_18 = true := zRw_ok (by decide +kernel)
noncomputable def B158_19 : List zRow := [(158, .aload_n 1, 1, (0, 0, 0)), (159, .iload_n 2, 1, (0, 0, 0)), (160, .iconst 4, 1, (0, 0, 0))]
theorem K158_19 : zRk 158 B158_19 = true := zRw_ok (by decide +kernel)
noncomputable def B158_20 : List zRow := [(164, .iload 4, 2, (0, 0, 0)), (166, .iload 5, 2, (0, 0, 0))]
theorem K158_20 : zRk 158 B158_20 = true := zRw_ok (by decide +kernel)
noncomputable def B158_21 : List zRow := [(172, .aload_n 1, 1, (0, 0, 0)), (173, .iload_n 2, 1, (0, 0, 0)), (174, .iconst 2, 1, (0, 0, 0))]
theorem K158_21 : zRk 158 B158_21 = true := zRw_ok (by decide +kernel)
noncomputable def B158_22 : List zRow := [(178, .iload 4, 2, (0, 0, 0)), (180, .iload 5, 2, (0, 0, 0))]
theorem K158_22 : zRk 158 B158_22 = true := zRw_ok (by decide +kernel)
noncomputable def B158_23 : List zRow := [(186, .aload_n 1, 1, (0, 0, 0)), (187, .iload_n 2, 1, (0, 0, 0)), (188, .bipush 6, 2, (0, 0, 0))]
theorem K158_23 : zRk 158 B158_23 = true := zRw_ok (by decide +kernel)
noncomputable def B158_24 : List zRow := [(193, .iload 4, 2, (0, 0, 0)), (195, .iload 5, 2, (0, 0, 0))]
theorem K158_24 : zRk 158 B158_24 = true := zRw_ok (by decide +kernel)
noncomputable def B158_25 : List zRow := [(201, .iconst 0, 1, (0, 0, 0))]
theorem K158_25 : zRk 158 B158_25 = true := zRw_ok (by decide +kernel)
/-- EchoVale$Sentence.isSo(LEchoVale$Course;II)Z -/
def F158 (v0 : Int) (v1 : Int) (v2 : Int) (v3 : Int) (h : zHC) : Option Int := zG (0 ≤ (wadd v3 1) ∧ (wadd v3 1) < 120) (zG (0 ≤ (wadd v3 2) ∧ (wadd v3 2) < 120) (zG (0 ≤ v3 ∧ v3 < 120) (if (h 386 v0 v3) = 13 then (F63 v1 v2 6 h).bind fun r1 => if ¬ r1 = 0 then some 0 else (F125 v1 v2 h).bind fun r2 => if ¬ r2 = 0 then some 0 else some 1 else if (h 386 v0 v3) = 14 then (F63 v1 v2 5 h).bind fun r3 => (F64 r3).bind fun r4 => if r4 ≤ 1 then some 0 else some 1 else if (h 386 v0 v3) = 15 then (F63 v1 v2 5 h).bind fun r5 => (F65 r5 (h 386 v0 (wadd v3 2))).bind fun r6 => zG (r6 = 0 ∨ r6 = 1) (some r6) else if (h 386 v0 v3) = 16 then (F63 v1 v2 1 h).bind fun r7 => if ¬ r7 = (h 386 v0 (wadd v3 2)) then some 0 else some 1 else if (h 386 v0 v3) = 17 then (F63 v1 v2 0 h).bind fun r8 => (F159 r8 (h 386 v0 (wadd v3 1)) (h 386 v0 (wadd v3 2))).bind fun r9 => zG (r9 = 0 ∨ r9 = 1) (some r9) else if (h 386 v0 v3) = 18 then (F63 v1 v2 4 h).bind fun r10 => (F159 r10 (h 386 v0 (wadd v3 1)) (h 386 v0 (wadd v3 2))).bind fun r11 => zG (r11 = 0 ∨ r11 = 1) (some r11) else if (h 386 v0 v3) = 19 then (F63 v1 v2 2 h).bind fun r12 => (F159 r12 (h 386 v0 (wadd v3 1)) (h 386 v0 (wadd v3 2))).bind fun r13 => zG (r13 = 0 ∨ r13 = 1) (some r13) else if (h 386 v0 v3) = 20 then (F63 v1 v2 6 h).bind fun r14 => (F159 r14 (h 386 v0 (wadd v3 1)) (h 386 v0 (wadd v3 2))).bind fun r15 => zG (r15 = 0 ∨ r15 = 1) (some r15) else zG ((h 386 v0 v3) < 13 ∨ 20 < (h 386 v0 v3)) (some 0))))
set_option maxRecDepth 100000 in
theorem S158 {spec : zRn zH2} {hm : zHM} {o : Int → Int} {d : Nat} (hd : 2 ≤ d) (v0 : Int) (v1 : Int) (v2 : Int) (v3 : Int) (h : zHC) (v : Int) (e : F158 v0 v1 v2 v3 h = some v) : zRu2 spec d 158 [(16, v0), (11, v1), (0, v2), (0, v3)] (h, hm, o) (some (0, v)) (h, hm, o) := by
  refine zF_in (D := 1) (mx := 6) (L := [some (16, v0), some (11, v1), some (0, v2), some (0, v3), none, none]) (by decide +kernel) rfl rfl hd (fun d hd => ?_)
  unfold F158 at e
  obtain ⟨q1, e⟩ := zG_s e
  obtain ⟨q2, e⟩ := zG_s e
  obtain ⟨q3, e⟩ := zG_s e
  rcases zI_s e with ⟨q4, e⟩ | ⟨q4, e⟩
  · refine zF_blk (m := []) (d := 13) (b := B158_6) (gs := [0 ≤ (wadd v3 1) ∧ (wadd v3 1) < 120, 0 ≤ (wadd v3 2) ∧ (wadd v3 2) < 120, 0 ≤ v3 ∧ v3 < 120, (h 386 v0 v3) = 13]) (c' := (72, [some (16, v0), some (11, v1), some (0, v2), some (0, v3), some (0, (h 386 v0 (wadd v3 1))), some (0, (h 386 v0 (wadd v3 2)))], [], (h, hm, o))) K158_6 rfl ⟨q1, q2, q3, q4, trivial⟩ ?_
    obtain ⟨r1, q5, e⟩ := zB_s e
    refine zF_blk (m := []) (d := 0) (b := B158_0) (gs := []) (c' := (76, [some (16, v0), some (11, v1), some (0, v2), some (0, v3), some (0, (h 386 v0 (wadd v3 1))), some (0, (h 386 v0 (wadd v3 2)))], [(0, 6), (0, v2), (11, v1)], (h, hm, o))) K158_0 rfl trivial ?_
    refine zF_call (k := 63) (cl := 1) (n := 3) (i := .invokevirtual 36) (args := [(11, v1), (0, v2), (0, 6)]) (rest := []) (g1 := (h, hm, o)) (r1 := some (0, r1)) (zCk1_w (by decide +kernel)) rfl rfl rfl (st' := [(0, r1)]) rfl (S63 (Nat.le_trans (by decide) hd) v1 v2 6 h _ q5) ?_
    rcases zI_s e with ⟨q6, e⟩ | ⟨q6, e⟩
    · refine zF_blk (m := []) (d := 1) (b := B158_5) (gs := [¬ r1 = 0]) (c' := (94, [some (16, v0), some (11, v1), some (0, v2), some (0, v3), some (0, (h 386 v0 (wadd v3 1))), some (0, (h 386 v0 (wadd v3 2)))], [], (h, hm, o))) K158_5 rfl ⟨q6, trivial⟩ ?_
      refine zF_blk (m := []) (d := 0) (b := B158_1) (gs := []) (c' := (95, [some (16, v0), some (11, v1), some (0, v2), some (0, v3), some (0, (h 386 v0 (wadd v3 1))), some (0, (h 386 v0 (wadd v3 2)))], [(0, 0)], (h, hm, o))) K158_1 rfl trivial ?_
      obtain rfl := Option.some.inj e
      exact zF_rb (zRe1_w (by decide +kernel)) (Or.inl rfl)
    · refine zF_blk (m := []) (d := 0) (b := B158_5) (gs := [¬ (¬ r1 = 0)]) (c' := (82, [some (16, v0), some (11, v1), some (0, v2), some (0, v3), some (0, (h 386 v0 (wadd v3 1))), some (0, (h 386 v0 (wadd v3 2)))], [], (h, hm, o))) K158_5 rfl ⟨q6, trivial⟩ ?_
      obtain ⟨r2, q7, e⟩ := zB_s e
      refine zF_blk (m := []) (d := 0) (b := B158_2) (gs := []) (c' := (84, [some (16, v0), some (11, v1), some (0, v2), some (0, v3), some (0, (h 386 v0 (wadd v3 1))), some (0, (h 386 v0 (wadd v3 2)))], [(0, v2), (11, v1)], (h, hm, o))) K158_2 rfl trivial ?_
      refine zF_call (k := 125) (cl := 1) (n := 2) (i := .invokevirtual 42) (args := [(11, v1), (0, v2)]) (rest := []) (g1 := (h, hm, o)) (r1 := some (0, r2)) (zCk1_w (by decide +kernel)) rfl rfl rfl (st' := [(0, r2)]) rfl (S125 (Nat.le_trans (by decide) hd) v1 v2 h _ q7) ?_
      rcases zI_s e with ⟨q8, e⟩ | ⟨q8, e⟩
      · refine zF_blk (m := []) (d := 1) (b := B158_4) (gs := [¬ r2 = 0]) (c' := (94, [some (16, v0), some (11, v1), some (0, v2), some (0, v3), some (0, (h 386 v0 (wadd v3 1))), some (0, (h 386 v0 (wadd v3 2)))], [], (h, hm, o))) K158_4 rfl ⟨q8, trivial⟩ ?_
        refine zF_blk (m := []) (d := 0) (b := B158_1) (gs := []) (c' := (95, [some (16, v0), some (11, v1), some (0, v2), some (0, v3), some (0, (h 386 v0 (wadd v3 1))), some (0, (h 386 v0 (wadd v3 2)))], [(0, 0)], (h, hm, o))) K158_1 rfl trivial ?_
        obtain rfl := Option.some.inj e
        exact zF_rb (zRe1_w (by decide +kernel)) (Or.inl rfl)
      · refine zF_blk (m := []) (d := 0) (b := B158_4) (gs := [¬ (¬ r2 = 0)]) (c' := (90, [some (16, v0), some (11, v1), some (0, v2), some (0, v3), some (0, (h 386 v0 (wadd v3 1))), some (0, (h 386 v0 (wadd v3 2)))], [], (h, hm, o))) K158_4 rfl ⟨q8, trivial⟩ ?_
        refine zF_blk (m := []) (d := 0) (b := B158_3) (gs := []) (c' := (95, [some (16, v0), some (11, v1), some (0, v2), some (0, v3), some (0, (h 386 v0 (wadd v3 1))), some (0, (h 386 v0 (wadd v3 2)))], [(0, 1)], (h, hm, o))) K158_3 rfl trivial ?_
        obtain rfl := Option.some.inj e
        exact zF_rb (zRe1_w (by decide +kernel)) (Or.inr rfl)
  rcases zI_s e with ⟨q9, e⟩ | ⟨q9, e⟩
  · refine zF_blk (m := []) (d := 14) (b := B158_6) (gs := [0 ≤ (wadd v3 1) ∧ (wadd v3 1) < 120, 0 ≤ (wadd v3 2) ∧ (wadd v3 2) < 120, 0 ≤ v3 ∧ v3 < 120, (h 386 v0 v3) = 14]) (c' := (96, [some (16, v0), some (11, v1), some (0, v2), some (0, v3), some (0, (h 386 v0 (wadd v3 1))), some (0, (h 386 v0 (wadd v3 2)))], [], (h, hm, o))) K158_6 rfl ⟨q1, q2, q3, q9, trivial⟩ ?_
    obtain ⟨r3, q10, e⟩ := zB_s e
    refine zF_blk (m := []) (d := 0) (b := B158_7) (gs := []) (c' := (99, [some (16, v0), some (11, v1), some (0, v2), some (0, v3), some (0, (h 386 v0 (wadd v3 1))), some (0, (h 386 v0 (wadd v3 2)))], [(0, 5), (0, v2), (11, v1)], (h, hm, o))) K158_7 rfl trivial ?_
    refine zF_call (k := 63) (cl := 1) (n := 3) (i := .invokevirtual 36) (args := [(11, v1), (0, v2), (0, 5)]) (rest := []) (g1 := (h, hm, o)) (r1 := some (0, r3)) (zCk1_w (by decide +kernel)) rfl rfl rfl (st' := [(0, r3)]) rfl (S63 (Nat.le_trans (by decide) hd) v1 v2 5 h _ q10) ?_
    obtain ⟨r4, q11, e⟩ := zB_s e
    refine zF_call (k := 64) (cl := 13) (n := 1) (i := .invokestatic 46) (args := [(0, r3)]) (rest := []) (g1 := (h, hm, o)) (r1 := some (0, r4)) (zCk1_w (by decide +kernel)) rfl rfl rfl (st' := [(0, r4)]) rfl (S64 (Nat.le_trans (by decide) hd) r3 h _ q11) ?_
    rcases zI_s e with ⟨q12, e⟩ | ⟨q12, e⟩
    · refine zF_blk (m := []) (d := 1) (b := B158_10) (gs := [r4 ≤ 1]) (c' := (113, [some (16, v0), some (11, v1), some (0, v2), some (0, v3), some (0, (h 386 v0 (wadd v3 1))), some (0, (h 386 v0 (wadd v3 2)))], [], (h, hm, o))) K158_10 rfl ⟨q12, trivial⟩ ?_
      refine zF_blk (m := []) (d := 0) (b := B158_8) (gs := []) (c' := (114, [some (16, v0), some (11, v1), some (0, v2), some (0, v3), some (0, (h 386 v0 (wadd v3 1))), some (0, (h 386 v0 (wadd v3 2)))], [(0, 0)], (h, hm, o))) K158_8 rfl trivial ?_
      obtain rfl := Option.some.inj e
      exact zF_rb (zRe1_w (by decide +kernel)) (Or.inl rfl)
    · refine zF_blk (m := []) (d := 0) (b := B158_10) (gs := [¬ (r4 ≤ 1)]) (c' := (109, [some (16, v0), some (11, v1), some (0, v2), some (0, v3), some (0, (h 386 v0 (wadd v3 1))), some (0, (h 386 v0 (wadd v3 2)))], [], (h, hm, o))) K158_10 rfl ⟨q12, trivial⟩ ?_
      refine zF_blk (m := []) (d := 0) (b := B158_9) (gs := []) (c' := (114, [some (16, v0), some (11, v1), some (0, v2), some (0, v3), some (0, (h 386 v0 (wadd v3 1))), some (0, (h 386 v0 (wadd v3 2)))], [(0, 1)], (h, hm, o))) K158_9 rfl trivial ?_
      obtain rfl := Option.some.inj e
      exact zF_rb (zRe1_w (by decide +kernel)) (Or.inr rfl)
  rcases zI_s e with ⟨q13, e⟩ | ⟨q13, e⟩
  · refine zF_blk (m := []) (d := 15) (b := B158_6) (gs := [0 ≤ (wadd v3 1) ∧ (wadd v3 1) < 120, 0 ≤ (wadd v3 2) ∧ (wadd v3 2) < 120, 0 ≤ v3 ∧ v3 < 120, (h 386 v0 v3) = 15]) (c' := (115, [some (16, v0), some (11, v1), some (0, v2), some (0, v3), some (0, (h 386 v0 (wadd v3 1))), some (0, (h 386 v0 (wadd v3 2)))], [], (h, hm, o))) K158_6 rfl ⟨q1, q2, q3, q13, trivial⟩ ?_
    obtain ⟨r5, q14, e⟩ := zB_s e
    refine zF_blk (m := []) (d := 0) (b := B158_11) (gs := []) (c' := (118, [some (16, v0), some (11, v1), some (0, v2), some (0, v3), some (0, (h 386 v0 (wadd v3 1))), some (0, (h 386 v0 (wadd v3 2)))], [(0, 5), (0, v2), (11, v1)], (h, hm, o))) K158_11 rfl trivial ?_
    refine zF_call (k := 63) (cl := 1) (n := 3) (i := .invokevirtual 36) (args := [(11, v1), (0, v2), (0, 5)]) (rest := []) (g1 := (h, hm, o)) (r1 := some (0, r5)) (zCk1_w (by decide +kernel)) rfl rfl rfl (st' := [(0, r5)]) rfl (S63 (Nat.le_trans (by decide) hd) v1 v2 5 h _ q14) ?_
    obtain ⟨r6, q15, e⟩ := zB_s e
    refine zF_blk (m := []) (d := 0) (b := B158_12) (gs := []) (c' := (123, [some (16, v0), some (11, v1), some (0, v2), some (0, v3), some (0, (h 386 v0 (wadd v3 1))), some (0, (h 386 v0 (wadd v3 2)))], [(0, (h 386 v0 (wadd v3 2))), (0, r5)], (h, hm, o))) K158_12 rfl trivial ?_
    refine zF_call (k := 65) (cl := 11) (n := 2) (i := .invokestatic 52) (args := [(0, r5), (0, (h 386 v0 (wadd v3 2)))]) (rest := []) (g1 := (h, hm, o)) (r1 := some (0, r6)) (zCk1_w (by decide +kernel)) rfl rfl rfl (st' := [(0, r6)]) rfl (S65 (Nat.le_trans (by decide) hd) r5 (h 386 v0 (wadd v3 2)) h _ q15) ?_
    obtain ⟨q16, e⟩ := zG_s e
    obtain rfl := Option.some.inj e
    exact zF_rb (zRe1_w (by decide +kernel)) q16
  rcases zI_s e with ⟨q17, e⟩ | ⟨q17, e⟩
  · refine zF_blk (m := []) (d := 16) (b := B158_6) (gs := [0 ≤ (wadd v3 1) ∧ (wadd v3 1) < 120, 0 ≤ (wadd v3 2) ∧ (wadd v3 2) < 120, 0 ≤ v3 ∧ v3 < 120, (h 386 v0 v3) = 16]) (c' := (127, [some (16, v0), some (11, v1), some (0, v2), some (0, v3), some (0, (h 386 v0 (wadd v3 1))), some (0, (h 386 v0 (wadd v3 2)))], [], (h, hm, o))) K158_6 rfl ⟨q1, q2, q3, q17, trivial⟩ ?_
    obtain ⟨r7, q18, e⟩ := zB_s e
    refine zF_blk (m := []) (d := 0) (b := B158_13) (gs := []) (c' := (130, [some (16, v0), some (11, v1), some (0, v2), some (0, v3), some (0, (h 386 v0 (wadd v3 1))), some (0, (h 386 v0 (wadd v3 2)))], [(0, 1), (0, v2), (11, v1)], (h, hm, o))) K158_13 rfl trivial ?_
    refine zF_call (k := 63) (cl := 1) (n := 3) (i := .invokevirtual 36) (args := [(11, v1), (0, v2), (0, 1)]) (rest := []) (g1 := (h, hm, o)) (r1 := some (0, r7)) (zCk1_w (by decide +kernel)) rfl rfl rfl (st' := [(0, r7)]) rfl (S63 (Nat.le_trans (by decide) hd) v1 v2 1 h _ q18) ?_
    rcases zI_s e with ⟨q19, e⟩ | ⟨q19, e⟩
    · refine zF_blk (m := []) (d := 1) (b := B158_16) (gs := [¬ r7 = (h 386 v0 (wadd v3 2))]) (c' := (142, [some (16, v0), some (11, v1), some (0, v2), some (0, v3), some (0, (h 386 v0 (wadd v3 1))), some (0, (h 386 v0 (wadd v3 2)))], [], (h, hm, o))) K158_16 rfl ⟨q19, trivial⟩ ?_
      refine zF_blk (m := []) (d := 0) (b := B158_14) (gs := []) (c' := (143, [some (16, v0), some (11, v1), some (0, v2), some (0, v3), some (0, (h 386 v0 (wadd v3 1))), some (0, (h 386 v0 (wadd v3 2)))], [(0, 0)], (h, hm, o))) K158_14 rfl trivial ?_
      obtain rfl := Option.some.inj e
      exact zF_rb (zRe1_w (by decide +kernel)) (Or.inl rfl)
    · refine zF_blk (m := []) (d := 0) (b := B158_16) (gs := [¬ (¬ r7 = (h 386 v0 (wadd v3 2)))]) (c' := (138, [some (16, v0), some (11, v1), some (0, v2), some (0, v3), some (0, (h 386 v0 (wadd v3 1))), some (0, (h 386 v0 (wadd v3 2)))], [], (h, hm, o))) K158_16 rfl ⟨q19, trivial⟩ ?_
      refine zF_blk (m := []) (d := 0) (b := B158_15) (gs := []) (c' := (143, [some (16, v0), some (11, v1), some (0, v2), some (0, v3), some (0, (h 386 v0 (wadd v3 1))), some (0, (h 386 v0 (wadd v3 2)))], [(0, 1)], (h, hm, o))) K158_15 rfl trivial ?_
      obtain rfl := Option.some.inj e
      exact zF_rb (zRe1_w (by decide +kernel)) (Or.inr rfl)
  rcases zI_s e with ⟨q20, e⟩ | ⟨q20, e⟩
  · refine zF_blk (m := []) (d := 17) (b := B158_6) (gs := [0 ≤ (wadd v3 1) ∧ (wadd v3 1) < 120, 0 ≤ (wadd v3 2) ∧ (wadd v3 2) < 120, 0 ≤ v3 ∧ v3 < 120, (h 386 v0 v3) = 17]) (c' := (144, [some (16, v0), some (11, v1), some (0, v2), some (0, v3), some (0, (h 386 v0 (wadd v3 1))), some (0, (h 386 v0 (wadd v3 2)))], [], (h, hm, o))) K158_6 rfl ⟨q1, q2, q3, q20, trivial⟩ ?_
    obtain ⟨r8, q21, e⟩ := zB_s e
    refine zF_blk (m := []) (d := 0) (b := B158_17) (gs := []) (c' := (147, [some (16, v0), some (11, v1), some (0, v2), some (0, v3), some (0, (h 386 v0 (wadd v3 1))), some (0, (h 386 v0 (wadd v3 2)))], [(0, 0), (0, v2), (11, v1)], (h, hm, o))) K158_17 rfl trivial ?_
    refine zF_call (k := 63) (cl := 1) (n := 3) (i := .invokevirtual 36) (args := [(11, v1), (0, v2), (0, 0)]) (rest := []) (g1 := (h, hm, o)) (r1 := some (0, r8)) (zCk1_w (by decide +kernel)) rfl rfl rfl (st' := [(0, r8)]) rfl (S63 (Nat.le_trans (by decide) hd) v1 v2 0 h _ q21) ?_
    obtain ⟨r9, q22, e⟩ := zB_s e
    refine zF_blk (m := []) (d := 0) (b := B158_18) (gs := []) (c' := (154, [some (16, v0), some (11, v1), some (0, v2), some (0, v3), some (0, (h 386 v0 (wadd v3 1))), some (0, (h 386 v0 (wadd v3 2)))], [(0, (h 386 v0 (wadd v3 2))), (0, (h 386 v0 (wadd v3 1))), (0, r8)], (h, hm, o))) K158_18 rfl trivial ?_
    refine zF_call (k := 159) (cl := 6) (n := 3) (i := .invokestatic 56) (args := [(0, r8), (0, (h 386 v0 (wadd v3 1))), (0, (h 386 v0 (wadd v3 2)))]) (rest := []) (g1 := (h, hm, o)) (r1 := some (0, r9)) (zCk1_w (by decide +kernel)) rfl rfl rfl (st' := [(0, r9)]) rfl (S159 (Nat.le_trans (by decide) hd) r8 (h 386 v0 (wadd v3 1)) (h 386 v0 (wadd v3 2)) h _ q22) ?_
    obtain ⟨q23, e⟩ := zG_s e
    obtain rfl := Option.some.inj e
    exact zF_rb (zRe1_w (by decide +kernel)) q23
  rcases zI_s e with ⟨q24, e⟩ | ⟨q24, e⟩
  · refine zF_blk (m := []) (d := 18) (b := B158_6) (gs := [0 ≤ (wadd v3 1) ∧ (wadd v3 1) < 120, 0 ≤ (wadd v3 2) ∧ (wadd v3 2) < 120, 0 ≤ v3 ∧ v3 < 120, (h 386 v0 v3) = 18]) (c' := (158, [some (16, v0), some (11, v1), some (0, v2), some (0, v3), some (0, (h 386 v0 (wadd v3 1))), some (0, (h 386 v0 (wadd v3 2)))], [], (h, hm, o))) K158_6 rfl ⟨q1, q2, q3, q24, trivial⟩ ?_
    obtain ⟨r10, q25, e⟩ := zB_s e
    refine zF_blk (m := []) (d := 0) (b := B158_19) (gs := []) (c' := (161, [some (16, v0), some (11, v1), some (0, v2), some (0, v3), some (0, (h 386 v0 (wadd v3 1))), some (0, (h 386 v0 (wadd v3 2)))], [(0, 4), (0, v2), (11, v1)], (h, hm, o))) K158_19 rfl trivial ?_
    refine zF_call (k := 63) (cl := 1) (n := 3) (i := .invokevirtual 36) (args := [(11, v1), (0, v2), (0, 4)]) (rest := []) (g1 := (h, hm, o)) (r1 := some (0, r10)) (zCk1_w (by decide +kernel)) rfl rfl rfl (st' := [(0, r10)]) rfl (S63 (Nat.le_trans (by decide) hd) v1 v2 4 h _ q25) ?_
    obtain ⟨r11, q26, e⟩ := zB_s e
    refine zF_blk (m := []) (d := 0) (b := B158_20) (gs := []) (c' := (168, [some (16, v0), some (11, v1), some (0, v2), some (0, v3), some (0, (h 386 v0 (wadd v3 1))), some (0, (h 386 v0 (wadd v3 2)))], [(0, (h 386 v0 (wadd v3 2))), (0, (h 386 v0 (wadd v3 1))), (0, r10)], (h, hm, o))) K158_20 rfl trivial ?_
    refine zF_call (k := 159) (cl := 6) (n := 3) (i := .invokestatic 56) (args := [(0, r10), (0, (h 386 v0 (wadd v3 1))), (0, (h 386 v0 (wadd v3 2)))]) (rest := []) (g1 := (h, hm, o)) (r1 := some (0, r11)) (zCk1_w (by decide +kernel)) rfl rfl rfl (st' := [(0, r11)]) rfl (S159 (Nat.le_trans (by decide) hd) r10 (h 386 v0 (wadd v3 1)) (h 386 v0 (wadd v3 2)) h _ q26) ?_
    obtain ⟨q27, e⟩ := zG_s e
    obtain rfl := Option.some.inj e
    exact zF_rb (zRe1_w (by decide +kernel)) q27
  rcases zI_s e with ⟨q28, e⟩ | ⟨q28, e⟩
  · refine zF_blk (m := []) (d := 19) (b := B158_6) (gs := [0 ≤ (wadd v3 1) ∧ (wadd v3 1) < 120, 0 ≤ (wadd v3 2) ∧ (wadd v3 2) < 120, 0 ≤ v3 ∧ v3 < 120, (h 386 v0 v3) = 19]) (c' := (172, [some (16, v0), some (11, v1), some (0, v2), some (0, v3), some (0, (h 386 v0 (wadd v3 1))), some (0, (h 386 v0 (wadd v3 2)))], [], (h, hm, o))) K158_6 rfl ⟨q1, q2, q3, q28, trivial⟩ ?_
    obtain ⟨r12, q29, e⟩ := zB_s e
    refine zF_blk (m := []) (d := 0) (b := B158_21) (gs := []) (c' := (175, [some (16, v0), some (11, v1), some (0, v2), some (0, v3), some (0, (h 386 v0 (wadd v3 1))), some (0, (h 386 v0 (wadd v3 2)))], [(0, 2), (0, v2), (11, v1)], (h, hm, o))) K158_21 rfl trivial ?_
    refine zF_call (k := 63) (cl := 1) (n := 3) (i := .invokevirtual 36) (args := [(11, v1), (0, v2), (0, 2)]) (rest := []) (g1 := (h, hm, o)) (r1 := some (0, r12)) (zCk1_w (by decide +kernel)) rfl rfl rfl (st' := [(0, r12)]) rfl (S63 (Nat.le_trans (by decide) hd) v1 v2 2 h _ q29) ?_
    obtain ⟨r13, q30, e⟩ := zB_s e
    refine zF_blk (m := []) (d := 0) (b := B158_22) (gs := []) (c' := (182, [some (16, v0), some (11, v1), some (0, v2), some (0, v3), some (0, (h 386 v0 (wadd v3 1))), some (0, (h 386 v0 (wadd v3 2)))], [(0, (h 386 v0 (wadd v3 2))), (0, (h 386 v0 (wadd v3 1))), (0, r12)], (h, hm, o))) K158_22 rfl trivial ?_
    refine zF_call (k := 159) (cl := 6) (n := 3) (i := .invokestatic 56) (args := [(0, r12), (0, (h 386 v0 (wadd v3 1))), (0, (h 386 v0 (wadd v3 2)))]) (rest := []) (g1 := (h, hm, o)) (r1 := some (0, r13)) (zCk1_w (by decide +kernel)) rfl rfl rfl (st' := [(0, r13)]) rfl (S159 (Nat.le_trans (by decide) hd) r12 (h 386 v0 (wadd v3 1)) (h 386 v0 (wadd v3 2)) h _ q30) ?_
    obtain ⟨q31, e⟩ := zG_s e
    obtain rfl := Option.some.inj e
    exact zF_rb (zRe1_w (by decide +kernel)) q31
  rcases zI_s e with ⟨q32, e⟩ | ⟨q32, e⟩
  · refine zF_blk (m := []) (d := 20) (b := B158_6) (gs := [0 ≤ (wadd v3 1) ∧ (wadd v3 1) < 120, 0 ≤ (wadd v3 2) ∧ (wadd v3 2) < 120, 0 ≤ v3 ∧ v3 < 120, (h 386 v0 v3) = 20]) (c' := (186, [some (16, v0), some (11, v1), some (0, v2), some (0, v3), some (0, (h 386 v0 (wadd v3 1))), some (0, (h 386 v0 (wadd v3 2)))], [], (h, hm, o))) K158_6 rfl ⟨q1, q2, q3, q32, trivial⟩ ?_
    obtain ⟨r14, q33, e⟩ := zB_s e
    refine zF_blk (m := []) (d := 0) (b := B158_23) (gs := []) (c' := (190, [some (16, v0), some (11, v1), some (0, v2), some (0, v3), some (0, (h 386 v0 (wadd v3 1))), some (0, (h 386 v0 (wadd v3 2)))], [(0, 6), (0, v2), (11, v1)], (h, hm, o))) K158_23 rfl trivial ?_
    refine zF_call (k := 63) (cl := 1) (n := 3) (i := .invokevirtual 36) (args := [(11, v1), (0, v2), (0, 6)]) (rest := []) (g1 := (h, hm, o)) (r1 := some (0, r14)) (zCk1_w (by decide +kernel)) rfl rfl rfl (st' := [(0, r14)]) rfl (S63 (Nat.le_trans (by decide) hd) v1 v2 6 h _ q33) ?_
    obtain ⟨r15, q34, e⟩ := zB_s e
    refine zF_blk (m := []) (d := 0) (b := B158_24) (gs := []) (c' := (197, [some (16, v0), some (11, v1), some (0, v2), some (0, v3), some (0, (h 386 v0 (wadd v3 1))), some (0, (h 386 v0 (wadd v3 2)))], [(0, (h 386 v0 (wadd v3 2))), (0, (h 386 v0 (wadd v3 1))), (0, r14)], (h, hm, o))) K158_24 rfl trivial ?_
    refine zF_call (k := 159) (cl := 6) (n := 3) (i := .invokestatic 56) (args := [(0, r14), (0, (h 386 v0 (wadd v3 1))), (0, (h 386 v0 (wadd v3 2)))]) (rest := []) (g1 := (h, hm, o)) (r1 := some (0, r15)) (zCk1_w (by decide +kernel)) rfl rfl rfl (st' := [(0, r15)]) rfl (S159 (Nat.le_trans (by decide) hd) r14 (h 386 v0 (wadd v3 1)) (h 386 v0 (wadd v3 2)) h _ q34) ?_
    obtain ⟨q35, e⟩ := zG_s e
    obtain rfl := Option.some.inj e
    exact zF_rb (zRe1_w (by decide +kernel)) q35
  obtain ⟨q36, e⟩ := zG_s e
  refine zF_blk (m := []) (d := 21) (b := B158_6) (gs := [0 ≤ (wadd v3 1) ∧ (wadd v3 1) < 120, 0 ≤ (wadd v3 2) ∧ (wadd v3 2) < 120, 0 ≤ v3 ∧ v3 < 120, (h 386 v0 v3) < 13 ∨ 20 < (h 386 v0 v3)]) (c' := (201, [some (16, v0), some (11, v1), some (0, v2), some (0, v3), some (0, (h 386 v0 (wadd v3 1))), some (0, (h 386 v0 (wadd v3 2)))], [], (h, hm, o))) K158_6 rfl ⟨q1, q2, q3, q36, trivial⟩ ?_
  refine zF_blk (m := []) (d := 0) (b := B158_25) (gs := []) (c' := (202, [some (16, v0), some (11, v1), some (0, v2), some (0, v3), some (0, (h 386 v0 (wadd v3 1))), some (0, (h 386 v0 (wadd v3 2)))], [(0, 0)], (h, hm, o))) K158_25 rfl trivial ?_
  obtain rfl := Option.some.inj e
  exact zF_rb (zRe1_w (by decide +kernel)) (Or.inl rfl)
noncomputable def B157_0 : List zRow := [(0, .iconst 0, 1, (0, 0, 0)), (1, .istore_n 3, 1, (0, 0, 0)), (2, .iconst 0, 1, (0, 0, 0)), (3, .istore 4, 2, (0, 0, 0))]
theorem K157_0 : zRk 157 B157_0 = true := zRw_ok (by decide +kernel)
noncomputable def B157_1 : List zRow := [(215, .iconst 0, 1, (0, 0, 0))]
theorem K157_1 : zRk 157 B157_1 = true := zRw_ok (by decide +kernel)
noncomputable def B157_2 : List zRow := [(211, .iconst 1, 1, (0, 0, 0)), (212, .goto 4, 3, (0, 0, 0))]
theorem K157_2 : zRk 157 B157_2 = true := zRw_ok (by decide +kernel)
noncomputable def B157_3 : List zRow := [(200, .aload_n 0, 1, (0, 0, 0)), (201, .getfield 15, 3, (6, 3, 5767330)), (204, .iload_n 3, 1, (0, 0, 0)), (205, .iconst 1, 1, (0, 0, 0)), (206, .isub, 1, (0, 0, 0)), (207, .baload, 1, (0, 0, 0)), (208, .ifCond .eq 7, 3, (0, 0, 0))]
theorem K157_3 : zRk 157 B157_3 = true := zRw_ok (by decide +kernel)
noncomputable def B157_4 : List zRow := [(196, .iload_n 3, 1, (0, 0, 0)), (197, .ifCond .le 18, 3, (0, 0, 0))]
theorem K157_4 : zRk 157 B157_4 = true := zRw_ok (by decide +kernel)
noncomputable def B157_5 : List zRow := [(58, .iconst 0, 1, (0, 0, 0))]
theorem K157_5 : zRk 157 B157_5 = true := zRw_ok (by decide +kernel)
noncomputable def B157_6 : List zRow := [(54, .iconst 1, 1, (0, 0, 0)), (55, .goto 4, 3, (0, 0, 0))]
theorem K157_6 : zRk 157 B157_6 = true := zRw_ok (by decide +kernel)
noncomputable def B157_7 : List zRow := [(36, .aload_n 0, 1, (0, 0, 0)), (37, .getfield 15, 3, (6, 3, 5767330)), (40, .iload_n 3, 1, (0, 0, 0)), (41, .iconst 1, 1, (0, 0, 0)), (42, .isub, 1, (0, 0, 0)), (43, .aload_n 0, 1, (0, 0, 0)), (44, .getfield 15, 3, (6, 3, 5767330)), (47, .iload_n 3, 1, (0, 0, 0)), (48, .iconst 1, 1, (0, 0, 0)), (49, .isub, 1, (0, 0, 0)), (50, .baload, 1, (0, 0, 0)), (51, .ifCond .ne 7, 3, (0, 0, 0))]
theorem K157_7 : zRk 157 B157_7 = true := zRw_ok (by decide +kernel)
noncomputable def B157_8 : List zRow := [(32, .iload_n 3, 1, (0, 0, 0)), (33, .ifCond .le 30, 3, (0, 0, 0))]
theorem K157_8 : zRk 157 B157_8 = true := zRw_ok (by decide +kernel)
noncomputable def B157_9 : List zRow := [(14, .aload_n 0, 1, (0, 0, 0)), (15, .getfield 9, 3, (6, 2, 5243362)), (18, .iload 4, 2, (0, 0, 0)), (20, .iconst 3, 1, (0, 0, 0)), (21, .imul, 1, (0, 0, 0)), (22, .iaload, 1, (0, 0, 0)), (23, .istore 5, 2, (0, 0, 0)), (25, .iload 5, 2, (0, 0, 0)), (27, .bipush 12, 2, (0, 0, 0)), (29, .if_icmp .ne 34, 3, (0, 0, 0))]
theorem K157_9 : zRk 157 B157_9 = true := zRw_ok (by decide +kernel)
noncomputable def B157_10 : List zRow := [(5, .iload 4, 2, (0, 0, 0)), (7, .aload_n 0, 1, (0, 0, 0)), (8, .getfield 23, 3, (6, 1, 0)), (11, .if_icmp .ge 185, 3, (0, 0, 0))]
theorem K157_10 : zRk 157 B157_10 = true := zRw_ok (by decide +kernel)
noncomputable def B157_11 : List zRow := [(59, .bastore, 1, (0, 0, 0)), (60, .goto 130, 3, (0, 0, 0))]
theorem K157_11 : zRk 157 B157_11 = true := zRw_ok (by decide +kernel)
noncomputable def B157_12 : List zRow := [(190, .iinc 4 1, 3, (0, 0, 0)), (193, .goto (-188), 3, (0, 0, 0))]
theorem K157_12 : zRk 157 B157_12 = true := zRw_ok (by decide +kernel)
noncomputable def B157_13 : List zRow := [(105, .iconst 1, 1, (0, 0, 0)), (106, .goto 4, 3, (0, 0, 0))]
theorem K157_13 : zRk 157 B157_13 = true := zRw_ok (by decide +kernel)
noncomputable def B157_14 : List zRow := [(96, .aload_n 0, 1, (0, 0, 0)), (97, .getfield 15, 3, (6, 3, 5767330)), (100, .iload_n 3, 1, (0, 0, 0)), (101, .baload, 1, (0, 0, 0)), (102, .ifCond .eq 7, 3, (0, 0, 0))]
theorem K157_14 : zRk 157 B157_14 = true := zRw_ok (by decide +kernel)
noncomputable def B157_15 : List zRow := [(75, .iinc 3 (-1), 3, (0, 0, 0)), (78, .aload_n 0, 1, (0, 0, 0)), (79, .getfield 15, 3, (6, 3, 5767330)), (82, .iload_n 3, 1, (0, 0, 0)), (83, .iconst 1, 1, (0, 0, 0)), (84, .isub, 1, (0, 0, 0)), (85, .aload_n 0, 1, (0, 0, 0)), (86, .getfield 15, 3, (6, 3, 5767330)), (89, .iload_n 3, 1, (0, 0, 0)), (90, .iconst 1, 1, (0, 0, 0)), (91, .isub, 1, (0, 0, 0)), (92, .baload, 1, (0, 0, 0)), (93, .ifCond .eq 16, 3, (0, 0, 0))]
theorem K157_15 : zRk 157 B157_15 = true := zRw_ok (by decide +kernel)
noncomputable def B157_16 : List zRow := [(70, .iload_n 3, 1, (0, 0, 0)), (71, .iconst 1, 1, (0, 0, 0)), (72, .if_icmp .le 42, 3, (0, 0, 0))]
theorem K157_16 : zRk 157 B157_16 = true := zRw_ok (by decide +kernel)
noncomputable def B157_17 : List zRow := [(63, .iload 5, 2, (0, 0, 0)), (65, .bipush 11, 2, (0, 0, 0)), (67, .if_icmp .ne 47, 3, (0, 0, 0))]
theorem K157_17 : zRk 157 B157_17 = true := zRw_ok (by decide +kernel)
noncomputable def B157_18 : List zRow := [(110, .bastore, 1, (0, 0, 0)), (111, .goto 79, 3, (0, 0, 0))]
theorem K157_18 : zRk 157 B157_18 = true := zRw_ok (by decide +kernel)
noncomputable def B157_19 : List zRow := [(109, .iconst 0, 1, (0, 0, 0))]
theorem K157_19 : zRk 157 B157_19 = true := zRw_ok (by decide +kernel)
noncomputable def B157_20 : List zRow := [(160, .iconst 0, 1, (0, 0, 0))]
theorem K157_20 : zRk 157 B157_20 = true := zRw_ok (by decide +kernel)
noncomputable def B157_21 : List zRow := [(147, .aload_n 0, 1, (0, 0, 0)), (148, .getfield 15, 3, (6, 3, 5767330)), (151, .iload_n 3, 1, (0, 0, 0)), (152, .baload, 1, (0, 0, 0)), (153, .ifCond .eq 7, 3, (0, 0, 0))]
theorem K157_21 : zRk 157 B157_21 = true := zRw_ok (by decide +kernel)
noncomputable def B157_22 : List zRow := [(126, .iinc 3 (-1), 3, (0, 0, 0)), (129, .aload_n 0, 1, (0, 0, 0)), (130, .getfield 15, 3, (6, 3, 5767330)), (133, .iload_n 3, 1, (0, 0, 0)), (134, .iconst 1, 1, (0, 0, 0)), (135, .isub, 1, (0, 0, 0)), (136, .aload_n 0, 1, (0, 0, 0)), (137, .getfield 15, 3, (6, 3, 5767330)), (140, .iload_n 3, 1, (0, 0, 0)), (141, .iconst 1, 1, (0, 0, 0)), (142, .isub, 1, (0, 0, 0)), (143, .baload, 1, (0, 0, 0)), (144, .ifCond .ne 12, 3, (0, 0, 0))]
theorem K157_22 : zRk 157 B157_22 = true := zRw_ok (by decide +kernel)
noncomputable def B157_23 : List zRow := [(121, .iload_n 3, 1, (0, 0, 0)), (122, .iconst 1, 1, (0, 0, 0)), (123, .if_icmp .le 42, 3, (0, 0, 0))]
theorem K157_23 : zRk 157 B157_23 = true := zRw_ok (by decide +kernel)
noncomputable def B157_24 : List zRow := [(114, .iload 5, 2, (0, 0, 0)), (116, .bipush 10, 2, (0, 0, 0)), (118, .if_icmp .ne 47, 3, (0, 0, 0))]
theorem K157_24 : zRk 157 B157_24 = true := zRw_ok (by decide +kernel)
noncomputable def B157_25 : List zRow := [(161, .bastore, 1, (0, 0, 0)), (162, .goto 28, 3, (0, 0, 0))]
theorem K157_25 : zRk 157 B157_25 = true := zRw_ok (by decide +kernel)
noncomputable def B157_26 : List zRow := [(156, .iconst 1, 1, (0, 0, 0)), (157, .goto 4, 3, (0, 0, 0))]
theorem K157_26 : zRk 157 B157_26 = true := zRw_ok (by decide +kernel)
noncomputable def B157_27 : List zRow := [(171, .aload_n 0, 1, (0, 0, 0)), (172, .getfield 15, 3, (6, 3, 5767330)), (175, .iload_n 3, 1, (0, 0, 0)), (176, .aload_n 0, 1, (0, 0, 0)), (177, .aload_n 1, 1, (0, 0, 0)), (178, .iload_n 2, 1, (0, 0, 0)), (179, .iload 4, 2, (0, 0, 0)), (181, .iconst 3, 1, (0, 0, 0)), (182, .imul, 1, (0, 0, 0))]
theorem K157_27 : zRk 157 B157_27 = true := zRw_ok (by decide +kernel)
noncomputable def B157_28 : List zRow := [(186, .bastore, 1, (0, 0, 0)), (187, .iinc 3 1, 3, (0, 0, 0))]
theorem K157_28 : zRk 157 B157_28 = true := zRw_ok (by decide +kernel)
noncomputable def B157_29 : List zRow := [(165, .iload_n 3, 1, (0, 0, 0)), (166, .bipush 40, 2, (0, 0, 0)), (168, .if_icmp .ge 22, 3, (0, 0, 0))]
theorem K157_29 : zRk 157 B157_29 = true := zRw_ok (by decide +kernel)
def F157_3 (k0 : Int → Int → Int → Int → Int → zHC → Option (Int × zHC)) (v0 : Int) (v1 : Int) (v2 : Int) (v3 : Int) (v4 : Int) (h : zHC) : Option (Int × zHC) := k0 v0 v1 v2 v3 (wadd v4 1) h
set_option maxRecDepth 100000 in
theorem T157_3 {spec : zRn zH2} {hm : zHM} {o : Int → Int} {d : Nat} (hd : 2 ≤ d) (k0 : Int → Int → Int → Int → Int → zHC → Option (Int × zHC)) (hk0 : ∀ (v0 : Int) (v1 : Int) (v2 : Int) (v3 : Int) (v4 : Int) (h : zHC) (v : (Int × zHC)), k0 v0 v1 v2 v3 v4 h = some v → zFin 0 (fun _ => 0) (zRu2 spec d) 157 (some (0, v.1)) (v.2, hm, o) (5, [some (16, v0), some (11, v1), some (0, v2), some (0, v3), some (0, v4), none], [], (h, hm, o))) (v0 : Int) (v1 : Int) (v2 : Int) (v3 : Int) (v4 : Int) (h : zHC) (v : (Int × zHC)) (e : F157_3 k0 v0 v1 v2 v3 v4 h = some v) : zFin 0 (fun _ => 0) (zRu2 spec d) 157 (some (0, v.1)) (v.2, hm, o) (190, [some (16, v0), some (11, v1), some (0, v2), some (0, v3), some (0, v4), none], [], (h, hm, o)) := by
  unfold F157_3 at e
  refine zF_blk (m := []) (d := 0) (b := B157_12) (gs := []) (c' := (5, [some (16, v0), some (11, v1), some (0, v2), some (0, v3), some (0, (wadd v4 1)), none], [], (h, hm, o))) K157_12 rfl trivial ?_
  exact hk0 v0 v1 v2 v3 (wadd v4 1) h _ e
def F157_7 (k0 : Int → Int → Int → Int → Int → zHC → Option (Int × zHC)) (v0 : Int) (v1 : Int) (v2 : Int) (v3 : Int) (v4 : Int) (h : zHC) : Option (Int × zHC) := if 40 ≤ v3 then F157_3 k0 v0 v1 v2 v3 v4 h else (F158 v0 v1 v2 (wmul v4 3) h).bind fun r1 => zG (0 ≤ v3 ∧ v3 < 40) (zG (r1 = 0 ∨ r1 = 1) (F157_3 k0 v0 v1 v2 (wadd v3 1) v4 (hset h 387 v0 v3 r1)))
set_option maxRecDepth 100000 in
theorem T157_7 {spec : zRn zH2} {hm : zHM} {o : Int → Int} {d : Nat} (hd : 2 ≤ d) (k0 : Int → Int → Int → Int → Int → zHC → Option (Int × zHC)) (hk0 : ∀ (v0 : Int) (v1 : Int) (v2 : Int) (v3 : Int) (v4 : Int) (h : zHC) (v : (Int × zHC)), k0 v0 v1 v2 v3 v4 h = some v → zFin 0 (fun _ => 0) (zRu2 spec d) 157 (some (0, v.1)) (v.2, hm, o) (5, [some (16, v0), some (11, v1), some (0, v2), some (0, v3), some (0, v4), none], [], (h, hm, o))) (v0 : Int) (v1 : Int) (v2 : Int) (v3 : Int) (v4 : Int) (h : zHC) (v : (Int × zHC)) (e : F157_7 k0 v0 v1 v2 v3 v4 h = some v) : zFin 0 (fun _ => 0) (zRu2 spec d) 157 (some (0, v.1)) (v.2, hm, o) (165, [some (16, v0), some (11, v1), some (0, v2), some (0, v3), some (0, v4), none], [], (h, hm, o)) := by
  unfold F157_7 at e
  rcases zI_s e with ⟨q1, e⟩ | ⟨q1, e⟩
  · refine zF_blk (m := []) (d := 1) (b := B157_29) (gs := [40 ≤ v3]) (c' := (190, [some (16, v0), some (11, v1), some (0, v2), some (0, v3), some (0, v4), none], [], (h, hm, o))) K157_29 rfl ⟨q1, trivial⟩ ?_
    exact T157_3 hd k0 hk0 v0 v1 v2 v3 v4 h _ e
  · refine zF_blk (m := []) (d := 0) (b := B157_29) (gs := [¬ (40 ≤ v3)]) (c' := (171, [some (16, v0), some (11, v1), some (0, v2), some (0, v3), some (0, v4), none], [], (h, hm, o))) K157_29 rfl ⟨q1, trivial⟩ ?_
    obtain ⟨r1, q2, e⟩ := zB_s e
    refine zF_blk (m := []) (d := 0) (b := B157_27) (gs := []) (c' := (183, [some (16, v0), some (11, v1), some (0, v2), some (0, v3), some (0, v4), none], [(0, (wmul v4 3)), (0, v2), (11, v1), (16, v0), (0, v3), (1476437355, v0)], (h, hm, o))) K157_27 rfl trivial ?_
    refine zF_call (k := 158) (cl := 6) (n := 4) (i := .invokevirtual 32) (args := [(16, v0), (11, v1), (0, v2), (0, (wmul v4 3))]) (rest := [(0, v3), (1476437355, v0)]) (g1 := (h, hm, o)) (r1 := some (0, r1)) (zCk1_w (by decide +kernel)) rfl rfl rfl (st' := [(0, r1), (0, v3), (1476437355, v0)]) rfl (S158 (Nat.le_trans (by decide) hd) v0 v1 v2 (wmul v4 3) h _ q2) ?_
    obtain ⟨q3, e⟩ := zG_s e
    obtain ⟨q4, e⟩ := zG_s e
    refine zF_blk (m := []) (d := 0) (b := B157_28) (gs := [0 ≤ v3 ∧ v3 < 40, r1 = 0 ∨ r1 = 1]) (c' := (190, [some (16, v0), some (11, v1), some (0, v2), some (0, (wadd v3 1)), some (0, v4), none], [], ((hset h 387 v0 v3 r1), hm, o))) K157_28 rfl ⟨q3, q4, trivial⟩ ?_
    exact T157_3 hd k0 hk0 v0 v1 v2 (wadd v3 1) v4 (hset h 387 v0 v3 r1) _ e
def F157_9 (k0 : Int → Int → Int → Int → Int → zHC → Option (Int × zHC)) (v0 : Int) (v1 : Int) (v2 : Int) (v3 : Int) (v4 : Int) (s0 : Int) (s1 : Int) (s2 : Int) (h : zHC) : Option (Int × zHC) := zG (0 ≤ s1 ∧ s1 < 40) (zG (s0 = 0 ∨ s0 = 1) (F157_3 k0 v0 v1 v2 v3 v4 (hset h 387 s2 s1 s0)))
set_option maxRecDepth 100000 in
theorem T157_9 {spec : zRn zH2} {hm : zHM} {o : Int → Int} {d : Nat} (hd : 2 ≤ d) (k0 : Int → Int → Int → Int → Int → zHC → Option (Int × zHC)) (hk0 : ∀ (v0 : Int) (v1 : Int) (v2 : Int) (v3 : Int) (v4 : Int) (h : zHC) (v : (Int × zHC)), k0 v0 v1 v2 v3 v4 h = some v → zFin 0 (fun _ => 0) (zRu2 spec d) 157 (some (0, v.1)) (v.2, hm, o) (5, [some (16, v0), some (11, v1), some (0, v2), some (0, v3), some (0, v4), none], [], (h, hm, o))) (v0 : Int) (v1 : Int) (v2 : Int) (v3 : Int) (v4 : Int) (s0 : Int) (s1 : Int) (s2 : Int) (h : zHC) (v : (Int × zHC)) (e : F157_9 k0 v0 v1 v2 v3 v4 s0 s1 s2 h = some v) : zFin 0 (fun _ => 0) (zRu2 spec d) 157 (some (0, v.1)) (v.2, hm, o) (161, [some (16, v0), some (11, v1), some (0, v2), some (0, v3), some (0, v4), none], [(0, s0), (0, s1), (1476437355, s2)], (h, hm, o)) := by
  unfold F157_9 at e
  obtain ⟨q1, e⟩ := zG_s e
  obtain ⟨q2, e⟩ := zG_s e
  refine zF_blk (m := []) (d := 0) (b := B157_25) (gs := [0 ≤ s1 ∧ s1 < 40, s0 = 0 ∨ s0 = 1]) (c' := (190, [some (16, v0), some (11, v1), some (0, v2), some (0, v3), some (0, v4), none], [], ((hset h 387 s2 s1 s0), hm, o))) K157_25 rfl ⟨q1, q2, trivial⟩ ?_
  exact T157_3 hd k0 hk0 v0 v1 v2 v3 v4 (hset h 387 s2 s1 s0) _ e
def F157_8 (k0 : Int → Int → Int → Int → Int → zHC → Option (Int × zHC)) (v0 : Int) (v1 : Int) (v2 : Int) (v3 : Int) (v4 : Int) (s0 : Int) (s1 : Int) (h : zHC) : Option (Int × zHC) := F157_9 k0 v0 v1 v2 v3 v4 1 s0 s1 h
set_option maxRecDepth 100000 in
theorem T157_8 {spec : zRn zH2} {hm : zHM} {o : Int → Int} {d : Nat} (hd : 2 ≤ d) (k0 : Int → Int → Int → Int → Int → zHC → Option (Int × zHC)) (hk0 : ∀ (v0 : Int) (v1 : Int) (v2 : Int) (v3 : Int) (v4 : Int) (h : zHC) (v : (Int × zHC)), k0 v0 v1 v2 v3 v4 h = some v → zFin 0 (fun _ => 0) (zRu2 spec d) 157 (some (0, v.1)) (v.2, hm, o) (5, [some (16, v0), some (11, v1), some (0, v2), some (0, v3), some (0, v4), none], [], (h, hm, o))) (v0 : Int) (v1 : Int) (v2 : Int) (v3 : Int) (v4 : Int) (s0 : Int) (s1 : Int) (h : zHC) (v : (Int × zHC)) (e : F157_8 k0 v0 v1 v2 v3 v4 s0 s1 h = some v) : zFin 0 (fun _ => 0) (zRu2 spec d) 157 (some (0, v.1)) (v.2, hm, o) (156, [some (16, v0), some (11, v1), some (0, v2), some (0, v3), some (0, v4), none], [(0, s0), (1476437355, s1)], (h, hm, o)) := by
  unfold F157_8 at e
  refine zF_blk (m := []) (d := 0) (b := B157_26) (gs := []) (c' := (161, [some (16, v0), some (11, v1), some (0, v2), some (0, v3), some (0, v4), none], [(0, 1), (0, s0), (1476437355, s1)], (h, hm, o))) K157_26 rfl trivial ?_
  exact T157_9 hd k0 hk0 v0 v1 v2 v3 v4 1 s0 s1 h _ e
def F157_4 (k0 : Int → Int → Int → Int → Int → zHC → Option (Int × zHC)) (v0 : Int) (v1 : Int) (v2 : Int) (v3 : Int) (v4 : Int) (v5 : Int) (h : zHC) : Option (Int × zHC) := if ¬ v5 = 10 then F157_7 k0 v0 v1 v2 v3 v4 h else if v3 ≤ 1 then F157_7 k0 v0 v1 v2 v3 v4 h else zG (0 ≤ (wsub (wadd v3 (-1)) 1) ∧ (wsub (wadd v3 (-1)) 1) < 40) (if ¬ (h 387 v0 (wsub (wadd v3 (-1)) 1)) = 0 then F157_8 k0 v0 v1 v2 (wadd v3 (-1)) v4 (wsub (wadd v3 (-1)) 1) v0 h else zG (0 ≤ (wadd v3 (-1)) ∧ (wadd v3 (-1)) < 40) (if (h 387 v0 (wadd v3 (-1))) = 0 then F157_9 k0 v0 v1 v2 (wadd v3 (-1)) v4 0 (wsub (wadd v3 (-1)) 1) v0 h else F157_8 k0 v0 v1 v2 (wadd v3 (-1)) v4 (wsub (wadd v3 (-1)) 1) v0 h))
set_option maxRecDepth 100000 in
theorem T157_4 {spec : zRn zH2} {hm : zHM} {o : Int → Int} {d : Nat} (hd : 2 ≤ d) (k0 : Int → Int → Int → Int → Int → zHC → Option (Int × zHC)) (hk0 : ∀ (v0 : Int) (v1 : Int) (v2 : Int) (v3 : Int) (v4 : Int) (h : zHC) (v : (Int × zHC)), k0 v0 v1 v2 v3 v4 h = some v → zFin 0 (fun _ => 0) (zRu2 spec d) 157 (some (0, v.1)) (v.2, hm, o) (5, [some (16, v0), some (11, v1), some (0, v2), some (0, v3), some (0, v4), none], [], (h, hm, o))) (v0 : Int) (v1 : Int) (v2 : Int) (v3 : Int) (v4 : Int) (v5 : Int) (h : zHC) (v : (Int × zHC)) (e : F157_4 k0 v0 v1 v2 v3 v4 v5 h = some v) : zFin 0 (fun _ => 0) (zRu2 spec d) 157 (some (0, v.1)) (v.2, hm, o) (114, [some (16, v0), some (11, v1), some (0, v2), some (0, v3), some (0, v4), some (0, v5)], [], (h, hm, o)) := by
  unfold F157_4 at e
  rcases zI_s e with ⟨q1, e⟩ | ⟨q1, e⟩
  · refine zF_blk (m := []) (d := 1) (b := B157_24) (gs := [¬ v5 = 10]) (c' := (165, [some (16, v0), some (11, v1), some (0, v2), some (0, v3), some (0, v4), some (0, v5)], [], (h, hm, o))) K157_24 rfl ⟨q1, trivial⟩ ?_
    refine zF_blk (m := [true, true, true, true, true, false]) (d := 0) (b := []) (gs := []) (c' := (165, [some (16, v0), some (11, v1), some (0, v2), some (0, v3), some (0, v4), none], [], (h, hm, o))) rfl rfl trivial ?_
    exact T157_7 hd k0 hk0 v0 v1 v2 v3 v4 h _ e
  · refine zF_blk (m := []) (d := 0) (b := B157_24) (gs := [¬ (¬ v5 = 10)]) (c' := (121, [some (16, v0), some (11, v1), some (0, v2), some (0, v3), some (0, v4), some (0, v5)], [], (h, hm, o))) K157_24 rfl ⟨q1, trivial⟩ ?_
    rcases zI_s e with ⟨q2, e⟩ | ⟨q2, e⟩
    · refine zF_blk (m := []) (d := 1) (b := B157_23) (gs := [v3 ≤ 1]) (c' := (165, [some (16, v0), some (11, v1), some (0, v2), some (0, v3), some (0, v4), some (0, v5)], [], (h, hm, o))) K157_23 rfl ⟨q2, trivial⟩ ?_
      refine zF_blk (m := [true, true, true, true, true, false]) (d := 0) (b := []) (gs := []) (c' := (165, [some (16, v0), some (11, v1), some (0, v2), some (0, v3), some (0, v4), none], [], (h, hm, o))) rfl rfl trivial ?_
      exact T157_7 hd k0 hk0 v0 v1 v2 v3 v4 h _ e
    · refine zF_blk (m := []) (d := 0) (b := B157_23) (gs := [¬ (v3 ≤ 1)]) (c' := (126, [some (16, v0), some (11, v1), some (0, v2), some (0, v3), some (0, v4), some (0, v5)], [], (h, hm, o))) K157_23 rfl ⟨q2, trivial⟩ ?_
      obtain ⟨q3, e⟩ := zG_s e
      rcases zI_s e with ⟨q4, e⟩ | ⟨q4, e⟩
      · refine zF_blk (m := []) (d := 1) (b := B157_22) (gs := [0 ≤ (wsub (wadd v3 (-1)) 1) ∧ (wsub (wadd v3 (-1)) 1) < 40, ¬ (h 387 v0 (wsub (wadd v3 (-1)) 1)) = 0]) (c' := (156, [some (16, v0), some (11, v1), some (0, v2), some (0, (wadd v3 (-1))), some (0, v4), some (0, v5)], [(0, (wsub (wadd v3 (-1)) 1)), (1476437355, v0)], (h, hm, o))) K157_22 rfl ⟨q3, q4, trivial⟩ ?_
        refine zF_blk (m := [true, true, true, true, true, false]) (d := 0) (b := []) (gs := []) (c' := (156, [some (16, v0), some (11, v1), some (0, v2), some (0, (wadd v3 (-1))), some (0, v4), none], [(0, (wsub (wadd v3 (-1)) 1)), (1476437355, v0)], (h, hm, o))) rfl rfl trivial ?_
        exact T157_8 hd k0 hk0 v0 v1 v2 (wadd v3 (-1)) v4 (wsub (wadd v3 (-1)) 1) v0 h _ e
      · refine zF_blk (m := []) (d := 0) (b := B157_22) (gs := [0 ≤ (wsub (wadd v3 (-1)) 1) ∧ (wsub (wadd v3 (-1)) 1) < 40, ¬ (¬ (h 387 v0 (wsub (wadd v3 (-1)) 1)) = 0)]) (c' := (147, [some (16, v0), some (11, v1), some (0, v2), some (0, (wadd v3 (-1))), some (0, v4), some (0, v5)], [(0, (wsub (wadd v3 (-1)) 1)), (1476437355, v0)], (h, hm, o))) K157_22 rfl ⟨q3, q4, trivial⟩ ?_
        obtain ⟨q5, e⟩ := zG_s e
        rcases zI_s e with ⟨q6, e⟩ | ⟨q6, e⟩
        · refine zF_blk (m := []) (d := 1) (b := B157_21) (gs := [0 ≤ (wadd v3 (-1)) ∧ (wadd v3 (-1)) < 40, (h 387 v0 (wadd v3 (-1))) = 0]) (c' := (160, [some (16, v0), some (11, v1), some (0, v2), some (0, (wadd v3 (-1))), some (0, v4), some (0, v5)], [(0, (wsub (wadd v3 (-1)) 1)), (1476437355, v0)], (h, hm, o))) K157_21 rfl ⟨q5, q6, trivial⟩ ?_
          refine zF_blk (m := []) (d := 0) (b := B157_20) (gs := []) (c' := (161, [some (16, v0), some (11, v1), some (0, v2), some (0, (wadd v3 (-1))), some (0, v4), some (0, v5)], [(0, 0), (0, (wsub (wadd v3 (-1)) 1)), (1476437355, v0)], (h, hm, o))) K157_20 rfl trivial ?_
          refine zF_blk (m := [true, true, true, true, true, false]) (d := 0) (b := []) (gs := []) (c' := (161, [some (16, v0), some (11, v1), some (0, v2), some (0, (wadd v3 (-1))), some (0, v4), none], [(0, 0), (0, (wsub (wadd v3 (-1)) 1)), (1476437355, v0)], (h, hm, o))) rfl rfl trivial ?_
          exact T157_9 hd k0 hk0 v0 v1 v2 (wadd v3 (-1)) v4 0 (wsub (wadd v3 (-1)) 1) v0 h _ e
        · refine zF_blk (m := []) (d := 0) (b := B157_21) (gs := [0 ≤ (wadd v3 (-1)) ∧ (wadd v3 (-1)) < 40, ¬ ((h 387 v0 (wadd v3 (-1))) = 0)]) (c' := (156, [some (16, v0), some (11, v1), some (0, v2), some (0, (wadd v3 (-1))), some (0, v4), some (0, v5)], [(0, (wsub (wadd v3 (-1)) 1)), (1476437355, v0)], (h, hm, o))) K157_21 rfl ⟨q5, q6, trivial⟩ ?_
          refine zF_blk (m := [true, true, true, true, true, false]) (d := 0) (b := []) (gs := []) (c' := (156, [some (16, v0), some (11, v1), some (0, v2), some (0, (wadd v3 (-1))), some (0, v4), none], [(0, (wsub (wadd v3 (-1)) 1)), (1476437355, v0)], (h, hm, o))) rfl rfl trivial ?_
          exact T157_8 hd k0 hk0 v0 v1 v2 (wadd v3 (-1)) v4 (wsub (wadd v3 (-1)) 1) v0 h _ e
def F157_6 (k0 : Int → Int → Int → Int → Int → zHC → Option (Int × zHC)) (v0 : Int) (v1 : Int) (v2 : Int) (v3 : Int) (v4 : Int) (s0 : Int) (s1 : Int) (s2 : Int) (h : zHC) : Option (Int × zHC) := zG (0 ≤ s1 ∧ s1 < 40) (zG (s0 = 0 ∨ s0 = 1) (F157_3 k0 v0 v1 v2 v3 v4 (hset h 387 s2 s1 s0)))
set_option maxRecDepth 100000 in
theorem T157_6 {spec : zRn zH2} {hm : zHM} {o : Int → Int} {d : Nat} (hd : 2 ≤ d) (k0 : Int → Int → Int → Int → Int → zHC → Option (Int × zHC)) (hk0 : ∀ (v0 : Int) (v1 : Int) (v2 : Int) (v3 : Int) (v4 : Int) (h : zHC) (v : (Int × zHC)), k0 v0 v1 v2 v3 v4 h = some v → zFin 0 (fun _ => 0) (zRu2 spec d) 157 (some (0, v.1)) (v.2, hm, o) (5, [some (16, v0), some (11, v1), some (0, v2), some (0, v3), some (0, v4), none], [], (h, hm, o))) (v0 : Int) (v1 : Int) (v2 : Int) (v3 : Int) (v4 : Int) (s0 : Int) (s1 : Int) (s2 : Int) (h : zHC) (v : (Int × zHC)) (e : F157_6 k0 v0 v1 v2 v3 v4 s0 s1 s2 h = some v) : zFin 0 (fun _ => 0) (zRu2 spec d) 157 (some (0, v.1)) (v.2, hm, o) (110, [some (16, v0), some (11, v1), some (0, v2), some (0, v3), some (0, v4), none], [(0, s0), (0, s1), (1476437355, s2)], (h, hm, o)) := by
  unfold F157_6 at e
  obtain ⟨q1, e⟩ := zG_s e
  obtain ⟨q2, e⟩ := zG_s e
  refine zF_blk (m := []) (d := 0) (b := B157_18) (gs := [0 ≤ s1 ∧ s1 < 40, s0 = 0 ∨ s0 = 1]) (c' := (190, [some (16, v0), some (11, v1), some (0, v2), some (0, v3), some (0, v4), none], [], ((hset h 387 s2 s1 s0), hm, o))) K157_18 rfl ⟨q1, q2, trivial⟩ ?_
  exact T157_3 hd k0 hk0 v0 v1 v2 v3 v4 (hset h 387 s2 s1 s0) _ e
def F157_5 (k0 : Int → Int → Int → Int → Int → zHC → Option (Int × zHC)) (v0 : Int) (v1 : Int) (v2 : Int) (v3 : Int) (v4 : Int) (s0 : Int) (s1 : Int) (h : zHC) : Option (Int × zHC) := F157_6 k0 v0 v1 v2 v3 v4 0 s0 s1 h
set_option maxRecDepth 100000 in
theorem T157_5 {spec : zRn zH2} {hm : zHM} {o : Int → Int} {d : Nat} (hd : 2 ≤ d) (k0 : Int → Int → Int → Int → Int → zHC → Option (Int × zHC)) (hk0 : ∀ (v0 : Int) (v1 : Int) (v2 : Int) (v3 : Int) (v4 : Int) (h : zHC) (v : (Int × zHC)), k0 v0 v1 v2 v3 v4 h = some v → zFin 0 (fun _ => 0) (zRu2 spec d) 157 (some (0, v.1)) (v.2, hm, o) (5, [some (16, v0), some (11, v1), some (0, v2), some (0, v3), some (0, v4), none], [], (h, hm, o))) (v0 : Int) (v1 : Int) (v2 : Int) (v3 : Int) (v4 : Int) (s0 : Int) (s1 : Int) (h : zHC) (v : (Int × zHC)) (e : F157_5 k0 v0 v1 v2 v3 v4 s0 s1 h = some v) : zFin 0 (fun _ => 0) (zRu2 spec d) 157 (some (0, v.1)) (v.2, hm, o) (109, [some (16, v0), some (11, v1), some (0, v2), some (0, v3), some (0, v4), none], [(0, s0), (1476437355, s1)], (h, hm, o)) := by
  unfold F157_5 at e
  refine zF_blk (m := []) (d := 0) (b := B157_19) (gs := []) (c' := (110, [some (16, v0), some (11, v1), some (0, v2), some (0, v3), some (0, v4), none], [(0, 0), (0, s0), (1476437355, s1)], (h, hm, o))) K157_19 rfl trivial ?_
  exact T157_6 hd k0 hk0 v0 v1 v2 v3 v4 0 s0 s1 h _ e
def F157_1 (k0 : Int → Int → Int → Int → Int → zHC → Option (Int × zHC)) (v0 : Int) (v1 : Int) (v2 : Int) (v3 : Int) (v4 : Int) (v5 : Int) (h : zHC) : Option (Int × zHC) := if ¬ v5 = 11 then F157_4 k0 v0 v1 v2 v3 v4 v5 h else if v3 ≤ 1 then F157_4 k0 v0 v1 v2 v3 v4 v5 h else zG (0 ≤ (wsub (wadd v3 (-1)) 1) ∧ (wsub (wadd v3 (-1)) 1) < 40) (if (h 387 v0 (wsub (wadd v3 (-1)) 1)) = 0 then F157_5 k0 v0 v1 v2 (wadd v3 (-1)) v4 (wsub (wadd v3 (-1)) 1) v0 h else zG (0 ≤ (wadd v3 (-1)) ∧ (wadd v3 (-1)) < 40) (if (h 387 v0 (wadd v3 (-1))) = 0 then F157_5 k0 v0 v1 v2 (wadd v3 (-1)) v4 (wsub (wadd v3 (-1)) 1) v0 h else F157_6 k0 v0 v1 v2 (wadd v3 (-1)) v4 1 (wsub (wadd v3 (-1)) 1) v0 h))
set_option maxRecDepth 100000 in
theorem T157_1 {spec : zRn zH2} {hm : zHM} {o : Int → Int} {d : Nat} (hd : 2 ≤ d) (k0 : Int → Int → Int → Int → Int → zHC → Option (Int × zHC)) (hk0 : ∀ (v0 : Int) (v1 : Int) (v2 : Int) (v3 : Int) (v4 : Int) (h : zHC) (v : (Int × zHC)), k0 v0 v1 v2 v3 v4 h = some v → zFin 0 (fun _ => 0) (zRu2 spec d) 157 (some (0, v.1)) (v.2, hm, o) (5, [some (16, v0), some (11, v1), some (0, v2), some (0, v3), some (0, v4), none], [], (h, hm, o))) (v0 : Int) (v1 : Int) (v2 : Int) (v3 : Int) (v4 : Int) (v5 : Int) (h : zHC) (v : (Int × zHC)) (e : F157_1 k0 v0 v1 v2 v3 v4 v5 h = some v) : zFin 0 (fun _ => 0) (zRu2 spec d) 157 (some (0, v.1)) (v.2, hm, o) (63, [some (16, v0), some (11, v1), some (0, v2), some (0, v3), some (0, v4), some (0, v5)], [], (h, hm, o)) := by
  unfold F157_1 at e
  rcases zI_s e with ⟨q1, e⟩ | ⟨q1, e⟩
  · refine zF_blk (m := []) (d := 1) (b := B157_17) (gs := [¬ v5 = 11]) (c' := (114, [some (16, v0), some (11, v1), some (0, v2), some (0, v3), some (0, v4), some (0, v5)], [], (h, hm, o))) K157_17 rfl ⟨q1, trivial⟩ ?_
    exact T157_4 hd k0 hk0 v0 v1 v2 v3 v4 v5 h _ e
  · refine zF_blk (m := []) (d := 0) (b := B157_17) (gs := [¬ (¬ v5 = 11)]) (c' := (70, [some (16, v0), some (11, v1), some (0, v2), some (0, v3), some (0, v4), some (0, v5)], [], (h, hm, o))) K157_17 rfl ⟨q1, trivial⟩ ?_
    rcases zI_s e with ⟨q2, e⟩ | ⟨q2, e⟩
    · refine zF_blk (m := []) (d := 1) (b := B157_16) (gs := [v3 ≤ 1]) (c' := (114, [some (16, v0), some (11, v1), some (0, v2), some (0, v3), some (0, v4), some (0, v5)], [], (h, hm, o))) K157_16 rfl ⟨q2, trivial⟩ ?_
      exact T157_4 hd k0 hk0 v0 v1 v2 v3 v4 v5 h _ e
    · refine zF_blk (m := []) (d := 0) (b := B157_16) (gs := [¬ (v3 ≤ 1)]) (c' := (75, [some (16, v0), some (11, v1), some (0, v2), some (0, v3), some (0, v4), some (0, v5)], [], (h, hm, o))) K157_16 rfl ⟨q2, trivial⟩ ?_
      obtain ⟨q3, e⟩ := zG_s e
      rcases zI_s e with ⟨q4, e⟩ | ⟨q4, e⟩
      · refine zF_blk (m := []) (d := 1) (b := B157_15) (gs := [0 ≤ (wsub (wadd v3 (-1)) 1) ∧ (wsub (wadd v3 (-1)) 1) < 40, (h 387 v0 (wsub (wadd v3 (-1)) 1)) = 0]) (c' := (109, [some (16, v0), some (11, v1), some (0, v2), some (0, (wadd v3 (-1))), some (0, v4), some (0, v5)], [(0, (wsub (wadd v3 (-1)) 1)), (1476437355, v0)], (h, hm, o))) K157_15 rfl ⟨q3, q4, trivial⟩ ?_
        refine zF_blk (m := [true, true, true, true, true, false]) (d := 0) (b := []) (gs := []) (c' := (109, [some (16, v0), some (11, v1), some (0, v2), some (0, (wadd v3 (-1))), some (0, v4), none], [(0, (wsub (wadd v3 (-1)) 1)), (1476437355, v0)], (h, hm, o))) rfl rfl trivial ?_
        exact T157_5 hd k0 hk0 v0 v1 v2 (wadd v3 (-1)) v4 (wsub (wadd v3 (-1)) 1) v0 h _ e
      · refine zF_blk (m := []) (d := 0) (b := B157_15) (gs := [0 ≤ (wsub (wadd v3 (-1)) 1) ∧ (wsub (wadd v3 (-1)) 1) < 40, ¬ ((h 387 v0 (wsub (wadd v3 (-1)) 1)) = 0)]) (c' := (96, [some (16, v0), some (11, v1), some (0, v2), some (0, (wadd v3 (-1))), some (0, v4), some (0, v5)], [(0, (wsub (wadd v3 (-1)) 1)), (1476437355, v0)], (h, hm, o))) K157_15 rfl ⟨q3, q4, trivial⟩ ?_
        obtain ⟨q5, e⟩ := zG_s e
        rcases zI_s e with ⟨q6, e⟩ | ⟨q6, e⟩
        · refine zF_blk (m := []) (d := 1) (b := B157_14) (gs := [0 ≤ (wadd v3 (-1)) ∧ (wadd v3 (-1)) < 40, (h 387 v0 (wadd v3 (-1))) = 0]) (c' := (109, [some (16, v0), some (11, v1), some (0, v2), some (0, (wadd v3 (-1))), some (0, v4), some (0, v5)], [(0, (wsub (wadd v3 (-1)) 1)), (1476437355, v0)], (h, hm, o))) K157_14 rfl ⟨q5, q6, trivial⟩ ?_
          refine zF_blk (m := [true, true, true, true, true, false]) (d := 0) (b := []) (gs := []) (c' := (109, [some (16, v0), some (11, v1), some (0, v2), some (0, (wadd v3 (-1))), some (0, v4), none], [(0, (wsub (wadd v3 (-1)) 1)), (1476437355, v0)], (h, hm, o))) rfl rfl trivial ?_
          exact T157_5 hd k0 hk0 v0 v1 v2 (wadd v3 (-1)) v4 (wsub (wadd v3 (-1)) 1) v0 h _ e
        · refine zF_blk (m := []) (d := 0) (b := B157_14) (gs := [0 ≤ (wadd v3 (-1)) ∧ (wadd v3 (-1)) < 40, ¬ ((h 387 v0 (wadd v3 (-1))) = 0)]) (c' := (105, [some (16, v0), some (11, v1), some (0, v2), some (0, (wadd v3 (-1))), some (0, v4), some (0, v5)], [(0, (wsub (wadd v3 (-1)) 1)), (1476437355, v0)], (h, hm, o))) K157_14 rfl ⟨q5, q6, trivial⟩ ?_
          refine zF_blk (m := []) (d := 0) (b := B157_13) (gs := []) (c' := (110, [some (16, v0), some (11, v1), some (0, v2), some (0, (wadd v3 (-1))), some (0, v4), some (0, v5)], [(0, 1), (0, (wsub (wadd v3 (-1)) 1)), (1476437355, v0)], (h, hm, o))) K157_13 rfl trivial ?_
          refine zF_blk (m := [true, true, true, true, true, false]) (d := 0) (b := []) (gs := []) (c' := (110, [some (16, v0), some (11, v1), some (0, v2), some (0, (wadd v3 (-1))), some (0, v4), none], [(0, 1), (0, (wsub (wadd v3 (-1)) 1)), (1476437355, v0)], (h, hm, o))) rfl rfl trivial ?_
          exact T157_6 hd k0 hk0 v0 v1 v2 (wadd v3 (-1)) v4 1 (wsub (wadd v3 (-1)) 1) v0 h _ e
def F157_2 (k0 : Int → Int → Int → Int → Int → zHC → Option (Int × zHC)) (v0 : Int) (v1 : Int) (v2 : Int) (v3 : Int) (v4 : Int) (s0 : Int) (s1 : Int) (s2 : Int) (h : zHC) : Option (Int × zHC) := zG (0 ≤ s1 ∧ s1 < 40) (zG (s0 = 0 ∨ s0 = 1) (F157_3 k0 v0 v1 v2 v3 v4 (hset h 387 s2 s1 s0)))
set_option maxRecDepth 100000 in
theorem T157_2 {spec : zRn zH2} {hm : zHM} {o : Int → Int} {d : Nat} (hd : 2 ≤ d) (k0 : Int → Int → Int → Int → Int → zHC → Option (Int × zHC)) (hk0 : ∀ (v0 : Int) (v1 : Int) (v2 : Int) (v3 : Int) (v4 : Int) (h : zHC) (v : (Int × zHC)), k0 v0 v1 v2 v3 v4 h = some v → zFin 0 (fun _ => 0) (zRu2 spec d) 157 (some (0, v.1)) (v.2, hm, o) (5, [some (16, v0), some (11, v1), some (0, v2), some (0, v3), some (0, v4), none], [], (h, hm, o))) (v0 : Int) (v1 : Int) (v2 : Int) (v3 : Int) (v4 : Int) (s0 : Int) (s1 : Int) (s2 : Int) (h : zHC) (v : (Int × zHC)) (e : F157_2 k0 v0 v1 v2 v3 v4 s0 s1 s2 h = some v) : zFin 0 (fun _ => 0) (zRu2 spec d) 157 (some (0, v.1)) (v.2, hm, o) (59, [some (16, v0), some (11, v1), some (0, v2), some (0, v3), some (0, v4), none], [(0, s0), (0, s1), (1476437355, s2)], (h, hm, o)) := by
  unfold F157_2 at e
  obtain ⟨q1, e⟩ := zG_s e
  obtain ⟨q2, e⟩ := zG_s e
  refine zF_blk (m := []) (d := 0) (b := B157_11) (gs := [0 ≤ s1 ∧ s1 < 40, s0 = 0 ∨ s0 = 1]) (c' := (190, [some (16, v0), some (11, v1), some (0, v2), some (0, v3), some (0, v4), none], [], ((hset h 387 s2 s1 s0), hm, o))) K157_11 rfl ⟨q1, q2, trivial⟩ ?_
  exact T157_3 hd k0 hk0 v0 v1 v2 v3 v4 (hset h 387 s2 s1 s0) _ e
def F157_0 : Nat → Int → Int → Int → Int → Int → zHC → Option (Int × zHC)
  | 0, _, _, _, _, _, _ => none
  | n + 1, v0, v1, v2, v3, v4, h => if (h 385 v0 0) ≤ v4 then if v3 ≤ 0 then some (0, h) else zG (0 ≤ (wsub v3 1) ∧ (wsub v3 1) < 40) (if (h 387 v0 (wsub v3 1)) = 0 then some (0, h) else some (1, h)) else zG (0 ≤ (wmul v4 3) ∧ (wmul v4 3) < 120) (if ¬ (h 386 v0 (wmul v4 3)) = 12 then F157_1 (F157_0 n) v0 v1 v2 v3 v4 (h 386 v0 (wmul v4 3)) h else if v3 ≤ 0 then F157_1 (F157_0 n) v0 v1 v2 v3 v4 (h 386 v0 (wmul v4 3)) h else zG (0 ≤ (wsub v3 1) ∧ (wsub v3 1) < 40) (if ¬ (h 387 v0 (wsub v3 1)) = 0 then F157_2 (F157_0 n) v0 v1 v2 v3 v4 0 (wsub v3 1) v0 h else F157_2 (F157_0 n) v0 v1 v2 v3 v4 1 (wsub v3 1) v0 h))
set_option maxRecDepth 100000 in
theorem T157_0 {spec : zRn zH2} {hm : zHM} {o : Int → Int} {d : Nat} (hd : 2 ≤ d) : ∀ (n : Nat) (v0 : Int) (v1 : Int) (v2 : Int) (v3 : Int) (v4 : Int) (h : zHC) (v : (Int × zHC)), F157_0 n v0 v1 v2 v3 v4 h = some v → zFin 0 (fun _ => 0) (zRu2 spec d) 157 (some (0, v.1)) (v.2, hm, o) (5, [some (16, v0), some (11, v1), some (0, v2), some (0, v3), some (0, v4), none], [], (h, hm, o)) := by
  intro n
  induction n with
  | zero => intro v0 v1 v2 v3 v4 h v e; unfold F157_0 at e; cases e
  | succ n hk0 =>
    intro v0 v1 v2 v3 v4 h v e
    unfold F157_0 at e
    rcases zI_s e with ⟨q1, e⟩ | ⟨q1, e⟩
    · refine zF_blk (m := []) (d := 1) (b := B157_10) (gs := [(h 385 v0 0) ≤ v4]) (c' := (196, [some (16, v0), some (11, v1), some (0, v2), some (0, v3), some (0, v4), none], [], (h, hm, o))) K157_10 rfl ⟨q1, trivial⟩ ?_
      rcases zI_s e with ⟨q2, e⟩ | ⟨q2, e⟩
      · refine zF_blk (m := []) (d := 1) (b := B157_4) (gs := [v3 ≤ 0]) (c' := (215, [some (16, v0), some (11, v1), some (0, v2), some (0, v3), some (0, v4), none], [], (h, hm, o))) K157_4 rfl ⟨q2, trivial⟩ ?_
        refine zF_blk (m := []) (d := 0) (b := B157_1) (gs := []) (c' := (216, [some (16, v0), some (11, v1), some (0, v2), some (0, v3), some (0, v4), none], [(0, 0)], (h, hm, o))) K157_1 rfl trivial ?_
        exact zF_rbC (zRe1_w (by decide +kernel)) (Or.inl rfl) e
      · refine zF_blk (m := []) (d := 0) (b := B157_4) (gs := [¬ (v3 ≤ 0)]) (c' := (200, [some (16, v0), some (11, v1), some (0, v2), some (0, v3), some (0, v4), none], [], (h, hm, o))) K157_4 rfl ⟨q2, trivial⟩ ?_
        obtain ⟨q3, e⟩ := zG_s e
        rcases zI_s e with ⟨q4, e⟩ | ⟨q4, e⟩
        · refine zF_blk (m := []) (d := 1) (b := B157_3) (gs := [0 ≤ (wsub v3 1) ∧ (wsub v3 1) < 40, (h 387 v0 (wsub v3 1)) = 0]) (c' := (215, [some (16, v0), some (11, v1), some (0, v2), some (0, v3), some (0, v4), none], [], (h, hm, o))) K157_3 rfl ⟨q3, q4, trivial⟩ ?_
          refine zF_blk (m := []) (d := 0) (b := B157_1) (gs := []) (c' := (216, [some (16, v0), some (11, v1), some (0, v2), some (0, v3), some (0, v4), none], [(0, 0)], (h, hm, o))) K157_1 rfl trivial ?_
          exact zF_rbC (zRe1_w (by decide +kernel)) (Or.inl rfl) e
        · refine zF_blk (m := []) (d := 0) (b := B157_3) (gs := [0 ≤ (wsub v3 1) ∧ (wsub v3 1) < 40, ¬ ((h 387 v0 (wsub v3 1)) = 0)]) (c' := (211, [some (16, v0), some (11, v1), some (0, v2), some (0, v3), some (0, v4), none], [], (h, hm, o))) K157_3 rfl ⟨q3, q4, trivial⟩ ?_
          refine zF_blk (m := []) (d := 0) (b := B157_2) (gs := []) (c' := (216, [some (16, v0), some (11, v1), some (0, v2), some (0, v3), some (0, v4), none], [(0, 1)], (h, hm, o))) K157_2 rfl trivial ?_
          exact zF_rbC (zRe1_w (by decide +kernel)) (Or.inr rfl) e
    · refine zF_blk (m := []) (d := 0) (b := B157_10) (gs := [¬ ((h 385 v0 0) ≤ v4)]) (c' := (14, [some (16, v0), some (11, v1), some (0, v2), some (0, v3), some (0, v4), none], [], (h, hm, o))) K157_10 rfl ⟨q1, trivial⟩ ?_
      obtain ⟨q5, e⟩ := zG_s e
      rcases zI_s e with ⟨q6, e⟩ | ⟨q6, e⟩
      · refine zF_blk (m := []) (d := 1) (b := B157_9) (gs := [0 ≤ (wmul v4 3) ∧ (wmul v4 3) < 120, ¬ (h 386 v0 (wmul v4 3)) = 12]) (c' := (63, [some (16, v0), some (11, v1), some (0, v2), some (0, v3), some (0, v4), some (0, (h 386 v0 (wmul v4 3)))], [], (h, hm, o))) K157_9 rfl ⟨q5, q6, trivial⟩ ?_
        exact T157_1 hd (F157_0 n) hk0 v0 v1 v2 v3 v4 (h 386 v0 (wmul v4 3)) h _ e
      · refine zF_blk (m := []) (d := 0) (b := B157_9) (gs := [0 ≤ (wmul v4 3) ∧ (wmul v4 3) < 120, ¬ (¬ (h 386 v0 (wmul v4 3)) = 12)]) (c' := (32, [some (16, v0), some (11, v1), some (0, v2), some (0, v3), some (0, v4), some (0, (h 386 v0 (wmul v4 3)))], [], (h, hm, o))) K157_9 rfl ⟨q5, q6, trivial⟩ ?_
        rcases zI_s e with ⟨q7, e⟩ | ⟨q7, e⟩
        · refine zF_blk (m := []) (d := 1) (b := B157_8) (gs := [v3 ≤ 0]) (c' := (63, [some (16, v0), some (11, v1), some (0, v2), some (0, v3), some (0, v4), some (0, (h 386 v0 (wmul v4 3)))], [], (h, hm, o))) K157_8 rfl ⟨q7, trivial⟩ ?_
          exact T157_1 hd (F157_0 n) hk0 v0 v1 v2 v3 v4 (h 386 v0 (wmul v4 3)) h _ e
        · refine zF_blk (m := []) (d := 0) (b := B157_8) (gs := [¬ (v3 ≤ 0)]) (c' := (36, [some (16, v0), some (11, v1), some (0, v2), some (0, v3), some (0, v4), some (0, (h 386 v0 (wmul v4 3)))], [], (h, hm, o))) K157_8 rfl ⟨q7, trivial⟩ ?_
          obtain ⟨q8, e⟩ := zG_s e
          rcases zI_s e with ⟨q9, e⟩ | ⟨q9, e⟩
          · refine zF_blk (m := []) (d := 1) (b := B157_7) (gs := [0 ≤ (wsub v3 1) ∧ (wsub v3 1) < 40, ¬ (h 387 v0 (wsub v3 1)) = 0]) (c' := (58, [some (16, v0), some (11, v1), some (0, v2), some (0, v3), some (0, v4), some (0, (h 386 v0 (wmul v4 3)))], [(0, (wsub v3 1)), (1476437355, v0)], (h, hm, o))) K157_7 rfl ⟨q8, q9, trivial⟩ ?_
            refine zF_blk (m := []) (d := 0) (b := B157_5) (gs := []) (c' := (59, [some (16, v0), some (11, v1), some (0, v2), some (0, v3), some (0, v4), some (0, (h 386 v0 (wmul v4 3)))], [(0, 0), (0, (wsub v3 1)), (1476437355, v0)], (h, hm, o))) K157_5 rfl trivial ?_
            refine zF_blk (m := [true, true, true, true, true, false]) (d := 0) (b := []) (gs := []) (c' := (59, [some (16, v0), some (11, v1), some (0, v2), some (0, v3), some (0, v4), none], [(0, 0), (0, (wsub v3 1)), (1476437355, v0)], (h, hm, o))) rfl rfl trivial ?_
            exact T157_2 hd (F157_0 n) hk0 v0 v1 v2 v3 v4 0 (wsub v3 1) v0 h _ e
          · refine zF_blk (m := []) (d := 0) (b := B157_7) (gs := [0 ≤ (wsub v3 1) ∧ (wsub v3 1) < 40, ¬ (¬ (h 387 v0 (wsub v3 1)) = 0)]) (c' := (54, [some (16, v0), some (11, v1), some (0, v2), some (0, v3), some (0, v4), some (0, (h 386 v0 (wmul v4 3)))], [(0, (wsub v3 1)), (1476437355, v0)], (h, hm, o))) K157_7 rfl ⟨q8, q9, trivial⟩ ?_
            refine zF_blk (m := []) (d := 0) (b := B157_6) (gs := []) (c' := (59, [some (16, v0), some (11, v1), some (0, v2), some (0, v3), some (0, v4), some (0, (h 386 v0 (wmul v4 3)))], [(0, 1), (0, (wsub v3 1)), (1476437355, v0)], (h, hm, o))) K157_6 rfl trivial ?_
            refine zF_blk (m := [true, true, true, true, true, false]) (d := 0) (b := []) (gs := []) (c' := (59, [some (16, v0), some (11, v1), some (0, v2), some (0, v3), some (0, v4), none], [(0, 1), (0, (wsub v3 1)), (1476437355, v0)], (h, hm, o))) rfl rfl trivial ?_
            exact T157_2 hd (F157_0 n) hk0 v0 v1 v2 v3 v4 1 (wsub v3 1) v0 h _ e
/-- EchoVale$Sentence.holds(LEchoVale$Course;I)Z -/
def F157 (v0 : Int) (v1 : Int) (v2 : Int) (h : zHC) : Option (Int × zHC) := F157_0 zFu v0 v1 v2 0 0 h
set_option maxRecDepth 100000 in
theorem S157 {spec : zRn zH2} {hm : zHM} {o : Int → Int} {d : Nat} (hd : 3 ≤ d) (v0 : Int) (v1 : Int) (v2 : Int) (h : zHC) (v : (Int × zHC)) (e : F157 v0 v1 v2 h = some v) : zRu2 spec d 157 [(16, v0), (11, v1), (0, v2)] (h, hm, o) (some (0, v.1)) (v.2, hm, o) := by
  refine zF_in (D := 2) (mx := 6) (L := [some (16, v0), some (11, v1), some (0, v2), none, none, none]) (by decide +kernel) rfl rfl hd (fun d hd => ?_)
  unfold F157 at e
  refine zF_blk (m := []) (d := 0) (b := B157_0) (gs := []) (c' := (5, [some (16, v0), some (11, v1), some (0, v2), some (0, 0), some (0, 0), none], [], (h, hm, o))) K157_0 rfl trivial ?_
  exact T157_0 hd zFu v0 v1 v2 0 0 h _ e
noncomputable def B156_0 : List zRow := [(15, .iconst (-1), 1, (0, 0, 0))]
theorem K156_0 : zRk 156 B156_0 = true := zRw_ok (by decide +kernel)
noncomputable def B156_1 : List zRow := [(17, .iconst 0, 1, (0, 0, 0)), (18, .istore_n 2, 1, (0, 0, 0)), (19, .iconst 0, 1, (0, 0, 0)), (20, .istore_n 3, 1, (0, 0, 0))]
theorem K156_1 : zRk 156 B156_1 = true := zRw_ok (by decide +kernel)
noncomputable def B156_2 : List zRow := [(10, .iload_n 1, 1, (0, 0, 0)), (11, .iconst (-1), 1, (0, 0, 0)), (12, .if_icmp .ge 5, 3, (0, 0, 0))]
theorem K156_2 : zRk 156 B156_2 = true := zRw_ok (by decide +kernel)
noncomputable def B156_3 : List zRow := [(0, .aload_n 0, 1, (0, 0, 0)), (1, .getfield 42, 3, (11, 4, 27)), (4, .getfield 351, 3, (6, 0, 0)), (7, .ifCond .eq 8, 3, (0, 0, 0))]
theorem K156_3 : zRk 156 B156_3 = true := zRw_ok (by decide +kernel)
noncomputable def B156_4 : List zRow := [(72, .iconst (-1), 1, (0, 0, 0))]
theorem K156_4 : zRk 156 B156_4 = true := zRw_ok (by decide +kernel)
noncomputable def B156_5 : List zRow := [(68, .iload_n 2, 1, (0, 0, 0)), (69, .goto 4, 3, (0, 0, 0))]
theorem K156_5 : zRk 156 B156_5 = true := zRw_ok (by decide +kernel)
noncomputable def B156_6 : List zRow := [(63, .iload_n 1, 1, (0, 0, 0)), (64, .iconst (-1), 1, (0, 0, 0)), (65, .if_icmp .ne 7, 3, (0, 0, 0))]
theorem K156_6 : zRk 156 B156_6 = true := zRw_ok (by decide +kernel)
noncomputable def B156_7 : List zRow := [(32, .aload_n 0, 1, (0, 0, 0)), (33, .getfield 42, 3, (11, 4, 27)), (36, .aload_n 0, 1, (0, 0, 0)), (37, .getfield 56, 3, (11, 6, 7)), (40, .iload_n 3, 1, (0, 0, 0))]
theorem K156_7 : zRk 156 B156_7 = true := zRw_ok (by decide +kernel)
noncomputable def B156_8 : List zRow := [(54, .iinc 2 1, 3, (0, 0, 0))]
theorem K156_8 : zRk 156 B156_8 = true := zRw_ok (by decide +kernel)
noncomputable def B156_9 : List zRow := [(52, .iload_n 3, 1, (0, 0, 0))]
theorem K156_9 : zRk 156 B156_9 = true := zRw_ok (by decide +kernel)
noncomputable def B156_10 : List zRow := [(47, .iload_n 2, 1, (0, 0, 0)), (48, .iload_n 1, 1, (0, 0, 0)), (49, .if_icmp .ne 5, 3, (0, 0, 0))]
theorem K156_10 : zRk 156 B156_10 = true := zRw_ok (by decide +kernel)
noncomputable def B156_11 : List zRow := [(44, .ifCond .eq 13, 3, (0, 0, 0))]
theorem K156_11 : zRk 156 B156_11 = true := zRw_ok (by decide +kernel)
noncomputable def B156_12 : List zRow := [(21, .iload_n 3, 1, (0, 0, 0)), (22, .aload_n 0, 1, (0, 0, 0)), (23, .getfield 56, 3, (11, 6, 7)), (26, .getfield 354, 3, (1, 1, 0)), (29, .if_icmp .ge 34, 3, (0, 0, 0))]
theorem K156_12 : zRk 156 B156_12 = true := zRw_ok (by decide +kernel)
noncomputable def B156_13 : List zRow := [(57, .iinc 3 1, 3, (0, 0, 0)), (60, .goto (-39), 3, (0, 0, 0))]
theorem K156_13 : zRk 156 B156_13 = true := zRw_ok (by decide +kernel)
def F156_1 (k0 : Int → Int → Int → zHC → Option (Int × zHC)) (v1 : Int) (v2 : Int) (v3 : Int) (h : zHC) : Option (Int × zHC) := k0 v1 v2 (wadd v3 1) h
set_option maxRecDepth 100000 in
theorem T156_1 {spec : zRn zH2} {hm : zHM} {o : Int → Int} {d : Nat} (hd : 3 ≤ d) (k0 : Int → Int → Int → zHC → Option (Int × zHC)) (hk0 : ∀ (v1 : Int) (v2 : Int) (v3 : Int) (h : zHC) (v : (Int × zHC)), k0 v1 v2 v3 h = some v → zFin 0 (fun _ => 0) (zRu2 spec d) 156 (some (0, v.1)) (v.2, hm, o) (21, [some (21, 0), some (0, v1), some (0, v2), some (0, v3)], [], (h, hm, o))) (v1 : Int) (v2 : Int) (v3 : Int) (h : zHC) (v : (Int × zHC)) (e : F156_1 k0 v1 v2 v3 h = some v) : zFin 0 (fun _ => 0) (zRu2 spec d) 156 (some (0, v.1)) (v.2, hm, o) (57, [some (21, 0), some (0, v1), some (0, v2), some (0, v3)], [], (h, hm, o)) := by
  unfold F156_1 at e
  refine zF_blk (m := []) (d := 0) (b := B156_13) (gs := []) (c' := (21, [some (21, 0), some (0, v1), some (0, v2), some (0, (wadd v3 1))], [], (h, hm, o))) K156_13 rfl trivial ?_
  exact hk0 v1 v2 (wadd v3 1) h _ e
def F156_0 : Nat → Int → Int → Int → zHC → Option (Int × zHC)
  | 0, _, _, _, _ => none
  | n + 1, v1, v2, v3, h => if (h 65 0 0) ≤ v3 then if ¬ v1 = (-1) then some ((-1), h) else some (v2, h) else (F157 0 0 v3 h).bind fun r1 => if r1.1 = 0 then F156_1 (F156_0 n) v1 v2 v3 r1.2 else if ¬ v2 = v1 then F156_1 (F156_0 n) v1 (wadd v2 1) v3 r1.2 else some (v3, r1.2)
set_option maxRecDepth 100000 in
theorem T156_0 {spec : zRn zH2} {hm : zHM} {o : Int → Int} {d : Nat} (hd : 3 ≤ d) : ∀ (n : Nat) (v1 : Int) (v2 : Int) (v3 : Int) (h : zHC) (v : (Int × zHC)), F156_0 n v1 v2 v3 h = some v → zFin 0 (fun _ => 0) (zRu2 spec d) 156 (some (0, v.1)) (v.2, hm, o) (21, [some (21, 0), some (0, v1), some (0, v2), some (0, v3)], [], (h, hm, o)) := by
  intro n
  induction n with
  | zero => intro v1 v2 v3 h v e; unfold F156_0 at e; cases e
  | succ n hk0 =>
    intro v1 v2 v3 h v e
    unfold F156_0 at e
    rcases zI_s e with ⟨q1, e⟩ | ⟨q1, e⟩
    · refine zF_blk (m := []) (d := 1) (b := B156_12) (gs := [(h 65 0 0) ≤ v3]) (c' := (63, [some (21, 0), some (0, v1), some (0, v2), some (0, v3)], [], (h, hm, o))) K156_12 rfl ⟨q1, trivial⟩ ?_
      rcases zI_s e with ⟨q2, e⟩ | ⟨q2, e⟩
      · refine zF_blk (m := []) (d := 1) (b := B156_6) (gs := [¬ v1 = (-1)]) (c' := (72, [some (21, 0), some (0, v1), some (0, v2), some (0, v3)], [], (h, hm, o))) K156_6 rfl ⟨q2, trivial⟩ ?_
        refine zF_blk (m := []) (d := 0) (b := B156_4) (gs := []) (c' := (73, [some (21, 0), some (0, v1), some (0, v2), some (0, v3)], [(0, (-1))], (h, hm, o))) K156_4 rfl trivial ?_
        exact zF_riC (zRe1_w (by decide +kernel)) e
      · refine zF_blk (m := []) (d := 0) (b := B156_6) (gs := [¬ (¬ v1 = (-1))]) (c' := (68, [some (21, 0), some (0, v1), some (0, v2), some (0, v3)], [], (h, hm, o))) K156_6 rfl ⟨q2, trivial⟩ ?_
        refine zF_blk (m := []) (d := 0) (b := B156_5) (gs := []) (c' := (73, [some (21, 0), some (0, v1), some (0, v2), some (0, v3)], [(0, v2)], (h, hm, o))) K156_5 rfl trivial ?_
        exact zF_riC (zRe1_w (by decide +kernel)) e
    · refine zF_blk (m := []) (d := 0) (b := B156_12) (gs := [¬ ((h 65 0 0) ≤ v3)]) (c' := (32, [some (21, 0), some (0, v1), some (0, v2), some (0, v3)], [], (h, hm, o))) K156_12 rfl ⟨q1, trivial⟩ ?_
      obtain ⟨r1, q3, e⟩ := zB_s e
      refine zF_blk (m := []) (d := 0) (b := B156_7) (gs := []) (c' := (41, [some (21, 0), some (0, v1), some (0, v2), some (0, v3)], [(0, v3), (11, 0), (16, 0)], (h, hm, o))) K156_7 rfl trivial ?_
      refine zF_call (k := 157) (cl := 6) (n := 3) (i := .invokevirtual 355) (args := [(16, 0), (11, 0), (0, v3)]) (rest := []) (g1 := (r1.2, hm, o)) (r1 := some (0, r1.1)) (zCk1_w (by decide +kernel)) rfl rfl rfl (st' := [(0, r1.1)]) rfl (S157 (Nat.le_trans (by decide) hd) 0 0 v3 h _ q3) ?_
      rcases zI_s e with ⟨q4, e⟩ | ⟨q4, e⟩
      · refine zF_blk (m := []) (d := 1) (b := B156_11) (gs := [r1.1 = 0]) (c' := (57, [some (21, 0), some (0, v1), some (0, v2), some (0, v3)], [], (r1.2, hm, o))) K156_11 rfl ⟨q4, trivial⟩ ?_
        exact T156_1 hd (F156_0 n) hk0 v1 v2 v3 r1.2 _ e
      · refine zF_blk (m := []) (d := 0) (b := B156_11) (gs := [¬ (r1.1 = 0)]) (c' := (47, [some (21, 0), some (0, v1), some (0, v2), some (0, v3)], [], (r1.2, hm, o))) K156_11 rfl ⟨q4, trivial⟩ ?_
        rcases zI_s e with ⟨q5, e⟩ | ⟨q5, e⟩
        · refine zF_blk (m := []) (d := 1) (b := B156_10) (gs := [¬ v2 = v1]) (c' := (54, [some (21, 0), some (0, v1), some (0, v2), some (0, v3)], [], (r1.2, hm, o))) K156_10 rfl ⟨q5, trivial⟩ ?_
          refine zF_blk (m := []) (d := 0) (b := B156_8) (gs := []) (c' := (57, [some (21, 0), some (0, v1), some (0, (wadd v2 1)), some (0, v3)], [], (r1.2, hm, o))) K156_8 rfl trivial ?_
          exact T156_1 hd (F156_0 n) hk0 v1 (wadd v2 1) v3 r1.2 _ e
        · refine zF_blk (m := []) (d := 0) (b := B156_10) (gs := [¬ (¬ v2 = v1)]) (c' := (52, [some (21, 0), some (0, v1), some (0, v2), some (0, v3)], [], (r1.2, hm, o))) K156_10 rfl ⟨q5, trivial⟩ ?_
          refine zF_blk (m := []) (d := 0) (b := B156_9) (gs := []) (c' := (53, [some (21, 0), some (0, v1), some (0, v2), some (0, v3)], [(0, v3)], (r1.2, hm, o))) K156_9 rfl trivial ?_
          exact zF_riC (zRe1_w (by decide +kernel)) e
/-- EchoVale.said(I)I -/
def F156 (v1 : Int) (h : zHC) : Option (Int × zHC) := if (h 384 0 0) = 0 then some ((-1), h) else if (-1) ≤ v1 then F156_0 zFu v1 0 0 h else some ((-1), h)
set_option maxRecDepth 100000 in
theorem S156 {spec : zRn zH2} {hm : zHM} {o : Int → Int} {d : Nat} (hd : 4 ≤ d) (v1 : Int) (h : zHC) (v : (Int × zHC)) (e : F156 v1 h = some v) : zRu2 spec d 156 [(21, 0), (0, v1)] (h, hm, o) (some (0, v.1)) (v.2, hm, o) := by
  refine zF_in (D := 3) (mx := 4) (L := [some (21, 0), some (0, v1), none, none]) (by decide +kernel) rfl rfl hd (fun d hd => ?_)
  unfold F156 at e
  rcases zI_s e with ⟨q1, e⟩ | ⟨q1, e⟩
  · refine zF_blk (m := []) (d := 1) (b := B156_3) (gs := [(h 384 0 0) = 0]) (c' := (15, [some (21, 0), some (0, v1), none, none], [], (h, hm, o))) K156_3 rfl ⟨q1, trivial⟩ ?_
    refine zF_blk (m := []) (d := 0) (b := B156_0) (gs := []) (c' := (16, [some (21, 0), some (0, v1), none, none], [(0, (-1))], (h, hm, o))) K156_0 rfl trivial ?_
    exact zF_riC (zRe1_w (by decide +kernel)) e
  · refine zF_blk (m := []) (d := 0) (b := B156_3) (gs := [¬ ((h 384 0 0) = 0)]) (c' := (10, [some (21, 0), some (0, v1), none, none], [], (h, hm, o))) K156_3 rfl ⟨q1, trivial⟩ ?_
    rcases zI_s e with ⟨q2, e⟩ | ⟨q2, e⟩
    · refine zF_blk (m := []) (d := 1) (b := B156_2) (gs := [(-1) ≤ v1]) (c' := (17, [some (21, 0), some (0, v1), none, none], [], (h, hm, o))) K156_2 rfl ⟨q2, trivial⟩ ?_
      refine zF_blk (m := []) (d := 0) (b := B156_1) (gs := []) (c' := (21, [some (21, 0), some (0, v1), some (0, 0), some (0, 0)], [], (h, hm, o))) K156_1 rfl trivial ?_
      exact T156_0 hd zFu v1 0 0 h _ e
    · refine zF_blk (m := []) (d := 0) (b := B156_2) (gs := [¬ ((-1) ≤ v1)]) (c' := (15, [some (21, 0), some (0, v1), none, none], [], (h, hm, o))) K156_2 rfl ⟨q2, trivial⟩ ?_
      refine zF_blk (m := []) (d := 0) (b := B156_0) (gs := []) (c' := (16, [some (21, 0), some (0, v1), none, none], [(0, (-1))], (h, hm, o))) K156_0 rfl trivial ?_
      exact zF_riC (zRe1_w (by decide +kernel)) e
noncomputable def B291_0 : List zRow := [(0, .aload_n 0, 1, (0, 0, 0)), (1, .iload_n 1, 1, (0, 0, 0)), (2, .bipush 6, 2, (0, 0, 0))]
theorem K291_0 : zRk 291 B291_0 = true := zRw_ok (by decide +kernel)
noncomputable def B291_1 : List zRow := [(12, .iconst 0, 1, (0, 0, 0)), (13, .istore_n 2, 1, (0, 0, 0))]
theorem K291_1 : zRk 291 B291_1 = true := zRw_ok (by decide +kernel)
noncomputable def B291_2 : List zRow := [(10, .iconst 0, 1, (0, 0, 0))]
theorem K291_2 : zRk 291 B291_2 = true := zRw_ok (by decide +kernel)
noncomputable def B291_3 : List zRow := [(7, .ifCond .le 5, 3, (0, 0, 0))]
theorem K291_3 : zRk 291 B291_3 = true := zRw_ok (by decide +kernel)
noncomputable def B291_4 : List zRow := [(52, .iconst 1, 1, (0, 0, 0))]
theorem K291_4 : zRk 291 B291_4 = true := zRw_ok (by decide +kernel)
noncomputable def B291_5 : List zRow := [(24, .aload_n 0, 1, (0, 0, 0)), (25, .iload_n 1, 1, (0, 0, 0)), (26, .iload_n 2, 1, (0, 0, 0)), (27, .iconst 0, 1, (0, 0, 0))]
theorem K291_5 : zRk 291 B291_5 = true := zRw_ok (by decide +kernel)
noncomputable def B291_6 : List zRow := [(34, .aload_n 0, 1, (0, 0, 0)), (35, .iload_n 1, 1, (0, 0, 0)), (36, .iload_n 2, 1, (0, 0, 0)), (37, .iconst 2, 1, (0, 0, 0))]
theorem K291_6 : zRk 291 B291_6 = true := zRw_ok (by decide +kernel)
noncomputable def B291_7 : List zRow := [(44, .iconst 0, 1, (0, 0, 0))]
theorem K291_7 : zRk 291 B291_7 = true := zRw_ok (by decide +kernel)
noncomputable def B291_8 : List zRow := [(41, .ifCond .ne 5, 3, (0, 0, 0))]
theorem K291_8 : zRk 291 B291_8 = true := zRw_ok (by decide +kernel)
noncomputable def B291_9 : List zRow := [(31, .ifCond .le 15, 3, (0, 0, 0))]
theorem K291_9 : zRk 291 B291_9 = true := zRw_ok (by decide +kernel)
noncomputable def B291_10 : List zRow := [(14, .iload_n 2, 1, (0, 0, 0)), (15, .aload_n 0, 1, (0, 0, 0)), (16, .getfield 13, 3, (12, 14, 5251442)), (19, .iconst 2, 1, (0, 0, 0)), (20, .iaload, 1, (0, 0, 0)), (21, .if_icmp .ge 31, 3, (0, 0, 0))]
theorem K291_10 : zRk 291 B291_10 = true := zRw_ok (by decide +kernel)
noncomputable def B291_11 : List zRow := [(46, .iinc 2 1, 3, (0, 0, 0)), (49, .goto (-35), 3, (0, 0, 0))]
theorem K291_11 : zRk 291 B291_11 = true := zRw_ok (by decide +kernel)
def F291_1 (k0 : Int → Int → Option Int) (h : zHM) (v1 : Int) (v2 : Int) : Option Int := k0 v1 (wadd v2 1)
set_option maxRecDepth 100000 in
theorem T291_1 {spec : zRn zH2} {hc : zHC} {o : Int → Int} {d : Nat} (hd : 1 ≤ d) (h : zHM) (k0 : Int → Int → Option Int) (hk0 : ∀ (v1 : Int) (v2 : Int) (v : Int), k0 v1 v2 = some v → zFin 0 (fun _ => 0) (zRu2 spec d) 291 (some (0, v)) (hc, h, o) (14, [some (22, 0), some (0, v1), some (0, v2)], [], (hc, h, o))) (v1 : Int) (v2 : Int) (v : Int) (e : F291_1 k0 h v1 v2 = some v) : zFin 0 (fun _ => 0) (zRu2 spec d) 291 (some (0, v)) (hc, h, o) (46, [some (22, 0), some (0, v1), some (0, v2)], [], (hc, h, o)) := by
  unfold F291_1 at e
  refine zF_blk (m := []) (d := 0) (b := B291_11) (gs := []) (c' := (14, [some (22, 0), some (0, v1), some (0, (wadd v2 1))], [], (hc, h, o))) K291_11 rfl trivial ?_
  exact hk0 v1 (wadd v2 1) _ e
def F291_0 (h : zHM) : Nat → Int → Int → Option Int
  | 0, _, _ => none
  | n + 1, v1, v2 => if (h 14 2) ≤ v2 then some 1 else (F219 v1 v2 0 h).bind fun r1 => if r1 ≤ 0 then F291_1 (F291_0 h n) h v1 v2 else (F219 v1 v2 2 h).bind fun r2 => if ¬ r2 = 0 then F291_1 (F291_0 h n) h v1 v2 else some 0
set_option maxRecDepth 100000 in
theorem T291_0 {spec : zRn zH2} {hc : zHC} {o : Int → Int} {d : Nat} (hd : 1 ≤ d) (h : zHM) : ∀ (n : Nat) (v1 : Int) (v2 : Int) (v : Int), F291_0 h n v1 v2 = some v → zFin 0 (fun _ => 0) (zRu2 spec d) 291 (some (0, v)) (hc, h, o) (14, [some (22, 0), some (0, v1), some (0, v2)], [], (hc, h, o)) := by
  intro n
  induction n with
  | zero => intro v1 v2 v e; unfold F291_0 at e; cases e
  | succ n hk0 =>
    intro v1 v2 v e
    unfold F291_0 at e
    rcases zI_s e with ⟨q1, e⟩ | ⟨q1, e⟩
    · refine zF_blk (m := []) (d := 1) (b := B291_10) (gs := [0 ≤ 2 ∧ 2 < 2140, (h 14 2) ≤ v2]) (c' := (52, [some (22, 0), some (0, v1), some (0, v2)], [], (hc, h, o))) K291_10 rfl ⟨by decide, q1, trivial⟩ ?_
      refine zF_blk (m := []) (d := 0) (b := B291_4) (gs := []) (c' := (53, [some (22, 0), some (0, v1), some (0, v2)], [(0, 1)], (hc, h, o))) K291_4 rfl trivial ?_
      obtain rfl := Option.some.inj e
      exact zF_rb (zRe1_w (by decide +kernel)) (Or.inr rfl)
    · refine zF_blk (m := []) (d := 0) (b := B291_10) (gs := [0 ≤ 2 ∧ 2 < 2140, ¬ ((h 14 2) ≤ v2)]) (c' := (24, [some (22, 0), some (0, v1), some (0, v2)], [], (hc, h, o))) K291_10 rfl ⟨by decide, q1, trivial⟩ ?_
      obtain ⟨r1, q2, e⟩ := zB_s e
      refine zF_blk (m := []) (d := 0) (b := B291_5) (gs := []) (c' := (28, [some (22, 0), some (0, v1), some (0, v2)], [(0, 0), (0, v2), (0, v1), (22, 0)], (hc, h, o))) K291_5 rfl trivial ?_
      refine zF_call (k := 219) (cl := 12) (n := 4) (i := .invokevirtual 269) (args := [(22, 0), (0, v1), (0, v2), (0, 0)]) (rest := []) (g1 := (hc, h, o)) (r1 := some (0, r1)) (zCk1_w (by decide +kernel)) rfl rfl rfl (st' := [(0, r1)]) rfl (S219 (Nat.le_trans (by decide) hd) v1 v2 0 h _ q2) ?_
      rcases zI_s e with ⟨q3, e⟩ | ⟨q3, e⟩
      · refine zF_blk (m := []) (d := 1) (b := B291_9) (gs := [r1 ≤ 0]) (c' := (46, [some (22, 0), some (0, v1), some (0, v2)], [], (hc, h, o))) K291_9 rfl ⟨q3, trivial⟩ ?_
        exact T291_1 hd h (F291_0 h n) hk0 v1 v2 _ e
      · refine zF_blk (m := []) (d := 0) (b := B291_9) (gs := [¬ (r1 ≤ 0)]) (c' := (34, [some (22, 0), some (0, v1), some (0, v2)], [], (hc, h, o))) K291_9 rfl ⟨q3, trivial⟩ ?_
        obtain ⟨r2, q4, e⟩ := zB_s e
        refine zF_blk (m := []) (d := 0) (b := B291_6) (gs := []) (c' := (38, [some (22, 0), some (0, v1), some (0, v2)], [(0, 2), (0, v2), (0, v1), (22, 0)], (hc, h, o))) K291_6 rfl trivial ?_
        refine zF_call (k := 219) (cl := 12) (n := 4) (i := .invokevirtual 269) (args := [(22, 0), (0, v1), (0, v2), (0, 2)]) (rest := []) (g1 := (hc, h, o)) (r1 := some (0, r2)) (zCk1_w (by decide +kernel)) rfl rfl rfl (st' := [(0, r2)]) rfl (S219 (Nat.le_trans (by decide) hd) v1 v2 2 h _ q4) ?_
        rcases zI_s e with ⟨q5, e⟩ | ⟨q5, e⟩
        · refine zF_blk (m := []) (d := 1) (b := B291_8) (gs := [¬ r2 = 0]) (c' := (46, [some (22, 0), some (0, v1), some (0, v2)], [], (hc, h, o))) K291_8 rfl ⟨q5, trivial⟩ ?_
          exact T291_1 hd h (F291_0 h n) hk0 v1 v2 _ e
        · refine zF_blk (m := []) (d := 0) (b := B291_8) (gs := [¬ (¬ r2 = 0)]) (c' := (44, [some (22, 0), some (0, v1), some (0, v2)], [], (hc, h, o))) K291_8 rfl ⟨q5, trivial⟩ ?_
          refine zF_blk (m := []) (d := 0) (b := B291_7) (gs := []) (c' := (45, [some (22, 0), some (0, v1), some (0, v2)], [(0, 0)], (hc, h, o))) K291_7 rfl trivial ?_
          obtain rfl := Option.some.inj e
          exact zF_rb (zRe1_w (by decide +kernel)) (Or.inl rfl)
/-- EchoValeModel.isLost(I)Z -/
def F291 (v1 : Int) (h : zHM) : Option Int := (F213 v1 6 h).bind fun r1 => if r1 ≤ 0 then F291_0 h zFu v1 0 else some 0
set_option maxRecDepth 100000 in
theorem S291 {spec : zRn zH2} {hc : zHC} {o : Int → Int} {d : Nat} (hd : 2 ≤ d) (v1 : Int) (h : zHM) (v : Int) (e : F291 v1 h = some v) : zRu2 spec d 291 [(22, 0), (0, v1)] (hc, h, o) (some (0, v)) (hc, h, o) := by
  refine zF_in (D := 1) (mx := 3) (L := [some (22, 0), some (0, v1), none]) (by decide +kernel) rfl rfl hd (fun d hd => ?_)
  unfold F291 at e
  obtain ⟨r1, q1, e⟩ := zB_s e
  refine zF_blk (m := []) (d := 0) (b := B291_0) (gs := []) (c' := (4, [some (22, 0), some (0, v1), none], [(0, 6), (0, v1), (22, 0)], (hc, h, o))) K291_0 rfl trivial ?_
  refine zF_call (k := 213) (cl := 12) (n := 3) (i := .invokevirtual 247) (args := [(22, 0), (0, v1), (0, 6)]) (rest := []) (g1 := (hc, h, o)) (r1 := some (0, r1)) (zCk1_w (by decide +kernel)) rfl rfl rfl (st' := [(0, r1)]) rfl (S213 (Nat.le_trans (by decide) hd) v1 6 h _ q1) ?_
  rcases zI_s e with ⟨q2, e⟩ | ⟨q2, e⟩
  · refine zF_blk (m := []) (d := 1) (b := B291_3) (gs := [r1 ≤ 0]) (c' := (12, [some (22, 0), some (0, v1), none], [], (hc, h, o))) K291_3 rfl ⟨q2, trivial⟩ ?_
    refine zF_blk (m := []) (d := 0) (b := B291_1) (gs := []) (c' := (14, [some (22, 0), some (0, v1), some (0, 0)], [], (hc, h, o))) K291_1 rfl trivial ?_
    exact T291_0 hd h zFu v1 0 _ e
  · refine zF_blk (m := []) (d := 0) (b := B291_3) (gs := [¬ (r1 ≤ 0)]) (c' := (10, [some (22, 0), some (0, v1), none], [], (hc, h, o))) K291_3 rfl ⟨q2, trivial⟩ ?_
    refine zF_blk (m := []) (d := 0) (b := B291_2) (gs := []) (c' := (11, [some (22, 0), some (0, v1), none], [(0, 0)], (hc, h, o))) K291_2 rfl trivial ?_
    obtain rfl := Option.some.inj e
    exact zF_rb (zRe1_w (by decide +kernel)) (Or.inl rfl)
noncomputable def B290_0 : List zRow := [(0, .sipush 1900, 3, (0, 0, 0)), (3, .iconst 4, 1, (0, 0, 0)), (4, .iload_n 1, 1, (0, 0, 0))]
theorem K290_0 : zRk 290 B290_0 = true := zRw_ok (by decide +kernel)
noncomputable def B290_1 : List zRow := [(5, .imul, 1, (0, 0, 0))]
theorem K290_1 : zRk 290 B290_1 = true := zRw_ok (by decide +kernel)
noncomputable def B290_2 : List zRow := [(100, .aload_n 0, 1, (0, 0, 0)), (101, .iload 4, 2, (0, 0, 0)), (103, .iload_n 2, 1, (0, 0, 0))]
theorem K290_2 : zRk 290 B290_2 = true := zRw_ok (by decide +kernel)
noncomputable def B290_3 : List zRow := [(114, .iconst 0, 1, (0, 0, 0))]
theorem K290_3 : zRk 290 B290_3 = true := zRw_ok (by decide +kernel)
noncomputable def B290_4 : List zRow := [(110, .iconst 1, 1, (0, 0, 0)), (111, .goto 4, 3, (0, 0, 0))]
theorem K290_4 : zRk 290 B290_4 = true := zRw_ok (by decide +kernel)
noncomputable def B290_5 : List zRow := [(107, .ifCond .ne 7, 3, (0, 0, 0))]
theorem K290_5 : zRk 290 B290_5 = true := zRw_ok (by decide +kernel)
noncomputable def B290_6 : List zRow := [(6, .iadd, 1, (0, 0, 0)), (7, .istore_n 3, 1, (0, 0, 0)), (8, .aload_n 0, 1, (0, 0, 0)), (9, .getfield 13, 3, (12, 14, 5251442)), (12, .iload_n 3, 1, (0, 0, 0)), (13, .iconst 1, 1, (0, 0, 0)), (14, .iadd, 1, (0, 0, 0)), (15, .iaload, 1, (0, 0, 0)), (16, .istore 4, 2, (0, 0, 0)), (18, .aload_n 0, 1, (0, 0, 0)), (19, .getfield 13, 3, (12, 14, 5251442)), (22, .iload_n 3, 1, (0, 0, 0)), (23, .iconst 2, 1, (0, 0, 0)), (24, .iadd, 1, (0, 0, 0)), (25, .iaload, 1, (0, 0, 0)), (26, .istore 5, 2, (0, 0, 0)), (28, .aload_n 0, 1, (0, 0, 0)), (29, .getfield 13, 3, (12, 14, 5251442)), (32, .iload_n 3, 1, (0, 0, 0)), (33, .iaload, 1, (0, 0, 0)), (34, .lookupswitch 188 #[(1, 66), (2, 82), (3, 108), (63, 134), (64, 140), (65, 159), (66, 171)], 66, (0, 0, 0))]
theorem K290_6 : zRk 290 B290_6 = true := by decide +kernel
noncomputable def B290_7 : List zRow := [(116, .aload_n 0, 1, (0, 0, 0)), (117, .iload 4, 2, (0, 0, 0)), (119, .iload_n 2, 1, (0, 0, 0))]
theorem K290_7 : zRk 290 B290_7 = true := zRw_ok (by decide +kernel)
noncomputable def B290_8 : List zRow := [(140, .iconst 0, 1, (0, 0, 0))]
theorem K290_8 : zRk 290 B290_8 = true := zRw_ok (by decide +kernel)
noncomputable def B290_9 : List zRow := [(126, .aload_n 0, 1, (0, 0, 0)), (127, .iload 5, 2, (0, 0, 0)), (129, .iload_n 2, 1, (0, 0, 0))]
theorem K290_9 : zRk 290 B290_9 = true := zRw_ok (by decide +kernel)
noncomputable def B290_10 : List zRow := [(136, .iconst 1, 1, (0, 0, 0)), (137, .goto 4, 3, (0, 0, 0))]
theorem K290_10 : zRk 290 B290_10 = true := zRw_ok (by decide +kernel)
noncomputable def B290_11 : List zRow := [(133, .ifCond .eq 7, 3, (0, 0, 0))]
theorem K290_11 : zRk 290 B290_11 = true := zRw_ok (by decide +kernel)
noncomputable def B290_12 : List zRow := [(123, .ifCond .eq 17, 3, (0, 0, 0))]
theorem K290_12 : zRk 290 B290_12 = true := zRw_ok (by decide +kernel)
noncomputable def B290_13 : List zRow := [(142, .aload_n 0, 1, (0, 0, 0)), (143, .iload 4, 2, (0, 0, 0)), (145, .iload_n 2, 1, (0, 0, 0))]
theorem K290_13 : zRk 290 B290_13 = true := zRw_ok (by decide +kernel)
noncomputable def B290_14 : List zRow := [(152, .aload_n 0, 1, (0, 0, 0)), (153, .iload 5, 2, (0, 0, 0)), (155, .iload_n 2, 1, (0, 0, 0))]
theorem K290_14 : zRk 290 B290_14 = true := zRw_ok (by decide +kernel)
noncomputable def B290_15 : List zRow := [(166, .iconst 0, 1, (0, 0, 0))]
theorem K290_15 : zRk 290 B290_15 = true := zRw_ok (by decide +kernel)
noncomputable def B290_16 : List zRow := [(159, .ifCond .eq 7, 3, (0, 0, 0))]
theorem K290_16 : zRk 290 B290_16 = true := zRw_ok (by decide +kernel)
noncomputable def B290_17 : List zRow := [(149, .ifCond .ne 13, 3, (0, 0, 0))]
theorem K290_17 : zRk 290 B290_17 = true := zRw_ok (by decide +kernel)
noncomputable def B290_18 : List zRow := [(168, .aload_n 0, 1, (0, 0, 0)), (169, .iload_n 2, 1, (0, 0, 0))]
theorem K290_18 : zRk 290 B290_18 = true := zRw_ok (by decide +kernel)
noncomputable def B290_19 : List zRow := [(174, .aload_n 0, 1, (0, 0, 0)), (175, .iload_n 2, 1, (0, 0, 0)), (176, .iconst 5, 1, (0, 0, 0))]
theorem K290_19 : zRk 290 B290_19 = true := zRw_ok (by decide +kernel)
noncomputable def B290_20 : List zRow := [(191, .iconst 0, 1, (0, 0, 0))]
theorem K290_20 : zRk 290 B290_20 = true := zRw_ok (by decide +kernel)
noncomputable def B290_21 : List zRow := [(187, .iconst 1, 1, (0, 0, 0)), (188, .goto 4, 3, (0, 0, 0))]
theorem K290_21 : zRk 290 B290_21 = true := zRw_ok (by decide +kernel)
noncomputable def B290_22 : List zRow := [(183, .iconst 1, 1, (0, 0, 0)), (184, .if_icmp .le 7, 3, (0, 0, 0))]
theorem K290_22 : zRk 290 B290_22 = true := zRw_ok (by decide +kernel)
noncomputable def B290_23 : List zRow := [(193, .aload_n 0, 1, (0, 0, 0)), (194, .iload_n 2, 1, (0, 0, 0)), (195, .iconst 5, 1, (0, 0, 0))]
theorem K290_23 : zRk 290 B290_23 = true := zRw_ok (by decide +kernel)
noncomputable def B290_24 : List zRow := [(199, .iload 4, 2, (0, 0, 0))]
theorem K290_24 : zRk 290 B290_24 = true := zRw_ok (by decide +kernel)
noncomputable def B290_25 : List zRow := [(205, .aload_n 0, 1, (0, 0, 0)), (206, .iload_n 2, 1, (0, 0, 0)), (207, .iconst 1, 1, (0, 0, 0))]
theorem K290_25 : zRk 290 B290_25 = true := zRw_ok (by decide +kernel)
noncomputable def B290_26 : List zRow := [(220, .iconst 0, 1, (0, 0, 0))]
theorem K290_26 : zRk 290 B290_26 = true := zRw_ok (by decide +kernel)
noncomputable def B290_27 : List zRow := [(216, .iconst 1, 1, (0, 0, 0)), (217, .goto 4, 3, (0, 0, 0))]
theorem K290_27 : zRk 290 B290_27 = true := zRw_ok (by decide +kernel)
noncomputable def B290_28 : List zRow := [(211, .iload 4, 2, (0, 0, 0)), (213, .if_icmp .ne 7, 3, (0, 0, 0))]
theorem K290_28 : zRk 290 B290_28 = true := zRw_ok (by decide +kernel)
noncomputable def B290_29 : List zRow := [(268, .bipush 6, 2, (0, 0, 0))]
theorem K290_29 : zRk 290 B290_29 = true := zRw_ok (by decide +kernel)
noncomputable def B290_30 : List zRow := [(264, .iconst 2, 1, (0, 0, 0)), (265, .goto 5, 3, (0, 0, 0))]
theorem K290_30 : zRk 290 B290_30 = true := zRw_ok (by decide +kernel)
noncomputable def B290_31 : List zRow := [(257, .iload 6, 2, (0, 0, 0)), (259, .bipush 19, 2, (0, 0, 0)), (261, .if_icmp .ne 7, 3, (0, 0, 0))]
theorem K290_31 : zRk 290 B290_31 = true := zRw_ok (by decide +kernel)
noncomputable def B290_32 : List zRow := [(253, .iconst 4, 1, (0, 0, 0)), (254, .goto 16, 3, (0, 0, 0))]
theorem K290_32 : zRk 290 B290_32 = true := zRw_ok (by decide +kernel)
noncomputable def B290_33 : List zRow := [(246, .iload 6, 2, (0, 0, 0)), (248, .bipush 18, 2, (0, 0, 0)), (250, .if_icmp .ne 7, 3, (0, 0, 0))]
theorem K290_33 : zRk 290 B290_33 = true := zRw_ok (by decide +kernel)
noncomputable def B290_34 : List zRow := [(242, .iconst 0, 1, (0, 0, 0)), (243, .goto 27, 3, (0, 0, 0))]
theorem K290_34 : zRk 290 B290_34 = true := zRw_ok (by decide +kernel)
noncomputable def B290_35 : List zRow := [(222, .aload_n 0, 1, (0, 0, 0)), (223, .getfield 13, 3, (12, 14, 5251442)), (226, .iload_n 3, 1, (0, 0, 0)), (227, .iaload, 1, (0, 0, 0)), (228, .bipush 50, 2, (0, 0, 0)), (230, .isub, 1, (0, 0, 0)), (231, .istore 6, 2, (0, 0, 0)), (233, .aload_n 0, 1, (0, 0, 0)), (234, .iload_n 2, 1, (0, 0, 0)), (235, .iload 6, 2, (0, 0, 0)), (237, .bipush 17, 2, (0, 0, 0)), (239, .if_icmp .ne 7, 3, (0, 0, 0))]
theorem K290_35 : zRk 290 B290_35 = true := zRw_ok (by decide +kernel)
noncomputable def B290_36 : List zRow := [(342, .iconst 0, 1, (0, 0, 0))]
theorem K290_36 : zRk 290 B290_36 = true := zRw_ok (by decide +kernel)
noncomputable def B290_37 : List zRow := [(338, .iconst 1, 1, (0, 0, 0)), (339, .goto 4, 3, (0, 0, 0))]
theorem K290_37 : zRk 290 B290_37 = true := zRw_ok (by decide +kernel)
noncomputable def B290_38 : List zRow := [(331, .iload 7, 2, (0, 0, 0)), (333, .iload 5, 2, (0, 0, 0)), (335, .if_icmp .le 7, 3, (0, 0, 0))]
theorem K290_38 : zRk 290 B290_38 = true := zRw_ok (by decide +kernel)
noncomputable def B290_39 : List zRow := [(327, .iconst 0, 1, (0, 0, 0)), (328, .goto 15, 3, (0, 0, 0))]
theorem K290_39 : zRk 290 B290_39 = true := zRw_ok (by decide +kernel)
noncomputable def B290_40 : List zRow := [(323, .iconst 1, 1, (0, 0, 0)), (324, .goto 19, 3, (0, 0, 0))]
theorem K290_40 : zRk 290 B290_40 = true := zRw_ok (by decide +kernel)
noncomputable def B290_41 : List zRow := [(316, .iload 7, 2, (0, 0, 0)), (318, .iload 5, 2, (0, 0, 0)), (320, .if_icmp .ne 7, 3, (0, 0, 0))]
theorem K290_41 : zRk 290 B290_41 = true := zRw_ok (by decide +kernel)
noncomputable def B290_42 : List zRow := [(303, .aload_n 0, 1, (0, 0, 0)), (304, .getfield 13, 3, (12, 14, 5251442)), (307, .iload_n 3, 1, (0, 0, 0)), (308, .iconst 3, 1, (0, 0, 0)), (309, .iadd, 1, (0, 0, 0)), (310, .iaload, 1, (0, 0, 0)), (311, .bipush 61, 2, (0, 0, 0)), (313, .if_icmp .ne 18, 3, (0, 0, 0))]
theorem K290_42 : zRk 290 B290_42 = true := zRw_ok (by decide +kernel)
noncomputable def B290_43 : List zRow := [(299, .iconst 0, 1, (0, 0, 0)), (300, .goto 43, 3, (0, 0, 0))]
theorem K290_43 : zRk 290 B290_43 = true := zRw_ok (by decide +kernel)
noncomputable def B290_44 : List zRow := [(295, .iconst 1, 1, (0, 0, 0)), (296, .goto 47, 3, (0, 0, 0))]
theorem K290_44 : zRk 290 B290_44 = true := zRw_ok (by decide +kernel)
noncomputable def B290_45 : List zRow := [(288, .iload 7, 2, (0, 0, 0)), (290, .iload 5, 2, (0, 0, 0)), (292, .if_icmp .ge 7, 3, (0, 0, 0))]
theorem K290_45 : zRk 290 B290_45 = true := zRw_ok (by decide +kernel)
noncomputable def B290_46 : List zRow := [(273, .istore 7, 2, (0, 0, 0)), (275, .aload_n 0, 1, (0, 0, 0)), (276, .getfield 13, 3, (12, 14, 5251442)), (279, .iload_n 3, 1, (0, 0, 0)), (280, .iconst 3, 1, (0, 0, 0)), (281, .iadd, 1, (0, 0, 0)), (282, .iaload, 1, (0, 0, 0)), (283, .bipush 60, 2, (0, 0, 0)), (285, .if_icmp .ne 18, 3, (0, 0, 0))]
theorem K290_46 : zRk 290 B290_46 = true := zRw_ok (by decide +kernel)
noncomputable def B290_47 : List zRow := [(162, .iconst 1, 1, (0, 0, 0)), (163, .goto 4, 3, (0, 0, 0))]
theorem K290_47 : zRk 290 B290_47 = true := zRw_ok (by decide +kernel)
def F290_1 (kR : Int → Int → zHM → Option Int) (h : zHM) (v3 : Int) (v5 : Int) (s0 : Int) (s1 : Int) : Option Int := (F213 s1 s0 h).bind fun r1 => zG (0 ≤ (wadd v3 3) ∧ (wadd v3 3) < 2140) (if ¬ (h 14 (wadd v3 3)) = 60 then zG (0 ≤ (wadd v3 3) ∧ (wadd v3 3) < 2140) (if ¬ (h 14 (wadd v3 3)) = 61 then if r1 ≤ v5 then some 0 else some 1 else if ¬ r1 = v5 then some 0 else some 1) else if v5 ≤ r1 then some 0 else some 1)
set_option maxRecDepth 100000 in
theorem T290_1 {spec : zRn zH2} {hc : zHC} {o : Int → Int} {d : Nat} {DR : Nat} (hd : DR + 2 ≤ d) (kR : Int → Int → zHM → Option Int) (hkR : ∀ (d' : Nat), DR ≤ d' → ∀ (v1 : Int) (v2 : Int) (h : zHM) (v : Int), kR v1 v2 h = some v → zRu2 spec d' 290 [(22, 0), (0, v1), (0, v2)] (hc, h, o) (some (0, v)) (hc, h, o)) (h : zHM) (v3 : Int) (v5 : Int) (s0 : Int) (s1 : Int) (v : Int) (e : F290_1 kR h v3 v5 s0 s1 = some v) : zFin 0 (fun _ => 0) (zRu2 spec d) 290 (some (0, v)) (hc, h, o) (270, [some (22, 0), none, none, some (0, v3), none, some (0, v5), none, none], [(0, s0), (0, s1), (22, 0)], (hc, h, o)) := by
  unfold F290_1 at e
  obtain ⟨r1, q1, e⟩ := zB_s e
  refine zF_call (k := 213) (cl := 12) (n := 3) (i := .invokevirtual 247) (args := [(22, 0), (0, s1), (0, s0)]) (rest := []) (g1 := (hc, h, o)) (r1 := some (0, r1)) (zCk1_w (by decide +kernel)) rfl rfl rfl (st' := [(0, r1)]) rfl (S213 (by omega) s1 s0 h _ q1) ?_
  obtain ⟨q2, e⟩ := zG_s e
  rcases zI_s e with ⟨q3, e⟩ | ⟨q3, e⟩
  · refine zF_blk (m := []) (d := 1) (b := B290_46) (gs := [0 ≤ (wadd v3 3) ∧ (wadd v3 3) < 2140, ¬ (h 14 (wadd v3 3)) = 60]) (c' := (303, [some (22, 0), none, none, some (0, v3), none, some (0, v5), none, some (0, r1)], [], (hc, h, o))) K290_46 rfl ⟨q2, q3, trivial⟩ ?_
    obtain ⟨q4, e⟩ := zG_s e
    rcases zI_s e with ⟨q5, e⟩ | ⟨q5, e⟩
    · refine zF_blk (m := []) (d := 1) (b := B290_42) (gs := [0 ≤ (wadd v3 3) ∧ (wadd v3 3) < 2140, ¬ (h 14 (wadd v3 3)) = 61]) (c' := (331, [some (22, 0), none, none, some (0, v3), none, some (0, v5), none, some (0, r1)], [], (hc, h, o))) K290_42 rfl ⟨q4, q5, trivial⟩ ?_
      rcases zI_s e with ⟨q6, e⟩ | ⟨q6, e⟩
      · refine zF_blk (m := []) (d := 1) (b := B290_38) (gs := [r1 ≤ v5]) (c' := (342, [some (22, 0), none, none, some (0, v3), none, some (0, v5), none, some (0, r1)], [], (hc, h, o))) K290_38 rfl ⟨q6, trivial⟩ ?_
        refine zF_blk (m := []) (d := 0) (b := B290_36) (gs := []) (c' := (343, [some (22, 0), none, none, some (0, v3), none, some (0, v5), none, some (0, r1)], [(0, 0)], (hc, h, o))) K290_36 rfl trivial ?_
        obtain rfl := Option.some.inj e
        exact zF_rb (zRe1_w (by decide +kernel)) (Or.inl rfl)
      · refine zF_blk (m := []) (d := 0) (b := B290_38) (gs := [¬ (r1 ≤ v5)]) (c' := (338, [some (22, 0), none, none, some (0, v3), none, some (0, v5), none, some (0, r1)], [], (hc, h, o))) K290_38 rfl ⟨q6, trivial⟩ ?_
        refine zF_blk (m := []) (d := 0) (b := B290_37) (gs := []) (c' := (343, [some (22, 0), none, none, some (0, v3), none, some (0, v5), none, some (0, r1)], [(0, 1)], (hc, h, o))) K290_37 rfl trivial ?_
        obtain rfl := Option.some.inj e
        exact zF_rb (zRe1_w (by decide +kernel)) (Or.inr rfl)
    · refine zF_blk (m := []) (d := 0) (b := B290_42) (gs := [0 ≤ (wadd v3 3) ∧ (wadd v3 3) < 2140, ¬ (¬ (h 14 (wadd v3 3)) = 61)]) (c' := (316, [some (22, 0), none, none, some (0, v3), none, some (0, v5), none, some (0, r1)], [], (hc, h, o))) K290_42 rfl ⟨q4, q5, trivial⟩ ?_
      rcases zI_s e with ⟨q7, e⟩ | ⟨q7, e⟩
      · refine zF_blk (m := []) (d := 1) (b := B290_41) (gs := [¬ r1 = v5]) (c' := (327, [some (22, 0), none, none, some (0, v3), none, some (0, v5), none, some (0, r1)], [], (hc, h, o))) K290_41 rfl ⟨q7, trivial⟩ ?_
        refine zF_blk (m := []) (d := 0) (b := B290_39) (gs := []) (c' := (343, [some (22, 0), none, none, some (0, v3), none, some (0, v5), none, some (0, r1)], [(0, 0)], (hc, h, o))) K290_39 rfl trivial ?_
        obtain rfl := Option.some.inj e
        exact zF_rb (zRe1_w (by decide +kernel)) (Or.inl rfl)
      · refine zF_blk (m := []) (d := 0) (b := B290_41) (gs := [¬ (¬ r1 = v5)]) (c' := (323, [some (22, 0), none, none, some (0, v3), none, some (0, v5), none, some (0, r1)], [], (hc, h, o))) K290_41 rfl ⟨q7, trivial⟩ ?_
        refine zF_blk (m := []) (d := 0) (b := B290_40) (gs := []) (c' := (343, [some (22, 0), none, none, some (0, v3), none, some (0, v5), none, some (0, r1)], [(0, 1)], (hc, h, o))) K290_40 rfl trivial ?_
        obtain rfl := Option.some.inj e
        exact zF_rb (zRe1_w (by decide +kernel)) (Or.inr rfl)
  · refine zF_blk (m := []) (d := 0) (b := B290_46) (gs := [0 ≤ (wadd v3 3) ∧ (wadd v3 3) < 2140, ¬ (¬ (h 14 (wadd v3 3)) = 60)]) (c' := (288, [some (22, 0), none, none, some (0, v3), none, some (0, v5), none, some (0, r1)], [], (hc, h, o))) K290_46 rfl ⟨q2, q3, trivial⟩ ?_
    rcases zI_s e with ⟨q8, e⟩ | ⟨q8, e⟩
    · refine zF_blk (m := []) (d := 1) (b := B290_45) (gs := [v5 ≤ r1]) (c' := (299, [some (22, 0), none, none, some (0, v3), none, some (0, v5), none, some (0, r1)], [], (hc, h, o))) K290_45 rfl ⟨q8, trivial⟩ ?_
      refine zF_blk (m := []) (d := 0) (b := B290_43) (gs := []) (c' := (343, [some (22, 0), none, none, some (0, v3), none, some (0, v5), none, some (0, r1)], [(0, 0)], (hc, h, o))) K290_43 rfl trivial ?_
      obtain rfl := Option.some.inj e
      exact zF_rb (zRe1_w (by decide +kernel)) (Or.inl rfl)
    · refine zF_blk (m := []) (d := 0) (b := B290_45) (gs := [¬ (v5 ≤ r1)]) (c' := (295, [some (22, 0), none, none, some (0, v3), none, some (0, v5), none, some (0, r1)], [], (hc, h, o))) K290_45 rfl ⟨q8, trivial⟩ ?_
      refine zF_blk (m := []) (d := 0) (b := B290_44) (gs := []) (c' := (343, [some (22, 0), none, none, some (0, v3), none, some (0, v5), none, some (0, r1)], [(0, 1)], (hc, h, o))) K290_44 rfl trivial ?_
      obtain rfl := Option.some.inj e
      exact zF_rb (zRe1_w (by decide +kernel)) (Or.inr rfl)
def F290_0 (kR : Int → Int → zHM → Option Int) (h : zHM) : Option Int := some 1
set_option maxRecDepth 100000 in
theorem T290_0 {spec : zRn zH2} {hc : zHC} {o : Int → Int} {d : Nat} {DR : Nat} (hd : DR + 2 ≤ d) (kR : Int → Int → zHM → Option Int) (hkR : ∀ (d' : Nat), DR ≤ d' → ∀ (v1 : Int) (v2 : Int) (h : zHM) (v : Int), kR v1 v2 h = some v → zRu2 spec d' 290 [(22, 0), (0, v1), (0, v2)] (hc, h, o) (some (0, v)) (hc, h, o)) (h : zHM) (v : Int) (e : F290_0 kR h = some v) : zFin 0 (fun _ => 0) (zRu2 spec d) 290 (some (0, v)) (hc, h, o) (162, [none, none, none, none, none, none, none, none], [], (hc, h, o)) := by
  unfold F290_0 at e
  refine zF_blk (m := []) (d := 0) (b := B290_47) (gs := []) (c' := (167, [none, none, none, none, none, none, none, none], [(0, 1)], (hc, h, o))) K290_47 rfl trivial ?_
  obtain rfl := Option.some.inj e
  exact zF_rb (zRe1_w (by decide +kernel)) (Or.inr rfl)
/-- EchoValeModel.holds(II)Z -/
def F290 (kR : Int → Int → zHM → Option Int) (v1 : Int) (v2 : Int) (h : zHM) : Option Int := zG (0 ≤ (wadd (wadd 1900 (wmul 4 v1)) 1) ∧ (wadd (wadd 1900 (wmul 4 v1)) 1) < 2140) (zG (0 ≤ (wadd (wadd 1900 (wmul 4 v1)) 2) ∧ (wadd (wadd 1900 (wmul 4 v1)) 2) < 2140) (zG (0 ≤ (wadd 1900 (wmul 4 v1)) ∧ (wadd 1900 (wmul 4 v1)) < 2140) (if (h 14 (wadd 1900 (wmul 4 v1))) = 1 then (kR (h 14 (wadd (wadd 1900 (wmul 4 v1)) 1)) v2 h).bind fun r1 => if ¬ r1 = 0 then some 0 else some 1 else if (h 14 (wadd 1900 (wmul 4 v1))) = 2 then (kR (h 14 (wadd (wadd 1900 (wmul 4 v1)) 1)) v2 h).bind fun r2 => if r2 = 0 then some 0 else (kR (h 14 (wadd (wadd 1900 (wmul 4 v1)) 2)) v2 h).bind fun r3 => if r3 = 0 then some 0 else some 1 else if (h 14 (wadd 1900 (wmul 4 v1))) = 3 then (kR (h 14 (wadd (wadd 1900 (wmul 4 v1)) 1)) v2 h).bind fun r4 => if ¬ r4 = 0 then F290_0 kR h else (kR (h 14 (wadd (wadd 1900 (wmul 4 v1)) 2)) v2 h).bind fun r5 => if r5 = 0 then some 0 else F290_0 kR h else if (h 14 (wadd 1900 (wmul 4 v1))) = 63 then (F291 v2 h).bind fun r6 => zG (r6 = 0 ∨ r6 = 1) (some r6) else if (h 14 (wadd 1900 (wmul 4 v1))) = 64 then (F213 v2 5 h).bind fun r7 => (F215 r7).bind fun r8 => if r8 ≤ 1 then some 0 else some 1 else if (h 14 (wadd 1900 (wmul 4 v1))) = 65 then (F213 v2 5 h).bind fun r9 => (F214 r9 (h 14 (wadd (wadd 1900 (wmul 4 v1)) 1))).bind fun r10 => zG (r10 = 0 ∨ r10 = 1) (some r10) else if (h 14 (wadd 1900 (wmul 4 v1))) = 66 then (F213 v2 1 h).bind fun r11 => if ¬ r11 = (h 14 (wadd (wadd 1900 (wmul 4 v1)) 1)) then some 0 else some 1 else zG (0 ≤ (wadd 1900 (wmul 4 v1)) ∧ (wadd 1900 (wmul 4 v1)) < 2140) (if ¬ (wsub (h 14 (wadd 1900 (wmul 4 v1))) 50) = 17 then if ¬ (wsub (h 14 (wadd 1900 (wmul 4 v1))) 50) = 18 then if ¬ (wsub (h 14 (wadd 1900 (wmul 4 v1))) 50) = 19 then F290_1 kR h (wadd 1900 (wmul 4 v1)) (h 14 (wadd (wadd 1900 (wmul 4 v1)) 2)) 6 v2 else F290_1 kR h (wadd 1900 (wmul 4 v1)) (h 14 (wadd (wadd 1900 (wmul 4 v1)) 2)) 2 v2 else F290_1 kR h (wadd 1900 (wmul 4 v1)) (h 14 (wadd (wadd 1900 (wmul 4 v1)) 2)) 4 v2 else F290_1 kR h (wadd 1900 (wmul 4 v1)) (h 14 (wadd (wadd 1900 (wmul 4 v1)) 2)) 0 v2))))
set_option maxRecDepth 100000 in
theorem S290 {spec : zRn zH2} {hc : zHC} {o : Int → Int} {d : Nat} {DR : Nat} (hd : DR + 3 ≤ d) (kR : Int → Int → zHM → Option Int) (hkR : ∀ (d' : Nat), DR ≤ d' → ∀ (v1 : Int) (v2 : Int) (h : zHM) (v : Int), kR v1 v2 h = some v → zRu2 spec d' 290 [(22, 0), (0, v1), (0, v2)] (hc, h, o) (some (0, v)) (hc, h, o)) (v1 : Int) (v2 : Int) (h : zHM) (v : Int) (e : F290 kR v1 v2 h = some v) : zRu2 spec d 290 [(22, 0), (0, v1), (0, v2)] (hc, h, o) (some (0, v)) (hc, h, o) := by
  refine zF_in (D := DR + 2) (mx := 8) (L := [some (22, 0), some (0, v1), some (0, v2), none, none, none, none, none]) (by decide +kernel) rfl rfl hd (fun d hd => ?_)
  unfold F290 at e
  obtain ⟨q1, e⟩ := zG_s e
  obtain ⟨q2, e⟩ := zG_s e
  obtain ⟨q3, e⟩ := zG_s e
  refine zF_blk (m := []) (d := 0) (b := B290_0) (gs := []) (c' := (5, [some (22, 0), some (0, v1), some (0, v2), none, none, none, none, none], [(0, v1), (0, 4), (0, 1900)], (hc, h, o))) K290_0 rfl trivial ?_
  refine zF_blk (m := []) (d := 0) (b := B290_1) (gs := []) (c' := (6, [some (22, 0), some (0, v1), some (0, v2), none, none, none, none, none], [(0, (wmul 4 v1)), (0, 1900)], (hc, h, o))) K290_1 rfl trivial ?_
  rcases zI_s e with ⟨q4, e⟩ | ⟨q4, e⟩
  · refine zF_blk (m := []) (d := 1) (b := B290_6) (gs := [0 ≤ (wadd (wadd 1900 (wmul 4 v1)) 1) ∧ (wadd (wadd 1900 (wmul 4 v1)) 1) < 2140, 0 ≤ (wadd (wadd 1900 (wmul 4 v1)) 2) ∧ (wadd (wadd 1900 (wmul 4 v1)) 2) < 2140, 0 ≤ (wadd 1900 (wmul 4 v1)) ∧ (wadd 1900 (wmul 4 v1)) < 2140, (h 14 (wadd 1900 (wmul 4 v1))) = 1]) (c' := (100, [some (22, 0), some (0, v1), some (0, v2), some (0, (wadd 1900 (wmul 4 v1))), some (0, (h 14 (wadd (wadd 1900 (wmul 4 v1)) 1))), some (0, (h 14 (wadd (wadd 1900 (wmul 4 v1)) 2))), none, none], [], (hc, h, o))) K290_6 rfl ⟨q1, q2, q3, q4, trivial⟩ ?_
    obtain ⟨r1, q5, e⟩ := zB_s e
    refine zF_blk (m := []) (d := 0) (b := B290_2) (gs := []) (c' := (104, [some (22, 0), some (0, v1), some (0, v2), some (0, (wadd 1900 (wmul 4 v1))), some (0, (h 14 (wadd (wadd 1900 (wmul 4 v1)) 1))), some (0, (h 14 (wadd (wadd 1900 (wmul 4 v1)) 2))), none, none], [(0, v2), (0, (h 14 (wadd (wadd 1900 (wmul 4 v1)) 1))), (22, 0)], (hc, h, o))) K290_2 rfl trivial ?_
    refine zF_call (k := 290) (cl := 12) (n := 3) (i := .invokevirtual 431) (args := [(22, 0), (0, (h 14 (wadd (wadd 1900 (wmul 4 v1)) 1))), (0, v2)]) (rest := []) (g1 := (hc, h, o)) (r1 := some (0, r1)) (zCk1_w (by decide +kernel)) rfl rfl rfl (st' := [(0, r1)]) rfl (hkR _ (by omega) (h 14 (wadd (wadd 1900 (wmul 4 v1)) 1)) v2 h _ q5) ?_
    rcases zI_s e with ⟨q6, e⟩ | ⟨q6, e⟩
    · refine zF_blk (m := []) (d := 1) (b := B290_5) (gs := [¬ r1 = 0]) (c' := (114, [some (22, 0), some (0, v1), some (0, v2), some (0, (wadd 1900 (wmul 4 v1))), some (0, (h 14 (wadd (wadd 1900 (wmul 4 v1)) 1))), some (0, (h 14 (wadd (wadd 1900 (wmul 4 v1)) 2))), none, none], [], (hc, h, o))) K290_5 rfl ⟨q6, trivial⟩ ?_
      refine zF_blk (m := []) (d := 0) (b := B290_3) (gs := []) (c' := (115, [some (22, 0), some (0, v1), some (0, v2), some (0, (wadd 1900 (wmul 4 v1))), some (0, (h 14 (wadd (wadd 1900 (wmul 4 v1)) 1))), some (0, (h 14 (wadd (wadd 1900 (wmul 4 v1)) 2))), none, none], [(0, 0)], (hc, h, o))) K290_3 rfl trivial ?_
      obtain rfl := Option.some.inj e
      exact zF_rb (zRe1_w (by decide +kernel)) (Or.inl rfl)
    · refine zF_blk (m := []) (d := 0) (b := B290_5) (gs := [¬ (¬ r1 = 0)]) (c' := (110, [some (22, 0), some (0, v1), some (0, v2), some (0, (wadd 1900 (wmul 4 v1))), some (0, (h 14 (wadd (wadd 1900 (wmul 4 v1)) 1))), some (0, (h 14 (wadd (wadd 1900 (wmul 4 v1)) 2))), none, none], [], (hc, h, o))) K290_5 rfl ⟨q6, trivial⟩ ?_
      refine zF_blk (m := []) (d := 0) (b := B290_4) (gs := []) (c' := (115, [some (22, 0), some (0, v1), some (0, v2), some (0, (wadd 1900 (wmul 4 v1))), some (0, (h 14 (wadd (wadd 1900 (wmul 4 v1)) 1))), some (0, (h 14 (wadd (wadd 1900 (wmul 4 v1)) 2))), none, none], [(0, 1)], (hc, h, o))) K290_4 rfl trivial ?_
      obtain rfl := Option.some.inj e
      exact zF_rb (zRe1_w (by decide +kernel)) (Or.inr rfl)
  rcases zI_s e with ⟨q7, e⟩ | ⟨q7, e⟩
  · refine zF_blk (m := []) (d := 2) (b := B290_6) (gs := [0 ≤ (wadd (wadd 1900 (wmul 4 v1)) 1) ∧ (wadd (wadd 1900 (wmul 4 v1)) 1) < 2140, 0 ≤ (wadd (wadd 1900 (wmul 4 v1)) 2) ∧ (wadd (wadd 1900 (wmul 4 v1)) 2) < 2140, 0 ≤ (wadd 1900 (wmul 4 v1)) ∧ (wadd 1900 (wmul 4 v1)) < 2140, (h 14 (wadd 1900 (wmul 4 v1))) = 2]) (c' := (116, [some (22, 0), some (0, v1), some (0, v2), some (0, (wadd 1900 (wmul 4 v1))), some (0, (h 14 (wadd (wadd 1900 (wmul 4 v1)) 1))), some (0, (h 14 (wadd (wadd 1900 (wmul 4 v1)) 2))), none, none], [], (hc, h, o))) K290_6 rfl ⟨q1, q2, q3, q7, trivial⟩ ?_
    obtain ⟨r2, q8, e⟩ := zB_s e
    refine zF_blk (m := []) (d := 0) (b := B290_7) (gs := []) (c' := (120, [some (22, 0), some (0, v1), some (0, v2), some (0, (wadd 1900 (wmul 4 v1))), some (0, (h 14 (wadd (wadd 1900 (wmul 4 v1)) 1))), some (0, (h 14 (wadd (wadd 1900 (wmul 4 v1)) 2))), none, none], [(0, v2), (0, (h 14 (wadd (wadd 1900 (wmul 4 v1)) 1))), (22, 0)], (hc, h, o))) K290_7 rfl trivial ?_
    refine zF_call (k := 290) (cl := 12) (n := 3) (i := .invokevirtual 431) (args := [(22, 0), (0, (h 14 (wadd (wadd 1900 (wmul 4 v1)) 1))), (0, v2)]) (rest := []) (g1 := (hc, h, o)) (r1 := some (0, r2)) (zCk1_w (by decide +kernel)) rfl rfl rfl (st' := [(0, r2)]) rfl (hkR _ (by omega) (h 14 (wadd (wadd 1900 (wmul 4 v1)) 1)) v2 h _ q8) ?_
    rcases zI_s e with ⟨q9, e⟩ | ⟨q9, e⟩
    · refine zF_blk (m := []) (d := 1) (b := B290_12) (gs := [r2 = 0]) (c' := (140, [some (22, 0), some (0, v1), some (0, v2), some (0, (wadd 1900 (wmul 4 v1))), some (0, (h 14 (wadd (wadd 1900 (wmul 4 v1)) 1))), some (0, (h 14 (wadd (wadd 1900 (wmul 4 v1)) 2))), none, none], [], (hc, h, o))) K290_12 rfl ⟨q9, trivial⟩ ?_
      refine zF_blk (m := []) (d := 0) (b := B290_8) (gs := []) (c' := (141, [some (22, 0), some (0, v1), some (0, v2), some (0, (wadd 1900 (wmul 4 v1))), some (0, (h 14 (wadd (wadd 1900 (wmul 4 v1)) 1))), some (0, (h 14 (wadd (wadd 1900 (wmul 4 v1)) 2))), none, none], [(0, 0)], (hc, h, o))) K290_8 rfl trivial ?_
      obtain rfl := Option.some.inj e
      exact zF_rb (zRe1_w (by decide +kernel)) (Or.inl rfl)
    · refine zF_blk (m := []) (d := 0) (b := B290_12) (gs := [¬ (r2 = 0)]) (c' := (126, [some (22, 0), some (0, v1), some (0, v2), some (0, (wadd 1900 (wmul 4 v1))), some (0, (h 14 (wadd (wadd 1900 (wmul 4 v1)) 1))), some (0, (h 14 (wadd (wadd 1900 (wmul 4 v1)) 2))), none, none], [], (hc, h, o))) K290_12 rfl ⟨q9, trivial⟩ ?_
      obtain ⟨r3, q10, e⟩ := zB_s e
      refine zF_blk (m := []) (d := 0) (b := B290_9) (gs := []) (c' := (130, [some (22, 0), some (0, v1), some (0, v2), some (0, (wadd 1900 (wmul 4 v1))), some (0, (h 14 (wadd (wadd 1900 (wmul 4 v1)) 1))), some (0, (h 14 (wadd (wadd 1900 (wmul 4 v1)) 2))), none, none], [(0, v2), (0, (h 14 (wadd (wadd 1900 (wmul 4 v1)) 2))), (22, 0)], (hc, h, o))) K290_9 rfl trivial ?_
      refine zF_call (k := 290) (cl := 12) (n := 3) (i := .invokevirtual 431) (args := [(22, 0), (0, (h 14 (wadd (wadd 1900 (wmul 4 v1)) 2))), (0, v2)]) (rest := []) (g1 := (hc, h, o)) (r1 := some (0, r3)) (zCk1_w (by decide +kernel)) rfl rfl rfl (st' := [(0, r3)]) rfl (hkR _ (by omega) (h 14 (wadd (wadd 1900 (wmul 4 v1)) 2)) v2 h _ q10) ?_
      rcases zI_s e with ⟨q11, e⟩ | ⟨q11, e⟩
      · refine zF_blk (m := []) (d := 1) (b := B290_11) (gs := [r3 = 0]) (c' := (140, [some (22, 0), some (0, v1), some (0, v2), some (0, (wadd 1900 (wmul 4 v1))), some (0, (h 14 (wadd (wadd 1900 (wmul 4 v1)) 1))), some (0, (h 14 (wadd (wadd 1900 (wmul 4 v1)) 2))), none, none], [], (hc, h, o))) K290_11 rfl ⟨q11, trivial⟩ ?_
        refine zF_blk (m := []) (d := 0) (b := B290_8) (gs := []) (c' := (141, [some (22, 0), some (0, v1), some (0, v2), some (0, (wadd 1900 (wmul 4 v1))), some (0, (h 14 (wadd (wadd 1900 (wmul 4 v1)) 1))), some (0, (h 14 (wadd (wadd 1900 (wmul 4 v1)) 2))), none, none], [(0, 0)], (hc, h, o))) K290_8 rfl trivial ?_
        obtain rfl := Option.some.inj e
        exact zF_rb (zRe1_w (by decide +kernel)) (Or.inl rfl)
      · refine zF_blk (m := []) (d := 0) (b := B290_11) (gs := [¬ (r3 = 0)]) (c' := (136, [some (22, 0), some (0, v1), some (0, v2), some (0, (wadd 1900 (wmul 4 v1))), some (0, (h 14 (wadd (wadd 1900 (wmul 4 v1)) 1))), some (0, (h 14 (wadd (wadd 1900 (wmul 4 v1)) 2))), none, none], [], (hc, h, o))) K290_11 rfl ⟨q11, trivial⟩ ?_
        refine zF_blk (m := []) (d := 0) (b := B290_10) (gs := []) (c' := (141, [some (22, 0), some (0, v1), some (0, v2), some (0, (wadd 1900 (wmul 4 v1))), some (0, (h 14 (wadd (wadd 1900 (wmul 4 v1)) 1))), some (0, (h 14 (wadd (wadd 1900 (wmul 4 v1)) 2))), none, none], [(0, 1)], (hc, h, o))) K290_10 rfl trivial ?_
        obtain rfl := Option.some.inj e
        exact zF_rb (zRe1_w (by decide +kernel)) (Or.inr rfl)
  rcases zI_s e with ⟨q12, e⟩ | ⟨q12, e⟩
  · refine zF_blk (m := []) (d := 3) (b := B290_6) (gs := [0 ≤ (wadd (wadd 1900 (wmul 4 v1)) 1) ∧ (wadd (wadd 1900 (wmul 4 v1)) 1) < 2140, 0 ≤ (wadd (wadd 1900 (wmul 4 v1)) 2) ∧ (wadd (wadd 1900 (wmul 4 v1)) 2) < 2140, 0 ≤ (wadd 1900 (wmul 4 v1)) ∧ (wadd 1900 (wmul 4 v1)) < 2140, (h 14 (wadd 1900 (wmul 4 v1))) = 3]) (c' := (142, [some (22, 0), some (0, v1), some (0, v2), some (0, (wadd 1900 (wmul 4 v1))), some (0, (h 14 (wadd (wadd 1900 (wmul 4 v1)) 1))), some (0, (h 14 (wadd (wadd 1900 (wmul 4 v1)) 2))), none, none], [], (hc, h, o))) K290_6 rfl ⟨q1, q2, q3, q12, trivial⟩ ?_
    obtain ⟨r4, q13, e⟩ := zB_s e
    refine zF_blk (m := []) (d := 0) (b := B290_13) (gs := []) (c' := (146, [some (22, 0), some (0, v1), some (0, v2), some (0, (wadd 1900 (wmul 4 v1))), some (0, (h 14 (wadd (wadd 1900 (wmul 4 v1)) 1))), some (0, (h 14 (wadd (wadd 1900 (wmul 4 v1)) 2))), none, none], [(0, v2), (0, (h 14 (wadd (wadd 1900 (wmul 4 v1)) 1))), (22, 0)], (hc, h, o))) K290_13 rfl trivial ?_
    refine zF_call (k := 290) (cl := 12) (n := 3) (i := .invokevirtual 431) (args := [(22, 0), (0, (h 14 (wadd (wadd 1900 (wmul 4 v1)) 1))), (0, v2)]) (rest := []) (g1 := (hc, h, o)) (r1 := some (0, r4)) (zCk1_w (by decide +kernel)) rfl rfl rfl (st' := [(0, r4)]) rfl (hkR _ (by omega) (h 14 (wadd (wadd 1900 (wmul 4 v1)) 1)) v2 h _ q13) ?_
    rcases zI_s e with ⟨q14, e⟩ | ⟨q14, e⟩
    · refine zF_blk (m := []) (d := 1) (b := B290_17) (gs := [¬ r4 = 0]) (c' := (162, [some (22, 0), some (0, v1), some (0, v2), some (0, (wadd 1900 (wmul 4 v1))), some (0, (h 14 (wadd (wadd 1900 (wmul 4 v1)) 1))), some (0, (h 14 (wadd (wadd 1900 (wmul 4 v1)) 2))), none, none], [], (hc, h, o))) K290_17 rfl ⟨q14, trivial⟩ ?_
      refine zF_blk (m := [false, false, false, false, false, false, false, false]) (d := 0) (b := []) (gs := []) (c' := (162, [none, none, none, none, none, none, none, none], [], (hc, h, o))) rfl rfl trivial ?_
      exact T290_0 hd kR hkR h _ e
    · refine zF_blk (m := []) (d := 0) (b := B290_17) (gs := [¬ (¬ r4 = 0)]) (c' := (152, [some (22, 0), some (0, v1), some (0, v2), some (0, (wadd 1900 (wmul 4 v1))), some (0, (h 14 (wadd (wadd 1900 (wmul 4 v1)) 1))), some (0, (h 14 (wadd (wadd 1900 (wmul 4 v1)) 2))), none, none], [], (hc, h, o))) K290_17 rfl ⟨q14, trivial⟩ ?_
      obtain ⟨r5, q15, e⟩ := zB_s e
      refine zF_blk (m := []) (d := 0) (b := B290_14) (gs := []) (c' := (156, [some (22, 0), some (0, v1), some (0, v2), some (0, (wadd 1900 (wmul 4 v1))), some (0, (h 14 (wadd (wadd 1900 (wmul 4 v1)) 1))), some (0, (h 14 (wadd (wadd 1900 (wmul 4 v1)) 2))), none, none], [(0, v2), (0, (h 14 (wadd (wadd 1900 (wmul 4 v1)) 2))), (22, 0)], (hc, h, o))) K290_14 rfl trivial ?_
      refine zF_call (k := 290) (cl := 12) (n := 3) (i := .invokevirtual 431) (args := [(22, 0), (0, (h 14 (wadd (wadd 1900 (wmul 4 v1)) 2))), (0, v2)]) (rest := []) (g1 := (hc, h, o)) (r1 := some (0, r5)) (zCk1_w (by decide +kernel)) rfl rfl rfl (st' := [(0, r5)]) rfl (hkR _ (by omega) (h 14 (wadd (wadd 1900 (wmul 4 v1)) 2)) v2 h _ q15) ?_
      rcases zI_s e with ⟨q16, e⟩ | ⟨q16, e⟩
      · refine zF_blk (m := []) (d := 1) (b := B290_16) (gs := [r5 = 0]) (c' := (166, [some (22, 0), some (0, v1), some (0, v2), some (0, (wadd 1900 (wmul 4 v1))), some (0, (h 14 (wadd (wadd 1900 (wmul 4 v1)) 1))), some (0, (h 14 (wadd (wadd 1900 (wmul 4 v1)) 2))), none, none], [], (hc, h, o))) K290_16 rfl ⟨q16, trivial⟩ ?_
        refine zF_blk (m := []) (d := 0) (b := B290_15) (gs := []) (c' := (167, [some (22, 0), some (0, v1), some (0, v2), some (0, (wadd 1900 (wmul 4 v1))), some (0, (h 14 (wadd (wadd 1900 (wmul 4 v1)) 1))), some (0, (h 14 (wadd (wadd 1900 (wmul 4 v1)) 2))), none, none], [(0, 0)], (hc, h, o))) K290_15 rfl trivial ?_
        obtain rfl := Option.some.inj e
        exact zF_rb (zRe1_w (by decide +kernel)) (Or.inl rfl)
      · refine zF_blk (m := []) (d := 0) (b := B290_16) (gs := [¬ (r5 = 0)]) (c' := (162, [some (22, 0), some (0, v1), some (0, v2), some (0, (wadd 1900 (wmul 4 v1))), some (0, (h 14 (wadd (wadd 1900 (wmul 4 v1)) 1))), some (0, (h 14 (wadd (wadd 1900 (wmul 4 v1)) 2))), none, none], [], (hc, h, o))) K290_16 rfl ⟨q16, trivial⟩ ?_
        refine zF_blk (m := [false, false, false, false, false, false, false, false]) (d := 0) (b := []) (gs := []) (c' := (162, [none, none, none, none, none, none, none, none], [], (hc, h, o))) rfl rfl trivial ?_
        exact T290_0 hd kR hkR h _ e
  rcases zI_s e with ⟨q17, e⟩ | ⟨q17, e⟩
  · refine zF_blk (m := []) (d := 63) (b := B290_6) (gs := [0 ≤ (wadd (wadd 1900 (wmul 4 v1)) 1) ∧ (wadd (wadd 1900 (wmul 4 v1)) 1) < 2140, 0 ≤ (wadd (wadd 1900 (wmul 4 v1)) 2) ∧ (wadd (wadd 1900 (wmul 4 v1)) 2) < 2140, 0 ≤ (wadd 1900 (wmul 4 v1)) ∧ (wadd 1900 (wmul 4 v1)) < 2140, (h 14 (wadd 1900 (wmul 4 v1))) = 63]) (c' := (168, [some (22, 0), some (0, v1), some (0, v2), some (0, (wadd 1900 (wmul 4 v1))), some (0, (h 14 (wadd (wadd 1900 (wmul 4 v1)) 1))), some (0, (h 14 (wadd (wadd 1900 (wmul 4 v1)) 2))), none, none], [], (hc, h, o))) K290_6 rfl ⟨q1, q2, q3, q17, trivial⟩ ?_
    obtain ⟨r6, q18, e⟩ := zB_s e
    refine zF_blk (m := []) (d := 0) (b := B290_18) (gs := []) (c' := (170, [some (22, 0), some (0, v1), some (0, v2), some (0, (wadd 1900 (wmul 4 v1))), some (0, (h 14 (wadd (wadd 1900 (wmul 4 v1)) 1))), some (0, (h 14 (wadd (wadd 1900 (wmul 4 v1)) 2))), none, none], [(0, v2), (22, 0)], (hc, h, o))) K290_18 rfl trivial ?_
    refine zF_call (k := 291) (cl := 12) (n := 2) (i := .invokevirtual 434) (args := [(22, 0), (0, v2)]) (rest := []) (g1 := (hc, h, o)) (r1 := some (0, r6)) (zCk1_w (by decide +kernel)) rfl rfl rfl (st' := [(0, r6)]) rfl (S291 (by omega) v2 h _ q18) ?_
    obtain ⟨q19, e⟩ := zG_s e
    obtain rfl := Option.some.inj e
    exact zF_rb (zRe1_w (by decide +kernel)) q19
  rcases zI_s e with ⟨q20, e⟩ | ⟨q20, e⟩
  · refine zF_blk (m := []) (d := 64) (b := B290_6) (gs := [0 ≤ (wadd (wadd 1900 (wmul 4 v1)) 1) ∧ (wadd (wadd 1900 (wmul 4 v1)) 1) < 2140, 0 ≤ (wadd (wadd 1900 (wmul 4 v1)) 2) ∧ (wadd (wadd 1900 (wmul 4 v1)) 2) < 2140, 0 ≤ (wadd 1900 (wmul 4 v1)) ∧ (wadd 1900 (wmul 4 v1)) < 2140, (h 14 (wadd 1900 (wmul 4 v1))) = 64]) (c' := (174, [some (22, 0), some (0, v1), some (0, v2), some (0, (wadd 1900 (wmul 4 v1))), some (0, (h 14 (wadd (wadd 1900 (wmul 4 v1)) 1))), some (0, (h 14 (wadd (wadd 1900 (wmul 4 v1)) 2))), none, none], [], (hc, h, o))) K290_6 rfl ⟨q1, q2, q3, q20, trivial⟩ ?_
    obtain ⟨r7, q21, e⟩ := zB_s e
    refine zF_blk (m := []) (d := 0) (b := B290_19) (gs := []) (c' := (177, [some (22, 0), some (0, v1), some (0, v2), some (0, (wadd 1900 (wmul 4 v1))), some (0, (h 14 (wadd (wadd 1900 (wmul 4 v1)) 1))), some (0, (h 14 (wadd (wadd 1900 (wmul 4 v1)) 2))), none, none], [(0, 5), (0, v2), (22, 0)], (hc, h, o))) K290_19 rfl trivial ?_
    refine zF_call (k := 213) (cl := 12) (n := 3) (i := .invokevirtual 247) (args := [(22, 0), (0, v2), (0, 5)]) (rest := []) (g1 := (hc, h, o)) (r1 := some (0, r7)) (zCk1_w (by decide +kernel)) rfl rfl rfl (st' := [(0, r7)]) rfl (S213 (by omega) v2 5 h _ q21) ?_
    obtain ⟨r8, q22, e⟩ := zB_s e
    refine zF_call (k := 215) (cl := 12) (n := 1) (i := .invokestatic 254) (args := [(0, r7)]) (rest := []) (g1 := (hc, h, o)) (r1 := some (0, r8)) (zCk1_w (by decide +kernel)) rfl rfl rfl (st' := [(0, r8)]) rfl (S215 (by omega) r7 h _ q22) ?_
    rcases zI_s e with ⟨q23, e⟩ | ⟨q23, e⟩
    · refine zF_blk (m := []) (d := 1) (b := B290_22) (gs := [r8 ≤ 1]) (c' := (191, [some (22, 0), some (0, v1), some (0, v2), some (0, (wadd 1900 (wmul 4 v1))), some (0, (h 14 (wadd (wadd 1900 (wmul 4 v1)) 1))), some (0, (h 14 (wadd (wadd 1900 (wmul 4 v1)) 2))), none, none], [], (hc, h, o))) K290_22 rfl ⟨q23, trivial⟩ ?_
      refine zF_blk (m := []) (d := 0) (b := B290_20) (gs := []) (c' := (192, [some (22, 0), some (0, v1), some (0, v2), some (0, (wadd 1900 (wmul 4 v1))), some (0, (h 14 (wadd (wadd 1900 (wmul 4 v1)) 1))), some (0, (h 14 (wadd (wadd 1900 (wmul 4 v1)) 2))), none, none], [(0, 0)], (hc, h, o))) K290_20 rfl trivial ?_
      obtain rfl := Option.some.inj e
      exact zF_rb (zRe1_w (by decide +kernel)) (Or.inl rfl)
    · refine zF_blk (m := []) (d := 0) (b := B290_22) (gs := [¬ (r8 ≤ 1)]) (c' := (187, [some (22, 0), some (0, v1), some (0, v2), some (0, (wadd 1900 (wmul 4 v1))), some (0, (h 14 (wadd (wadd 1900 (wmul 4 v1)) 1))), some (0, (h 14 (wadd (wadd 1900 (wmul 4 v1)) 2))), none, none], [], (hc, h, o))) K290_22 rfl ⟨q23, trivial⟩ ?_
      refine zF_blk (m := []) (d := 0) (b := B290_21) (gs := []) (c' := (192, [some (22, 0), some (0, v1), some (0, v2), some (0, (wadd 1900 (wmul 4 v1))), some (0, (h 14 (wadd (wadd 1900 (wmul 4 v1)) 1))), some (0, (h 14 (wadd (wadd 1900 (wmul 4 v1)) 2))), none, none], [(0, 1)], (hc, h, o))) K290_21 rfl trivial ?_
      obtain rfl := Option.some.inj e
      exact zF_rb (zRe1_w (by decide +kernel)) (Or.inr rfl)
  rcases zI_s e with ⟨q24, e⟩ | ⟨q24, e⟩
  · refine zF_blk (m := []) (d := 65) (b := B290_6) (gs := [0 ≤ (wadd (wadd 1900 (wmul 4 v1)) 1) ∧ (wadd (wadd 1900 (wmul 4 v1)) 1) < 2140, 0 ≤ (wadd (wadd 1900 (wmul 4 v1)) 2) ∧ (wadd (wadd 1900 (wmul 4 v1)) 2) < 2140, 0 ≤ (wadd 1900 (wmul 4 v1)) ∧ (wadd 1900 (wmul 4 v1)) < 2140, (h 14 (wadd 1900 (wmul 4 v1))) = 65]) (c' := (193, [some (22, 0), some (0, v1), some (0, v2), some (0, (wadd 1900 (wmul 4 v1))), some (0, (h 14 (wadd (wadd 1900 (wmul 4 v1)) 1))), some (0, (h 14 (wadd (wadd 1900 (wmul 4 v1)) 2))), none, none], [], (hc, h, o))) K290_6 rfl ⟨q1, q2, q3, q24, trivial⟩ ?_
    obtain ⟨r9, q25, e⟩ := zB_s e
    refine zF_blk (m := []) (d := 0) (b := B290_23) (gs := []) (c' := (196, [some (22, 0), some (0, v1), some (0, v2), some (0, (wadd 1900 (wmul 4 v1))), some (0, (h 14 (wadd (wadd 1900 (wmul 4 v1)) 1))), some (0, (h 14 (wadd (wadd 1900 (wmul 4 v1)) 2))), none, none], [(0, 5), (0, v2), (22, 0)], (hc, h, o))) K290_23 rfl trivial ?_
    refine zF_call (k := 213) (cl := 12) (n := 3) (i := .invokevirtual 247) (args := [(22, 0), (0, v2), (0, 5)]) (rest := []) (g1 := (hc, h, o)) (r1 := some (0, r9)) (zCk1_w (by decide +kernel)) rfl rfl rfl (st' := [(0, r9)]) rfl (S213 (by omega) v2 5 h _ q25) ?_
    obtain ⟨r10, q26, e⟩ := zB_s e
    refine zF_blk (m := []) (d := 0) (b := B290_24) (gs := []) (c' := (201, [some (22, 0), some (0, v1), some (0, v2), some (0, (wadd 1900 (wmul 4 v1))), some (0, (h 14 (wadd (wadd 1900 (wmul 4 v1)) 1))), some (0, (h 14 (wadd (wadd 1900 (wmul 4 v1)) 2))), none, none], [(0, (h 14 (wadd (wadd 1900 (wmul 4 v1)) 1))), (0, r9)], (hc, h, o))) K290_24 rfl trivial ?_
    refine zF_call (k := 214) (cl := 12) (n := 2) (i := .invokestatic 251) (args := [(0, r9), (0, (h 14 (wadd (wadd 1900 (wmul 4 v1)) 1)))]) (rest := []) (g1 := (hc, h, o)) (r1 := some (0, r10)) (zCk1_w (by decide +kernel)) rfl rfl rfl (st' := [(0, r10)]) rfl (S214 (by omega) r9 (h 14 (wadd (wadd 1900 (wmul 4 v1)) 1)) h _ q26) ?_
    obtain ⟨q27, e⟩ := zG_s e
    obtain rfl := Option.some.inj e
    exact zF_rb (zRe1_w (by decide +kernel)) q27
  rcases zI_s e with ⟨q28, e⟩ | ⟨q28, e⟩
  · refine zF_blk (m := []) (d := 66) (b := B290_6) (gs := [0 ≤ (wadd (wadd 1900 (wmul 4 v1)) 1) ∧ (wadd (wadd 1900 (wmul 4 v1)) 1) < 2140, 0 ≤ (wadd (wadd 1900 (wmul 4 v1)) 2) ∧ (wadd (wadd 1900 (wmul 4 v1)) 2) < 2140, 0 ≤ (wadd 1900 (wmul 4 v1)) ∧ (wadd 1900 (wmul 4 v1)) < 2140, (h 14 (wadd 1900 (wmul 4 v1))) = 66]) (c' := (205, [some (22, 0), some (0, v1), some (0, v2), some (0, (wadd 1900 (wmul 4 v1))), some (0, (h 14 (wadd (wadd 1900 (wmul 4 v1)) 1))), some (0, (h 14 (wadd (wadd 1900 (wmul 4 v1)) 2))), none, none], [], (hc, h, o))) K290_6 rfl ⟨q1, q2, q3, q28, trivial⟩ ?_
    obtain ⟨r11, q29, e⟩ := zB_s e
    refine zF_blk (m := []) (d := 0) (b := B290_25) (gs := []) (c' := (208, [some (22, 0), some (0, v1), some (0, v2), some (0, (wadd 1900 (wmul 4 v1))), some (0, (h 14 (wadd (wadd 1900 (wmul 4 v1)) 1))), some (0, (h 14 (wadd (wadd 1900 (wmul 4 v1)) 2))), none, none], [(0, 1), (0, v2), (22, 0)], (hc, h, o))) K290_25 rfl trivial ?_
    refine zF_call (k := 213) (cl := 12) (n := 3) (i := .invokevirtual 247) (args := [(22, 0), (0, v2), (0, 1)]) (rest := []) (g1 := (hc, h, o)) (r1 := some (0, r11)) (zCk1_w (by decide +kernel)) rfl rfl rfl (st' := [(0, r11)]) rfl (S213 (by omega) v2 1 h _ q29) ?_
    rcases zI_s e with ⟨q30, e⟩ | ⟨q30, e⟩
    · refine zF_blk (m := []) (d := 1) (b := B290_28) (gs := [¬ r11 = (h 14 (wadd (wadd 1900 (wmul 4 v1)) 1))]) (c' := (220, [some (22, 0), some (0, v1), some (0, v2), some (0, (wadd 1900 (wmul 4 v1))), some (0, (h 14 (wadd (wadd 1900 (wmul 4 v1)) 1))), some (0, (h 14 (wadd (wadd 1900 (wmul 4 v1)) 2))), none, none], [], (hc, h, o))) K290_28 rfl ⟨q30, trivial⟩ ?_
      refine zF_blk (m := []) (d := 0) (b := B290_26) (gs := []) (c' := (221, [some (22, 0), some (0, v1), some (0, v2), some (0, (wadd 1900 (wmul 4 v1))), some (0, (h 14 (wadd (wadd 1900 (wmul 4 v1)) 1))), some (0, (h 14 (wadd (wadd 1900 (wmul 4 v1)) 2))), none, none], [(0, 0)], (hc, h, o))) K290_26 rfl trivial ?_
      obtain rfl := Option.some.inj e
      exact zF_rb (zRe1_w (by decide +kernel)) (Or.inl rfl)
    · refine zF_blk (m := []) (d := 0) (b := B290_28) (gs := [¬ (¬ r11 = (h 14 (wadd (wadd 1900 (wmul 4 v1)) 1)))]) (c' := (216, [some (22, 0), some (0, v1), some (0, v2), some (0, (wadd 1900 (wmul 4 v1))), some (0, (h 14 (wadd (wadd 1900 (wmul 4 v1)) 1))), some (0, (h 14 (wadd (wadd 1900 (wmul 4 v1)) 2))), none, none], [], (hc, h, o))) K290_28 rfl ⟨q30, trivial⟩ ?_
      refine zF_blk (m := []) (d := 0) (b := B290_27) (gs := []) (c' := (221, [some (22, 0), some (0, v1), some (0, v2), some (0, (wadd 1900 (wmul 4 v1))), some (0, (h 14 (wadd (wadd 1900 (wmul 4 v1)) 1))), some (0, (h 14 (wadd (wadd 1900 (wmul 4 v1)) 2))), none, none], [(0, 1)], (hc, h, o))) K290_27 rfl trivial ?_
      obtain rfl := Option.some.inj e
      exact zF_rb (zRe1_w (by decide +kernel)) (Or.inr rfl)
  refine zF_blk (m := []) (d := 0) (b := B290_6) (gs := [0 ≤ (wadd (wadd 1900 (wmul 4 v1)) 1) ∧ (wadd (wadd 1900 (wmul 4 v1)) 1) < 2140, 0 ≤ (wadd (wadd 1900 (wmul 4 v1)) 2) ∧ (wadd (wadd 1900 (wmul 4 v1)) 2) < 2140, 0 ≤ (wadd 1900 (wmul 4 v1)) ∧ (wadd 1900 (wmul 4 v1)) < 2140, ¬ (h 14 (wadd 1900 (wmul 4 v1))) = 1, ¬ (h 14 (wadd 1900 (wmul 4 v1))) = 2, ¬ (h 14 (wadd 1900 (wmul 4 v1))) = 3, ¬ (h 14 (wadd 1900 (wmul 4 v1))) = 63, ¬ (h 14 (wadd 1900 (wmul 4 v1))) = 64, ¬ (h 14 (wadd 1900 (wmul 4 v1))) = 65, ¬ (h 14 (wadd 1900 (wmul 4 v1))) = 66]) (c' := (222, [some (22, 0), some (0, v1), some (0, v2), some (0, (wadd 1900 (wmul 4 v1))), some (0, (h 14 (wadd (wadd 1900 (wmul 4 v1)) 1))), some (0, (h 14 (wadd (wadd 1900 (wmul 4 v1)) 2))), none, none], [], (hc, h, o))) K290_6 rfl ⟨q1, q2, q3, q4, q7, q12, q17, q20, q24, q28, trivial⟩ ?_
  obtain ⟨q31, e⟩ := zG_s e
  rcases zI_s e with ⟨q32, e⟩ | ⟨q32, e⟩
  · refine zF_blk (m := []) (d := 1) (b := B290_35) (gs := [0 ≤ (wadd 1900 (wmul 4 v1)) ∧ (wadd 1900 (wmul 4 v1)) < 2140, ¬ (wsub (h 14 (wadd 1900 (wmul 4 v1))) 50) = 17]) (c' := (246, [some (22, 0), some (0, v1), some (0, v2), some (0, (wadd 1900 (wmul 4 v1))), some (0, (h 14 (wadd (wadd 1900 (wmul 4 v1)) 1))), some (0, (h 14 (wadd (wadd 1900 (wmul 4 v1)) 2))), some (0, (wsub (h 14 (wadd 1900 (wmul 4 v1))) 50)), none], [(0, v2), (22, 0)], (hc, h, o))) K290_35 rfl ⟨q31, q32, trivial⟩ ?_
    rcases zI_s e with ⟨q33, e⟩ | ⟨q33, e⟩
    · refine zF_blk (m := []) (d := 1) (b := B290_33) (gs := [¬ (wsub (h 14 (wadd 1900 (wmul 4 v1))) 50) = 18]) (c' := (257, [some (22, 0), some (0, v1), some (0, v2), some (0, (wadd 1900 (wmul 4 v1))), some (0, (h 14 (wadd (wadd 1900 (wmul 4 v1)) 1))), some (0, (h 14 (wadd (wadd 1900 (wmul 4 v1)) 2))), some (0, (wsub (h 14 (wadd 1900 (wmul 4 v1))) 50)), none], [(0, v2), (22, 0)], (hc, h, o))) K290_33 rfl ⟨q33, trivial⟩ ?_
      rcases zI_s e with ⟨q34, e⟩ | ⟨q34, e⟩
      · refine zF_blk (m := []) (d := 1) (b := B290_31) (gs := [¬ (wsub (h 14 (wadd 1900 (wmul 4 v1))) 50) = 19]) (c' := (268, [some (22, 0), some (0, v1), some (0, v2), some (0, (wadd 1900 (wmul 4 v1))), some (0, (h 14 (wadd (wadd 1900 (wmul 4 v1)) 1))), some (0, (h 14 (wadd (wadd 1900 (wmul 4 v1)) 2))), some (0, (wsub (h 14 (wadd 1900 (wmul 4 v1))) 50)), none], [(0, v2), (22, 0)], (hc, h, o))) K290_31 rfl ⟨q34, trivial⟩ ?_
        refine zF_blk (m := []) (d := 0) (b := B290_29) (gs := []) (c' := (270, [some (22, 0), some (0, v1), some (0, v2), some (0, (wadd 1900 (wmul 4 v1))), some (0, (h 14 (wadd (wadd 1900 (wmul 4 v1)) 1))), some (0, (h 14 (wadd (wadd 1900 (wmul 4 v1)) 2))), some (0, (wsub (h 14 (wadd 1900 (wmul 4 v1))) 50)), none], [(0, 6), (0, v2), (22, 0)], (hc, h, o))) K290_29 rfl trivial ?_
        refine zF_blk (m := [true, false, false, true, false, true, false, false]) (d := 0) (b := []) (gs := []) (c' := (270, [some (22, 0), none, none, some (0, (wadd 1900 (wmul 4 v1))), none, some (0, (h 14 (wadd (wadd 1900 (wmul 4 v1)) 2))), none, none], [(0, 6), (0, v2), (22, 0)], (hc, h, o))) rfl rfl trivial ?_
        exact T290_1 hd kR hkR h (wadd 1900 (wmul 4 v1)) (h 14 (wadd (wadd 1900 (wmul 4 v1)) 2)) 6 v2 _ e
      · refine zF_blk (m := []) (d := 0) (b := B290_31) (gs := [¬ (¬ (wsub (h 14 (wadd 1900 (wmul 4 v1))) 50) = 19)]) (c' := (264, [some (22, 0), some (0, v1), some (0, v2), some (0, (wadd 1900 (wmul 4 v1))), some (0, (h 14 (wadd (wadd 1900 (wmul 4 v1)) 1))), some (0, (h 14 (wadd (wadd 1900 (wmul 4 v1)) 2))), some (0, (wsub (h 14 (wadd 1900 (wmul 4 v1))) 50)), none], [(0, v2), (22, 0)], (hc, h, o))) K290_31 rfl ⟨q34, trivial⟩ ?_
        refine zF_blk (m := []) (d := 0) (b := B290_30) (gs := []) (c' := (270, [some (22, 0), some (0, v1), some (0, v2), some (0, (wadd 1900 (wmul 4 v1))), some (0, (h 14 (wadd (wadd 1900 (wmul 4 v1)) 1))), some (0, (h 14 (wadd (wadd 1900 (wmul 4 v1)) 2))), some (0, (wsub (h 14 (wadd 1900 (wmul 4 v1))) 50)), none], [(0, 2), (0, v2), (22, 0)], (hc, h, o))) K290_30 rfl trivial ?_
        refine zF_blk (m := [true, false, false, true, false, true, false, false]) (d := 0) (b := []) (gs := []) (c' := (270, [some (22, 0), none, none, some (0, (wadd 1900 (wmul 4 v1))), none, some (0, (h 14 (wadd (wadd 1900 (wmul 4 v1)) 2))), none, none], [(0, 2), (0, v2), (22, 0)], (hc, h, o))) rfl rfl trivial ?_
        exact T290_1 hd kR hkR h (wadd 1900 (wmul 4 v1)) (h 14 (wadd (wadd 1900 (wmul 4 v1)) 2)) 2 v2 _ e
    · refine zF_blk (m := []) (d := 0) (b := B290_33) (gs := [¬ (¬ (wsub (h 14 (wadd 1900 (wmul 4 v1))) 50) = 18)]) (c' := (253, [some (22, 0), some (0, v1), some (0, v2), some (0, (wadd 1900 (wmul 4 v1))), some (0, (h 14 (wadd (wadd 1900 (wmul 4 v1)) 1))), some (0, (h 14 (wadd (wadd 1900 (wmul 4 v1)) 2))), some (0, (wsub (h 14 (wadd 1900 (wmul 4 v1))) 50)), none], [(0, v2), (22, 0)], (hc, h, o))) K290_33 rfl ⟨q33, trivial⟩ ?_
      refine zF_blk (m := []) (d := 0) (b := B290_32) (gs := []) (c' := (270, [some (22, 0), some (0, v1), some (0, v2), some (0, (wadd 1900 (wmul 4 v1))), some (0, (h 14 (wadd (wadd 1900 (wmul 4 v1)) 1))), some (0, (h 14 (wadd (wadd 1900 (wmul 4 v1)) 2))), some (0, (wsub (h 14 (wadd 1900 (wmul 4 v1))) 50)), none], [(0, 4), (0, v2), (22, 0)], (hc, h, o))) K290_32 rfl trivial ?_
      refine zF_blk (m := [true, false, false, true, false, true, false, false]) (d := 0) (b := []) (gs := []) (c' := (270, [some (22, 0), none, none, some (0, (wadd 1900 (wmul 4 v1))), none, some (0, (h 14 (wadd (wadd 1900 (wmul 4 v1)) 2))), none, none], [(0, 4), (0, v2), (22, 0)], (hc, h, o))) rfl rfl trivial ?_
      exact T290_1 hd kR hkR h (wadd 1900 (wmul 4 v1)) (h 14 (wadd (wadd 1900 (wmul 4 v1)) 2)) 4 v2 _ e
  · refine zF_blk (m := []) (d := 0) (b := B290_35) (gs := [0 ≤ (wadd 1900 (wmul 4 v1)) ∧ (wadd 1900 (wmul 4 v1)) < 2140, ¬ (¬ (wsub (h 14 (wadd 1900 (wmul 4 v1))) 50) = 17)]) (c' := (242, [some (22, 0), some (0, v1), some (0, v2), some (0, (wadd 1900 (wmul 4 v1))), some (0, (h 14 (wadd (wadd 1900 (wmul 4 v1)) 1))), some (0, (h 14 (wadd (wadd 1900 (wmul 4 v1)) 2))), some (0, (wsub (h 14 (wadd 1900 (wmul 4 v1))) 50)), none], [(0, v2), (22, 0)], (hc, h, o))) K290_35 rfl ⟨q31, q32, trivial⟩ ?_
    refine zF_blk (m := []) (d := 0) (b := B290_34) (gs := []) (c' := (270, [some (22, 0), some (0, v1), some (0, v2), some (0, (wadd 1900 (wmul 4 v1))), some (0, (h 14 (wadd (wadd 1900 (wmul 4 v1)) 1))), some (0, (h 14 (wadd (wadd 1900 (wmul 4 v1)) 2))), some (0, (wsub (h 14 (wadd 1900 (wmul 4 v1))) 50)), none], [(0, 0), (0, v2), (22, 0)], (hc, h, o))) K290_34 rfl trivial ?_
    refine zF_blk (m := [true, false, false, true, false, true, false, false]) (d := 0) (b := []) (gs := []) (c' := (270, [some (22, 0), none, none, some (0, (wadd 1900 (wmul 4 v1))), none, some (0, (h 14 (wadd (wadd 1900 (wmul 4 v1)) 2))), none, none], [(0, 0), (0, v2), (22, 0)], (hc, h, o))) rfl rfl trivial ?_
    exact T290_1 hd kR hkR h (wadd 1900 (wmul 4 v1)) (h 14 (wadd (wadd 1900 (wmul 4 v1)) 2)) 0 v2 _ e
def F290r : Nat → Int → Int → zHM → Option Int
  | 0, _, _, _ => none
  | n + 1, v1, v2, h => F290 (F290r n) v1 v2 h
theorem S290r {spec : zRn zH2} {hc : zHC} {o : Int → Int} : ∀ (n : Nat) {d : Nat} (hd : 3 * n ≤ d) (v1 : Int) (v2 : Int) (h : zHM) (v : Int) (e : F290r n v1 v2 h = some v), zRu2 spec d 290 [(22, 0), (0, v1), (0, v2)] (hc, h, o) (some (0, v)) (hc, h, o) := by
  intro n
  induction n with
  | zero => intro d hd v1 v2 h v e; unfold F290r at e; cases e
  | succ n ih =>
    intro d hd v1 v2 h v e
    unfold F290r at e
    exact S290 (DR := 3 * n) (by omega) (F290r n) (fun d hd v1 v2 h v e => ih hd v1 v2 h v e) v1 v2 h v e
noncomputable def B289_0 : List zRow := [(18, .iconst 0, 1, (0, 0, 0)), (19, .istore_n 2, 1, (0, 0, 0)), (20, .iconst 0, 1, (0, 0, 0)), (21, .istore_n 3, 1, (0, 0, 0))]
theorem K289_0 : zRk 289 B289_0 = true := zRw_ok (by decide +kernel)
noncomputable def B289_1 : List zRow := [(16, .iconst (-1), 1, (0, 0, 0))]
theorem K289_1 : zRk 289 B289_1 = true := zRw_ok (by decide +kernel)
noncomputable def B289_2 : List zRow := [(0, .aload_n 0, 1, (0, 0, 0)), (1, .iconst 0, 1, (0, 0, 0)), (2, .putfield 81, 3, (12, 0, 0)), (5, .aload_n 0, 1, (0, 0, 0)), (6, .getfield 13, 3, (12, 14, 5251442)), (9, .sipush 1898, 3, (0, 0, 0)), (12, .iaload, 1, (0, 0, 0)), (13, .ifCond .ne 5, 3, (0, 0, 0))]
theorem K289_2 : zRk 289 B289_2 = true := zRw_ok (by decide +kernel)
noncomputable def B289_3 : List zRow := [(78, .iconst (-1), 1, (0, 0, 0))]
theorem K289_3 : zRk 289 B289_3 = true := zRw_ok (by decide +kernel)
noncomputable def B289_4 : List zRow := [(74, .iload_n 2, 1, (0, 0, 0)), (75, .goto 4, 3, (0, 0, 0))]
theorem K289_4 : zRk 289 B289_4 = true := zRw_ok (by decide +kernel)
noncomputable def B289_5 : List zRow := [(69, .iload_n 1, 1, (0, 0, 0)), (70, .iconst (-1), 1, (0, 0, 0)), (71, .if_icmp .ne 7, 3, (0, 0, 0))]
theorem K289_5 : zRk 289 B289_5 = true := zRw_ok (by decide +kernel)
noncomputable def B289_6 : List zRow := [(34, .aload_n 0, 1, (0, 0, 0)), (35, .aload_n 0, 1, (0, 0, 0)), (36, .getfield 13, 3, (12, 14, 5251442)), (39, .sipush 1899, 3, (0, 0, 0)), (42, .iaload, 1, (0, 0, 0)), (43, .iload_n 3, 1, (0, 0, 0))]
theorem K289_6 : zRk 289 B289_6 = true := zRw_ok (by decide +kernel)
noncomputable def B289_7 : List zRow := [(60, .iinc 2 1, 3, (0, 0, 0))]
theorem K289_7 : zRk 289 B289_7 = true := zRw_ok (by decide +kernel)
noncomputable def B289_8 : List zRow := [(58, .iload_n 3, 1, (0, 0, 0))]
theorem K289_8 : zRk 289 B289_8 = true := zRw_ok (by decide +kernel)
noncomputable def B289_9 : List zRow := [(53, .iload_n 2, 1, (0, 0, 0)), (54, .iload_n 1, 1, (0, 0, 0)), (55, .if_icmp .ne 5, 3, (0, 0, 0))]
theorem K289_9 : zRk 289 B289_9 = true := zRw_ok (by decide +kernel)
noncomputable def B289_10 : List zRow := [(50, .goto 13, 3, (0, 0, 0))]
theorem K289_10 : zRk 289 B289_10 = true := zRw_ok (by decide +kernel)
noncomputable def B289_11 : List zRow := [(47, .ifCond .ne 6, 3, (0, 0, 0))]
theorem K289_11 : zRk 289 B289_11 = true := zRw_ok (by decide +kernel)
noncomputable def B289_12 : List zRow := [(22, .iload_n 3, 1, (0, 0, 0)), (23, .aload_n 0, 1, (0, 0, 0)), (24, .getfield 13, 3, (12, 14, 5251442)), (27, .sipush 216, 3, (0, 0, 0)), (30, .iaload, 1, (0, 0, 0)), (31, .if_icmp .ge 38, 3, (0, 0, 0))]
theorem K289_12 : zRk 289 B289_12 = true := zRw_ok (by decide +kernel)
noncomputable def B289_13 : List zRow := [(63, .iinc 3 1, 3, (0, 0, 0)), (66, .goto (-44), 3, (0, 0, 0))]
theorem K289_13 : zRk 289 B289_13 = true := zRw_ok (by decide +kernel)
def F289_1 (k0 : Int → Int → Int → zHM → Option (Int × zHM)) (v1 : Int) (v2 : Int) (v3 : Int) (h : zHM) : Option (Int × zHM) := k0 v1 v2 (wadd v3 1) h
set_option maxRecDepth 100000 in
theorem T289_1 {spec : zRn zH2} {hc : zHC} {o : Int → Int} {d : Nat} (hd : 192 ≤ d) (k0 : Int → Int → Int → zHM → Option (Int × zHM)) (hk0 : ∀ (v1 : Int) (v2 : Int) (v3 : Int) (h : zHM) (v : (Int × zHM)), k0 v1 v2 v3 h = some v → zFin 0 (fun _ => 0) (zRu2 spec d) 289 (some (0, v.1)) (hc, v.2, o) (22, [some (22, 0), some (0, v1), some (0, v2), some (0, v3)], [], (hc, h, o))) (v1 : Int) (v2 : Int) (v3 : Int) (h : zHM) (v : (Int × zHM)) (e : F289_1 k0 v1 v2 v3 h = some v) : zFin 0 (fun _ => 0) (zRu2 spec d) 289 (some (0, v.1)) (hc, v.2, o) (63, [some (22, 0), some (0, v1), some (0, v2), some (0, v3)], [], (hc, h, o)) := by
  unfold F289_1 at e
  refine zF_blk (m := []) (d := 0) (b := B289_13) (gs := []) (c' := (22, [some (22, 0), some (0, v1), some (0, v2), some (0, (wadd v3 1))], [], (hc, h, o))) K289_13 rfl trivial ?_
  exact hk0 v1 v2 (wadd v3 1) h _ e
def F289_0 : Nat → Int → Int → Int → zHM → Option (Int × zHM)
  | 0, _, _, _, _ => none
  | n + 1, v1, v2, v3, h => if (h 14 216) ≤ v3 then if ¬ v1 = (-1) then some ((-1), h) else some (v2, h) else (F290r 64 (h 14 1899) v3 h).bind fun r1 => if ¬ r1 = 0 then if ¬ v2 = v1 then F289_1 (F289_0 n) v1 (wadd v2 1) v3 h else some (v3, h) else F289_1 (F289_0 n) v1 v2 v3 h
set_option maxRecDepth 100000 in
theorem T289_0 {spec : zRn zH2} {hc : zHC} {o : Int → Int} {d : Nat} (hd : 192 ≤ d) : ∀ (n : Nat) (v1 : Int) (v2 : Int) (v3 : Int) (h : zHM) (v : (Int × zHM)), F289_0 n v1 v2 v3 h = some v → zFin 0 (fun _ => 0) (zRu2 spec d) 289 (some (0, v.1)) (hc, v.2, o) (22, [some (22, 0), some (0, v1), some (0, v2), some (0, v3)], [], (hc, h, o)) := by
  intro n
  induction n with
  | zero => intro v1 v2 v3 h v e; unfold F289_0 at e; cases e
  | succ n hk0 =>
    intro v1 v2 v3 h v e
    unfold F289_0 at e
    rcases zI_s e with ⟨q1, e⟩ | ⟨q1, e⟩
    · refine zF_blk (m := []) (d := 1) (b := B289_12) (gs := [0 ≤ 216 ∧ 216 < 2140, (h 14 216) ≤ v3]) (c' := (69, [some (22, 0), some (0, v1), some (0, v2), some (0, v3)], [], (hc, h, o))) K289_12 rfl ⟨by decide, q1, trivial⟩ ?_
      rcases zI_s e with ⟨q2, e⟩ | ⟨q2, e⟩
      · refine zF_blk (m := []) (d := 1) (b := B289_5) (gs := [¬ v1 = (-1)]) (c' := (78, [some (22, 0), some (0, v1), some (0, v2), some (0, v3)], [], (hc, h, o))) K289_5 rfl ⟨q2, trivial⟩ ?_
        refine zF_blk (m := []) (d := 0) (b := B289_3) (gs := []) (c' := (79, [some (22, 0), some (0, v1), some (0, v2), some (0, v3)], [(0, (-1))], (hc, h, o))) K289_3 rfl trivial ?_
        exact zF_riM (zRe1_w (by decide +kernel)) e
      · refine zF_blk (m := []) (d := 0) (b := B289_5) (gs := [¬ (¬ v1 = (-1))]) (c' := (74, [some (22, 0), some (0, v1), some (0, v2), some (0, v3)], [], (hc, h, o))) K289_5 rfl ⟨q2, trivial⟩ ?_
        refine zF_blk (m := []) (d := 0) (b := B289_4) (gs := []) (c' := (79, [some (22, 0), some (0, v1), some (0, v2), some (0, v3)], [(0, v2)], (hc, h, o))) K289_4 rfl trivial ?_
        exact zF_riM (zRe1_w (by decide +kernel)) e
    · refine zF_blk (m := []) (d := 0) (b := B289_12) (gs := [0 ≤ 216 ∧ 216 < 2140, ¬ ((h 14 216) ≤ v3)]) (c' := (34, [some (22, 0), some (0, v1), some (0, v2), some (0, v3)], [], (hc, h, o))) K289_12 rfl ⟨by decide, q1, trivial⟩ ?_
      obtain ⟨r1, q3, e⟩ := zB_s e
      refine zF_blk (m := []) (d := 0) (b := B289_6) (gs := [0 ≤ 1899 ∧ 1899 < 2140]) (c' := (44, [some (22, 0), some (0, v1), some (0, v2), some (0, v3)], [(0, v3), (0, (h 14 1899)), (22, 0)], (hc, h, o))) K289_6 rfl ⟨by decide, trivial⟩ ?_
      refine zF_call (k := 290) (cl := 12) (n := 3) (i := .invokevirtual 431) (args := [(22, 0), (0, (h 14 1899)), (0, v3)]) (rest := []) (g1 := (hc, h, o)) (r1 := some (0, r1)) (zCk1_w (by decide +kernel)) rfl rfl rfl (st' := [(0, r1)]) rfl (S290r 64 (Nat.le_trans (by decide) hd) (h 14 1899) v3 h _ q3) ?_
      rcases zI_s e with ⟨q4, e⟩ | ⟨q4, e⟩
      · refine zF_blk (m := []) (d := 1) (b := B289_11) (gs := [¬ r1 = 0]) (c' := (53, [some (22, 0), some (0, v1), some (0, v2), some (0, v3)], [], (hc, h, o))) K289_11 rfl ⟨q4, trivial⟩ ?_
        rcases zI_s e with ⟨q5, e⟩ | ⟨q5, e⟩
        · refine zF_blk (m := []) (d := 1) (b := B289_9) (gs := [¬ v2 = v1]) (c' := (60, [some (22, 0), some (0, v1), some (0, v2), some (0, v3)], [], (hc, h, o))) K289_9 rfl ⟨q5, trivial⟩ ?_
          refine zF_blk (m := []) (d := 0) (b := B289_7) (gs := []) (c' := (63, [some (22, 0), some (0, v1), some (0, (wadd v2 1)), some (0, v3)], [], (hc, h, o))) K289_7 rfl trivial ?_
          exact T289_1 hd (F289_0 n) hk0 v1 (wadd v2 1) v3 h _ e
        · refine zF_blk (m := []) (d := 0) (b := B289_9) (gs := [¬ (¬ v2 = v1)]) (c' := (58, [some (22, 0), some (0, v1), some (0, v2), some (0, v3)], [], (hc, h, o))) K289_9 rfl ⟨q5, trivial⟩ ?_
          refine zF_blk (m := []) (d := 0) (b := B289_8) (gs := []) (c' := (59, [some (22, 0), some (0, v1), some (0, v2), some (0, v3)], [(0, v3)], (hc, h, o))) K289_8 rfl trivial ?_
          exact zF_riM (zRe1_w (by decide +kernel)) e
      · refine zF_blk (m := []) (d := 0) (b := B289_11) (gs := [¬ (¬ r1 = 0)]) (c' := (50, [some (22, 0), some (0, v1), some (0, v2), some (0, v3)], [], (hc, h, o))) K289_11 rfl ⟨q4, trivial⟩ ?_
        refine zF_blk (m := []) (d := 0) (b := B289_10) (gs := []) (c' := (63, [some (22, 0), some (0, v1), some (0, v2), some (0, v3)], [], (hc, h, o))) K289_10 rfl trivial ?_
        exact T289_1 hd (F289_0 n) hk0 v1 v2 v3 h _ e
/-- EchoValeModel.said(I)I -/
def F289 (v1 : Int) (h : zHM) : Option (Int × zHM) := if ¬ (h 14 1898) = 0 then F289_0 zFu v1 0 0 (mset h 0 0 0) else some ((-1), (mset h 0 0 0))
set_option maxRecDepth 100000 in
theorem S289 {spec : zRn zH2} {hc : zHC} {o : Int → Int} {d : Nat} (hd : 193 ≤ d) (v1 : Int) (h : zHM) (v : (Int × zHM)) (e : F289 v1 h = some v) : zRu2 spec d 289 [(22, 0), (0, v1)] (hc, h, o) (some (0, v.1)) (hc, v.2, o) := by
  refine zF_in (D := 192) (mx := 4) (L := [some (22, 0), some (0, v1), none, none]) (by decide +kernel) rfl rfl hd (fun d hd => ?_)
  unfold F289 at e
  rcases zI_s e with ⟨q1, e⟩ | ⟨q1, e⟩
  · refine zF_blk (m := []) (d := 1) (b := B289_2) (gs := [0 ≤ 1898 ∧ 1898 < 2140, ¬ (h 14 1898) = 0]) (c' := (18, [some (22, 0), some (0, v1), none, none], [], (hc, (mset h 0 0 0), o))) K289_2 rfl ⟨by decide, q1, trivial⟩ ?_
    refine zF_blk (m := []) (d := 0) (b := B289_0) (gs := []) (c' := (22, [some (22, 0), some (0, v1), some (0, 0), some (0, 0)], [], (hc, (mset h 0 0 0), o))) K289_0 rfl trivial ?_
    exact T289_0 hd zFu v1 0 0 (mset h 0 0 0) _ e
  · refine zF_blk (m := []) (d := 0) (b := B289_2) (gs := [0 ≤ 1898 ∧ 1898 < 2140, ¬ (¬ (h 14 1898) = 0)]) (c' := (16, [some (22, 0), some (0, v1), none, none], [], (hc, (mset h 0 0 0), o))) K289_2 rfl ⟨by decide, q1, trivial⟩ ?_
    refine zF_blk (m := []) (d := 0) (b := B289_1) (gs := []) (c' := (17, [some (22, 0), some (0, v1), none, none], [(0, (-1))], (hc, (mset h 0 0 0), o))) K289_1 rfl trivial ?_
    exact zF_riM (zRe1_w (by decide +kernel)) e
noncomputable def B160_0 : List zRow := [(9, .iconst 0, 1, (0, 0, 0))]
theorem K160_0 : zRk 160 B160_0 = true := zRw_ok (by decide +kernel)
noncomputable def B160_1 : List zRow := [(11, .aload_n 0, 1, (0, 0, 0)), (12, .getfield 72, 3, (11, 9, 6291466)), (15, .iload_n 1, 1, (0, 0, 0)), (16, .aaload, 1, (24, 0, 0)), (17, .getfield 359, 3, (3, 1, 359)), (20, .aload_n 0, 1, (0, 0, 0)), (21, .getfield 19, 3, (11, 1, 39))]
theorem K160_1 : zRk 160 B160_1 = true := zRw_ok (by decide +kernel)
noncomputable def B160_2 : List zRow := [(27, .aload_n 0, 1, (0, 0, 0)), (28, .getfield 72, 3, (11, 9, 6291466)), (31, .iload_n 1, 1, (0, 0, 0)), (32, .aaload, 1, (24, 0, 0)), (33, .getfield 360, 3, (3, 2, 1351)), (36, .aload_n 0, 1, (0, 0, 0)), (37, .getfield 56, 3, (11, 6, 7))]
theorem K160_2 : zRk 160 B160_2 = true := zRw_ok (by decide +kernel)
noncomputable def B160_3 : List zRow := [(43, .aload_n 0, 1, (0, 0, 0)), (44, .getfield 72, 3, (11, 9, 6291466)), (47, .iload_n 1, 1, (0, 0, 0)), (48, .aaload, 1, (24, 0, 0)), (49, .getfield 361, 3, (3, 3, 347)), (52, .aload_n 0, 1, (0, 0, 0)), (53, .getfield 42, 3, (11, 4, 27))]
theorem K160_3 : zRk 160 B160_3 = true := zRw_ok (by decide +kernel)
noncomputable def B160_4 : List zRow := [(59, .aload_n 0, 1, (0, 0, 0)), (60, .getfield 72, 3, (11, 9, 6291466)), (63, .iload_n 1, 1, (0, 0, 0)), (64, .aaload, 1, (24, 0, 0)), (65, .iconst 1, 1, (0, 0, 0)), (66, .putfield 362, 3, (3, 0, 0)), (69, .iconst 1, 1, (0, 0, 0))]
theorem K160_4 : zRk 160 B160_4 = true := zRw_ok (by decide +kernel)
noncomputable def B160_5 : List zRow := [(4, .iload_n 1, 1, (0, 0, 0)), (5, .iconst 2, 1, (0, 0, 0)), (6, .if_icmp .lt 5, 3, (0, 0, 0))]
theorem K160_5 : zRk 160 B160_5 = true := zRw_ok (by decide +kernel)
noncomputable def B160_6 : List zRow := [(0, .iload_n 1, 1, (0, 0, 0)), (1, .ifCond .lt 8, 3, (0, 0, 0))]
theorem K160_6 : zRk 160 B160_6 = true := zRw_ok (by decide +kernel)
/-- EchoVale.image(I)Z -/
def F160 (v1 : Int) (h : zHC) : Option (Int × zHC) := if v1 < 0 then some (0, h) else if v1 < 2 then zG (0 ≤ v1 ∧ v1 < 2) ((F52 (v1 + 2) 0 h).bind fun r1 => zG (0 ≤ v1 ∧ v1 < 2) ((F71 (v1 + 10) 0 r1).bind fun r2 => zG (0 ≤ v1 ∧ v1 < 2) ((F155 (v1 + 2) 0 r2).bind fun r3 => zG (0 ≤ v1 ∧ v1 < 2) (some (1, (hset r3 192 v1 0 1)))))) else some (0, h)
set_option maxRecDepth 100000 in
theorem S160 {spec : zRn zH2} {hm : zHM} {o : Int → Int} {d : Nat} (hd : 3 ≤ d) (v1 : Int) (h : zHC) (v : (Int × zHC)) (e : F160 v1 h = some v) : zRu2 spec d 160 [(21, 0), (0, v1)] (h, hm, o) (some (0, v.1)) (v.2, hm, o) := by
  refine zF_in (D := 2) (mx := 2) (L := [some (21, 0), some (0, v1)]) (by decide +kernel) rfl rfl hd (fun d hd => ?_)
  unfold F160 at e
  rcases zI_s e with ⟨q1, e⟩ | ⟨q1, e⟩
  · refine zF_blk (m := []) (d := 1) (b := B160_6) (gs := [v1 < 0]) (c' := (9, [some (21, 0), some (0, v1)], [], (h, hm, o))) K160_6 rfl ⟨q1, trivial⟩ ?_
    refine zF_blk (m := []) (d := 0) (b := B160_0) (gs := []) (c' := (10, [some (21, 0), some (0, v1)], [(0, 0)], (h, hm, o))) K160_0 rfl trivial ?_
    exact zF_rbC (zRe1_w (by decide +kernel)) (Or.inl rfl) e
  · refine zF_blk (m := []) (d := 0) (b := B160_6) (gs := [¬ (v1 < 0)]) (c' := (4, [some (21, 0), some (0, v1)], [], (h, hm, o))) K160_6 rfl ⟨q1, trivial⟩ ?_
    rcases zI_s e with ⟨q2, e⟩ | ⟨q2, e⟩
    · refine zF_blk (m := []) (d := 1) (b := B160_5) (gs := [v1 < 2]) (c' := (11, [some (21, 0), some (0, v1)], [], (h, hm, o))) K160_5 rfl ⟨q2, trivial⟩ ?_
      obtain ⟨q3, e⟩ := zG_s e
      obtain ⟨r1, q4, e⟩ := zB_s e
      refine zF_blk (m := []) (d := 0) (b := B160_1) (gs := [0 ≤ v1 ∧ v1 < 2]) (c' := (24, [some (21, 0), some (0, v1)], [(19, 0), (19, (v1 + 2))], (h, hm, o))) K160_1 rfl ⟨q3, trivial⟩ ?_
      refine zF_call (k := 52) (cl := 9) (n := 2) (i := .invokevirtual 120) (args := [(19, (v1 + 2)), (19, 0)]) (rest := []) (g1 := (r1, hm, o)) (r1 := none) (zCk1_w (by decide +kernel)) rfl rfl rfl (st' := []) rfl (S52 (Nat.le_trans (by decide) hd) (v1 + 2) 0 h _ q4) ?_
      obtain ⟨q5, e⟩ := zG_s e
      obtain ⟨r2, q6, e⟩ := zB_s e
      refine zF_blk (m := []) (d := 0) (b := B160_2) (gs := [0 ≤ v1 ∧ v1 < 2]) (c' := (40, [some (21, 0), some (0, v1)], [(11, 0), (11, (v1 + 10))], (r1, hm, o))) K160_2 rfl ⟨q5, trivial⟩ ?_
      refine zF_call (k := 71) (cl := 1) (n := 2) (i := .invokevirtual 266) (args := [(11, (v1 + 10)), (11, 0)]) (rest := []) (g1 := (r2, hm, o)) (r1 := none) (zCk1_w (by decide +kernel)) rfl rfl rfl (st' := []) rfl (S71 (Nat.le_trans (by decide) hd) (v1 + 10) 0 r1 _ q6) ?_
      obtain ⟨q7, e⟩ := zG_s e
      obtain ⟨r3, q8, e⟩ := zB_s e
      refine zF_blk (m := []) (d := 0) (b := B160_3) (gs := [0 ≤ v1 ∧ v1 < 2]) (c' := (56, [some (21, 0), some (0, v1)], [(16, 0), (16, (v1 + 2))], (r2, hm, o))) K160_3 rfl ⟨q7, trivial⟩ ?_
      refine zF_call (k := 155) (cl := 6) (n := 2) (i := .invokevirtual 348) (args := [(16, (v1 + 2)), (16, 0)]) (rest := []) (g1 := (r3, hm, o)) (r1 := none) (zCk1_w (by decide +kernel)) rfl rfl rfl (st' := []) rfl (S155 (Nat.le_trans (by decide) hd) (v1 + 2) 0 r2 _ q8) ?_
      obtain ⟨q9, e⟩ := zG_s e
      refine zF_blk (m := []) (d := 0) (b := B160_4) (gs := [0 ≤ v1 ∧ v1 < 2, 1 = 0 ∨ 1 = 1]) (c' := (70, [some (21, 0), some (0, v1)], [(0, 1)], ((hset r3 192 v1 0 1), hm, o))) K160_4 rfl ⟨q9, by decide, trivial⟩ ?_
      exact zF_rbC (zRe1_w (by decide +kernel)) (Or.inr rfl) e
    · refine zF_blk (m := []) (d := 0) (b := B160_5) (gs := [¬ (v1 < 2)]) (c' := (9, [some (21, 0), some (0, v1)], [], (h, hm, o))) K160_5 rfl ⟨q2, trivial⟩ ?_
      refine zF_blk (m := []) (d := 0) (b := B160_0) (gs := []) (c' := (10, [some (21, 0), some (0, v1)], [(0, 0)], (h, hm, o))) K160_0 rfl trivial ?_
      exact zF_rbC (zRe1_w (by decide +kernel)) (Or.inl rfl) e
noncomputable def B292_0 : List zRow := [(0, .aload_n 0, 1, (0, 0, 0)), (1, .iconst 0, 1, (0, 0, 0)), (2, .putfield 81, 3, (12, 0, 0)), (5, .iload_n 1, 1, (0, 0, 0)), (6, .iconst 0, 1, (0, 0, 0)), (7, .iconst 1, 1, (0, 0, 0))]
theorem K292_0 : zRk 292 B292_0 = true := zRw_ok (by decide +kernel)
noncomputable def B292_1 : List zRow := [(16, .iconst 0, 1, (0, 0, 0)), (17, .istore_n 2, 1, (0, 0, 0))]
theorem K292_1 : zRk 292 B292_1 = true := zRw_ok (by decide +kernel)
noncomputable def B292_2 : List zRow := [(14, .iconst 0, 1, (0, 0, 0))]
theorem K292_2 : zRk 292 B292_2 = true := zRw_ok (by decide +kernel)
noncomputable def B292_3 : List zRow := [(11, .ifCond .ne 5, 3, (0, 0, 0))]
theorem K292_3 : zRk 292 B292_3 = true := zRw_ok (by decide +kernel)
noncomputable def B292_4 : List zRow := [(49, .iconst 0, 1, (0, 0, 0)), (50, .istore_n 2, 1, (0, 0, 0))]
theorem K292_4 : zRk 292 B292_4 = true := zRw_ok (by decide +kernel)
noncomputable def B292_5 : List zRow := [(25, .aload_n 0, 1, (0, 0, 0)), (26, .getfield 19, 3, (12, 16, 5260002)), (29, .sipush 2140, 3, (0, 0, 0)), (32, .iload_n 1, 1, (0, 0, 0))]
theorem K292_5 : zRk 292 B292_5 = true := zRw_ok (by decide +kernel)
noncomputable def B292_6 : List zRow := [(33, .imul, 1, (0, 0, 0)), (34, .iload_n 2, 1, (0, 0, 0)), (35, .iadd, 1, (0, 0, 0)), (36, .aload_n 0, 1, (0, 0, 0)), (37, .getfield 13, 3, (12, 14, 5251442)), (40, .iload_n 2, 1, (0, 0, 0)), (41, .iaload, 1, (0, 0, 0)), (42, .iastore, 1, (0, 0, 0)), (43, .iinc 2 1, 3, (0, 0, 0)), (46, .goto (-28), 3, (0, 0, 0))]
theorem K292_6 : zRk 292 B292_6 = true := zRw_ok (by decide +kernel)
noncomputable def B292_7 : List zRow := [(18, .iload_n 2, 1, (0, 0, 0)), (19, .sipush 2140, 3, (0, 0, 0)), (22, .if_icmp .ge 27, 3, (0, 0, 0))]
theorem K292_7 : zRk 292 B292_7 = true := zRw_ok (by decide +kernel)
noncomputable def B292_8 : List zRow := [(80, .aload_n 0, 1, (0, 0, 0)), (81, .getfield 38, 3, (12, 22, 5767178)), (84, .iload_n 1, 1, (0, 0, 0)), (85, .iconst 1, 1, (0, 0, 0)), (86, .bastore, 1, (0, 0, 0)), (87, .iconst 1, 1, (0, 0, 0))]
theorem K292_8 : zRk 292 B292_8 = true := zRw_ok (by decide +kernel)
noncomputable def B292_9 : List zRow := [(57, .aload_n 0, 1, (0, 0, 0)), (58, .getfield 35, 3, (12, 21, 5505122)), (61, .bipush 12, 2, (0, 0, 0)), (63, .iload_n 1, 1, (0, 0, 0))]
theorem K292_9 : zRk 292 B292_9 = true := zRw_ok (by decide +kernel)
noncomputable def B292_10 : List zRow := [(64, .imul, 1, (0, 0, 0)), (65, .iload_n 2, 1, (0, 0, 0)), (66, .iadd, 1, (0, 0, 0)), (67, .aload_n 0, 1, (0, 0, 0)), (68, .getfield 28, 3, (12, 19, 5505074)), (71, .iload_n 2, 1, (0, 0, 0)), (72, .laload, 1, (0, 0, 0)), (73, .lastore, 1, (0, 0, 0)), (74, .iinc 2 1, 3, (0, 0, 0)), (77, .goto (-26), 3, (0, 0, 0))]
theorem K292_10 : zRk 292 B292_10 = true := zRw_ok (by decide +kernel)
noncomputable def B292_11 : List zRow := [(51, .iload_n 2, 1, (0, 0, 0)), (52, .bipush 12, 2, (0, 0, 0)), (54, .if_icmp .ge 26, 3, (0, 0, 0))]
theorem K292_11 : zRk 292 B292_11 = true := zRw_ok (by decide +kernel)
def F292_1 : Nat → Int → Int → zHM → Option (Int × zHM)
  | 0, _, _, _ => none
  | n + 1, v1, v2, h => if 12 ≤ v2 then zG (0 ≤ v1 ∧ v1 < 2) (some (1, (mset h 22 v1 1))) else zG (0 ≤ v2 ∧ v2 < 12) (zG (0 ≤ (wadd (wmul 12 v1) v2) ∧ (wadd (wmul 12 v1) v2) < 24) ((F292_1 n) v1 (wadd v2 1) (mset h 21 (wadd (wmul 12 v1) v2) (h 19 v2))))
set_option maxRecDepth 100000 in
theorem T292_1 {spec : zRn zH2} {hc : zHC} {o : Int → Int} {d : Nat} (hd : 1 ≤ d) : ∀ (n : Nat) (v1 : Int) (v2 : Int) (h : zHM) (v : (Int × zHM)), F292_1 n v1 v2 h = some v → zFin 0 (fun _ => 0) (zRu2 spec d) 292 (some (0, v.1)) (hc, v.2, o) (51, [some (22, 0), some (0, v1), some (0, v2)], [], (hc, h, o)) := by
  intro n
  induction n with
  | zero => intro v1 v2 h v e; unfold F292_1 at e; cases e
  | succ n hk0 =>
    intro v1 v2 h v e
    unfold F292_1 at e
    rcases zI_s e with ⟨q1, e⟩ | ⟨q1, e⟩
    · refine zF_blk (m := []) (d := 1) (b := B292_11) (gs := [12 ≤ v2]) (c' := (80, [some (22, 0), some (0, v1), some (0, v2)], [], (hc, h, o))) K292_11 rfl ⟨q1, trivial⟩ ?_
      obtain ⟨q2, e⟩ := zG_s e
      refine zF_blk (m := []) (d := 0) (b := B292_8) (gs := [0 ≤ v1 ∧ v1 < 2, 1 = 0 ∨ 1 = 1]) (c' := (88, [some (22, 0), some (0, v1), some (0, v2)], [(0, 1)], (hc, (mset h 22 v1 1), o))) K292_8 rfl ⟨q2, by decide, trivial⟩ ?_
      exact zF_rbM (zRe1_w (by decide +kernel)) (Or.inr rfl) e
    · refine zF_blk (m := []) (d := 0) (b := B292_11) (gs := [¬ (12 ≤ v2)]) (c' := (57, [some (22, 0), some (0, v1), some (0, v2)], [], (hc, h, o))) K292_11 rfl ⟨q1, trivial⟩ ?_
      obtain ⟨q3, e⟩ := zG_s e
      obtain ⟨q4, e⟩ := zG_s e
      refine zF_blk (m := []) (d := 0) (b := B292_9) (gs := []) (c' := (64, [some (22, 0), some (0, v1), some (0, v2)], [(0, v1), (0, 12), (1409312509, 0)], (hc, h, o))) K292_9 rfl trivial ?_
      refine zF_blk (m := []) (d := 0) (b := B292_10) (gs := [0 ≤ v2 ∧ v2 < 12, 0 ≤ (wadd (wmul 12 v1) v2) ∧ (wadd (wmul 12 v1) v2) < 24]) (c' := (51, [some (22, 0), some (0, v1), some (0, (wadd v2 1))], [], (hc, (mset h 21 (wadd (wmul 12 v1) v2) (h 19 v2)), o))) K292_10 rfl ⟨q3, q4, trivial⟩ ?_
      exact hk0 v1 (wadd v2 1) (mset h 21 (wadd (wmul 12 v1) v2) (h 19 v2)) _ e
def F292_0 : Nat → Int → Int → zHM → Option (Int × zHM)
  | 0, _, _, _ => none
  | n + 1, v1, v2, h => if 2140 ≤ v2 then F292_1 zFu v1 0 h else zG (0 ≤ v2 ∧ v2 < 2140) (zG (0 ≤ (wadd (wmul 2140 v1) v2) ∧ (wadd (wmul 2140 v1) v2) < 4280) ((F292_0 n) v1 (wadd v2 1) (mset h 16 (wadd (wmul 2140 v1) v2) (h 14 v2))))
set_option maxRecDepth 100000 in
theorem T292_0 {spec : zRn zH2} {hc : zHC} {o : Int → Int} {d : Nat} (hd : 1 ≤ d) : ∀ (n : Nat) (v1 : Int) (v2 : Int) (h : zHM) (v : (Int × zHM)), F292_0 n v1 v2 h = some v → zFin 0 (fun _ => 0) (zRu2 spec d) 292 (some (0, v.1)) (hc, v.2, o) (18, [some (22, 0), some (0, v1), some (0, v2)], [], (hc, h, o)) := by
  intro n
  induction n with
  | zero => intro v1 v2 h v e; unfold F292_0 at e; cases e
  | succ n hk0 =>
    intro v1 v2 h v e
    unfold F292_0 at e
    rcases zI_s e with ⟨q1, e⟩ | ⟨q1, e⟩
    · refine zF_blk (m := []) (d := 1) (b := B292_7) (gs := [2140 ≤ v2]) (c' := (49, [some (22, 0), some (0, v1), some (0, v2)], [], (hc, h, o))) K292_7 rfl ⟨q1, trivial⟩ ?_
      refine zF_blk (m := []) (d := 0) (b := B292_4) (gs := []) (c' := (51, [some (22, 0), some (0, v1), some (0, 0)], [], (hc, h, o))) K292_4 rfl trivial ?_
      exact T292_1 hd zFu v1 0 h _ e
    · refine zF_blk (m := []) (d := 0) (b := B292_7) (gs := [¬ (2140 ≤ v2)]) (c' := (25, [some (22, 0), some (0, v1), some (0, v2)], [], (hc, h, o))) K292_7 rfl ⟨q1, trivial⟩ ?_
      obtain ⟨q2, e⟩ := zG_s e
      obtain ⟨q3, e⟩ := zG_s e
      refine zF_blk (m := []) (d := 0) (b := B292_5) (gs := []) (c' := (33, [some (22, 0), some (0, v1), some (0, v2)], [(0, v1), (0, 2140), (1346561784, 0)], (hc, h, o))) K292_5 rfl trivial ?_
      refine zF_blk (m := []) (d := 0) (b := B292_6) (gs := [0 ≤ v2 ∧ v2 < 2140, 0 ≤ (wadd (wmul 2140 v1) v2) ∧ (wadd (wmul 2140 v1) v2) < 4280]) (c' := (18, [some (22, 0), some (0, v1), some (0, (wadd v2 1))], [], (hc, (mset h 16 (wadd (wmul 2140 v1) v2) (h 14 v2)), o))) K292_6 rfl ⟨q2, q3, trivial⟩ ?_
      exact hk0 v1 (wadd v2 1) (mset h 16 (wadd (wmul 2140 v1) v2) (h 14 v2)) _ e
/-- EchoValeModel.image(I)Z -/
def F292 (v1 : Int) (h : zHM) : Option (Int × zHM) := (F188 v1 0 1).bind fun r1 => if ¬ r1 = 0 then F292_0 zFu v1 0 (mset h 0 0 0) else some (0, (mset h 0 0 0))
set_option maxRecDepth 100000 in
theorem S292 {spec : zRn zH2} {hc : zHC} {o : Int → Int} {d : Nat} (hd : 2 ≤ d) (v1 : Int) (h : zHM) (v : (Int × zHM)) (e : F292 v1 h = some v) : zRu2 spec d 292 [(22, 0), (0, v1)] (hc, h, o) (some (0, v.1)) (hc, v.2, o) := by
  refine zF_in (D := 1) (mx := 3) (L := [some (22, 0), some (0, v1), none]) (by decide +kernel) rfl rfl hd (fun d hd => ?_)
  unfold F292 at e
  obtain ⟨r1, q1, e⟩ := zB_s e
  refine zF_blk (m := []) (d := 0) (b := B292_0) (gs := []) (c' := (8, [some (22, 0), some (0, v1), none], [(0, 1), (0, 0), (0, v1)], (hc, (mset h 0 0 0), o))) K292_0 rfl trivial ?_
  refine zF_call (k := 188) (cl := 12) (n := 3) (i := .invokestatic 151) (args := [(0, v1), (0, 0), (0, 1)]) (rest := []) (g1 := (hc, (mset h 0 0 0), o)) (r1 := some (0, r1)) (zCk1_w (by decide +kernel)) rfl rfl rfl (st' := [(0, r1)]) rfl (S188 (Nat.le_trans (by decide) hd) v1 0 1 (mset h 0 0 0) _ q1) ?_
  rcases zI_s e with ⟨q2, e⟩ | ⟨q2, e⟩
  · refine zF_blk (m := []) (d := 1) (b := B292_3) (gs := [¬ r1 = 0]) (c' := (16, [some (22, 0), some (0, v1), none], [], (hc, (mset h 0 0 0), o))) K292_3 rfl ⟨q2, trivial⟩ ?_
    refine zF_blk (m := []) (d := 0) (b := B292_1) (gs := []) (c' := (18, [some (22, 0), some (0, v1), some (0, 0)], [], (hc, (mset h 0 0 0), o))) K292_1 rfl trivial ?_
    exact T292_0 hd zFu v1 0 (mset h 0 0 0) _ e
  · refine zF_blk (m := []) (d := 0) (b := B292_3) (gs := [¬ (¬ r1 = 0)]) (c' := (14, [some (22, 0), some (0, v1), none], [], (hc, (mset h 0 0 0), o))) K292_3 rfl ⟨q2, trivial⟩ ?_
    refine zF_blk (m := []) (d := 0) (b := B292_2) (gs := []) (c' := (15, [some (22, 0), some (0, v1), none], [(0, 0)], (hc, (mset h 0 0 0), o))) K292_2 rfl trivial ?_
    exact zF_rbM (zRe1_w (by decide +kernel)) (Or.inl rfl) e
