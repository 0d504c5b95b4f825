/-! Functions of the methods, by wip/gen/lift.py. -/
noncomputable def B41_0 : List zRow := [(23, .aload_n 0, 1, (0, 0, 0)), (24, .getfield 18, 3, (10, 2, 23))]
theorem K41_0 : zRk 41 B41_0 = true := zRw_ok (by decide +kernel)
noncomputable def B41_1 : List zRow := [(30, .aload_n 0, 1, (0, 0, 0))]
theorem K41_1 : zRk 41 B41_1 = true := zRw_ok (by decide +kernel)
noncomputable def B41_2 : List zRow := [(39, .aload_n 0, 1, (0, 0, 0)), (40, .getfield 18, 3, (10, 2, 23)), (43, .getfield 95, 3, (5, 7, 1)), (46, .lstore_n 2, 1, (0, 0, 0)), (47, .aload_n 0, 1, (0, 0, 0)), (48, .getfield 18, 3, (10, 2, 23))]
theorem K41_2 : zRk 41 B41_2 = true := zRw_ok (by decide +kernel)
noncomputable def B41_3 : List zRow := [(54, .aload_n 0, 1, (0, 0, 0))]
theorem K41_3 : zRk 41 B41_3 = true := zRw_ok (by decide +kernel)
noncomputable def B41_4 : List zRow := [(68, .aload_n 0, 1, (0, 0, 0)), (69, .getfield 12, 3, (10, 0, 167)), (72, .getfield 123, 3, (9, 11, 5505050)), (75, .iload_n 1, 1, (0, 0, 0)), (76, .lload_n 2, 1, (0, 0, 0)), (77, .lastore, 1, (0, 0, 0)), (78, .aload_n 0, 1, (0, 0, 0)), (79, .getfield 12, 3, (10, 0, 167)), (82, .getfield 126, 3, (9, 12, 5242906)), (85, .iload_n 1, 1, (0, 0, 0)), (86, .iload 4, 2, (0, 0, 0)), (88, .iastore, 1, (0, 0, 0)), (89, .aload_n 0, 1, (0, 0, 0)), (90, .getfield 12, 3, (10, 0, 167)), (93, .getfield 129, 3, (9, 13, 5242906)), (96, .iload_n 1, 1, (0, 0, 0)), (97, .iconst (-1), 1, (0, 0, 0)), (98, .iastore, 1, (0, 0, 0)), (99, .aload_n 0, 1, (0, 0, 0)), (100, .getfield 12, 3, (10, 0, 167)), (103, .iload_n 1, 1, (0, 0, 0)), (104, .iconst 1, 1, (0, 0, 0)), (105, .iadd, 1, (0, 0, 0)), (106, .putfield 120, 3, (9, 3, 0)), (109, .aload_n 0, 1, (0, 0, 0)), (110, .getfield 18, 3, (10, 2, 23))]
theorem K41_4 : zRk 41 B41_4 = true := zRw_ok (by decide +kernel)
noncomputable def B41_5 : List zRow := [(116, .iconst 1, 1, (0, 0, 0))]
theorem K41_5 : zRk 41 B41_5 = true := zRw_ok (by decide +kernel)
noncomputable def B41_6 : List zRow := [(66, .iconst 0, 1, (0, 0, 0))]
theorem K41_6 : zRk 41 B41_6 = true := zRw_ok (by decide +kernel)
noncomputable def B41_7 : List zRow := [(58, .istore 4, 2, (0, 0, 0)), (60, .iload 4, 2, (0, 0, 0)), (62, .iconst (-1), 1, (0, 0, 0)), (63, .if_icmp .ne 5, 3, (0, 0, 0))]
theorem K41_7 : zRk 41 B41_7 = true := zRw_ok (by decide +kernel)
noncomputable def B41_8 : List zRow := [(37, .iconst 0, 1, (0, 0, 0))]
theorem K41_8 : zRk 41 B41_8 = true := zRw_ok (by decide +kernel)
noncomputable def B41_9 : List zRow := [(34, .ifCond .ne 5, 3, (0, 0, 0))]
theorem K41_9 : zRk 41 B41_9 = true := zRw_ok (by decide +kernel)
noncomputable def B41_10 : List zRow := [(14, .aload_n 0, 1, (0, 0, 0)), (15, .getfield 18, 3, (10, 2, 23)), (18, .iconst 4, 1, (0, 0, 0))]
theorem K41_10 : zRk 41 B41_10 = true := zRw_ok (by decide +kernel)
noncomputable def B41_11 : List zRow := [(0, .aload_n 0, 1, (0, 0, 0)), (1, .getfield 12, 3, (10, 0, 167)), (4, .getfield 120, 3, (9, 3, 0)), (7, .istore_n 1, 1, (0, 0, 0)), (8, .iload_n 1, 1, (0, 0, 0)), (9, .bipush 6, 2, (0, 0, 0)), (11, .if_icmp .lt 12, 3, (0, 0, 0))]
theorem K41_11 : zRk 41 B41_11 = true := zRw_ok (by decide +kernel)
/-- EchoVale$ValleyText.readPerson()Z -/
def F41 (h : zHC) : Option (Int × zHC) := if (h 579 1 0) < 6 then (F21 h).bind fun r1 => (F35 r1).bind fun r2 => if ¬ r2.1 = 0 then (F21 r2.2).bind fun r3 => (F39 r3).bind fun r4 => if ¬ r4.1 = (-1) then zG (0 ≤ (h 579 1 0) ∧ (h 579 1 0) < 6) (zG (0 ≤ (h 579 1 0) ∧ (h 579 1 0) < 6) (zG (0 ≤ (h 579 1 0) ∧ (h 579 1 0) < 6) ((F21 (hset (hset (hset (hset r4.2 587 1 (h 579 1 0) (r2.2 327 0 0)) 588 1 (h 579 1 0) r4.1) 589 1 (h 579 1 0) (-1)) 579 1 0 (wadd (h 579 1 0) 1))).bind fun r5 => some (1, r5)))) else some (0, r4.2) else some (0, r2.2) else (F31 4 h).bind fun r6 => zG (r6.1 = 0 ∨ r6.1 = 1) (some (r6.1, r6.2))
set_option maxRecDepth 100000 in
theorem S41 {spec : zRn zH2} {hm : zHM} {o : Int → Int} {d : Nat} (hd : 5 ≤ d) (h : zHC) (v : (Int × zHC)) (e : F41 h = some v) : zRu2 spec d 41 [(20, 0)] (h, hm, o) (some (0, v.1)) (v.2, hm, o) := by
  refine zF_in (D := 4) (mx := 5) (L := [some (20, 0), none, none, none, none]) (by decide +kernel) rfl rfl hd (fun d hd => ?_)
  unfold F41 at e
  rcases zI_s e with ⟨q1, e⟩ | ⟨q1, e⟩
  · refine zF_blk (m := []) (d := 1) (b := B41_11) (gs := [(h 579 1 0) < 6]) (c' := (23, [some (20, 0), some (0, (h 579 1 0)), none, none, none], [], (h, hm, o))) K41_11 rfl ⟨q1, trivial⟩ ?_
    obtain ⟨r1, q2, e⟩ := zB_s e
    refine zF_blk (m := []) (d := 0) (b := B41_0) (gs := []) (c' := (27, [some (20, 0), some (0, (h 579 1 0)), none, none, none], [(15, 0)], (h, hm, o))) K41_0 rfl trivial ?_
    refine zF_call (k := 21) (cl := 5) (n := 1) (i := .invokevirtual 79) (args := [(15, 0)]) (rest := []) (g1 := (r1, hm, o)) (r1 := none) (zCk1_w (by decide +kernel)) rfl rfl rfl (st' := []) rfl (S21 (Nat.le_trans (by decide) hd)  h _ q2) ?_
    obtain ⟨r2, q3, e⟩ := zB_s e
    refine zF_blk (m := []) (d := 0) (b := B41_1) (gs := []) (c' := (31, [some (20, 0), some (0, (h 579 1 0)), none, none, none], [(20, 0)], (r1, hm, o))) K41_1 rfl trivial ?_
    refine zF_call (k := 35) (cl := 10) (n := 1) (i := .invokevirtual 92) (args := [(20, 0)]) (rest := []) (g1 := (r2.2, hm, o)) (r1 := some (0, r2.1)) (zCk1_w (by decide +kernel)) rfl rfl rfl (st' := [(0, r2.1)]) rfl (S35 (Nat.le_trans (by decide) hd)  r1 _ q3) ?_
    rcases zI_s e with ⟨q4, e⟩ | ⟨q4, e⟩
    · refine zF_blk (m := []) (d := 1) (b := B41_9) (gs := [¬ r2.1 = 0]) (c' := (39, [some (20, 0), some (0, (h 579 1 0)), none, none, none], [], (r2.2, hm, o))) K41_9 rfl ⟨q4, trivial⟩ ?_
      obtain ⟨r3, q5, e⟩ := zB_s e
      refine zF_blk (m := []) (d := 0) (b := B41_2) (gs := []) (c' := (51, [some (20, 0), some (0, (h 579 1 0)), some (1, (r2.2 327 0 0)), none, none], [(15, 0)], (r2.2, hm, o))) K41_2 rfl trivial ?_
      refine zF_call (k := 21) (cl := 5) (n := 1) (i := .invokevirtual 79) (args := [(15, 0)]) (rest := []) (g1 := (r3, hm, o)) (r1 := none) (zCk1_w (by decide +kernel)) rfl rfl rfl (st' := []) rfl (S21 (Nat.le_trans (by decide) hd)  r2.2 _ q5) ?_
      obtain ⟨r4, q6, e⟩ := zB_s e
      refine zF_blk (m := []) (d := 0) (b := B41_3) (gs := []) (c' := (55, [some (20, 0), some (0, (h 579 1 0)), some (1, (r2.2 327 0 0)), none, none], [(20, 0)], (r3, hm, o))) K41_3 rfl trivial ?_
      refine zF_call (k := 39) (cl := 10) (n := 1) (i := .invokevirtual 99) (args := [(20, 0)]) (rest := []) (g1 := (r4.2, hm, o)) (r1 := some (0, r4.1)) (zCk1_w (by decide +kernel)) rfl rfl rfl (st' := [(0, r4.1)]) rfl (S39 (Nat.le_trans (by decide) hd)  r3 _ q6) ?_
      rcases zI_s e with ⟨q7, e⟩ | ⟨q7, e⟩
      · refine zF_blk (m := []) (d := 1) (b := B41_7) (gs := [¬ r4.1 = (-1)]) (c' := (68, [some (20, 0), some (0, (h 579 1 0)), some (1, (r2.2 327 0 0)), none, some (0, r4.1)], [], (r4.2, hm, o))) K41_7 rfl ⟨q7, trivial⟩ ?_
        obtain ⟨q8, e⟩ := zG_s e
        obtain ⟨q8, e⟩ := zG_s e
        obtain ⟨q8, e⟩ := zG_s e
        obtain ⟨r5, q9, e⟩ := zB_s e
        refine zF_blk (m := []) (d := 0) (b := B41_4) (gs := [0 ≤ (h 579 1 0) ∧ (h 579 1 0) < 6, 0 ≤ (h 579 1 0) ∧ (h 579 1 0) < 6, 0 ≤ (h 579 1 0) ∧ (h 579 1 0) < 6]) (c' := (113, [some (20, 0), some (0, (h 579 1 0)), some (1, (r2.2 327 0 0)), none, some (0, r4.1)], [(15, 0)], ((hset (hset (hset (hset r4.2 587 1 (h 579 1 0) (r2.2 327 0 0)) 588 1 (h 579 1 0) r4.1) 589 1 (h 579 1 0) (-1)) 579 1 0 (wadd (h 579 1 0) 1)), hm, o))) K41_4 rfl ⟨q8, q8, q8, trivial⟩ ?_
        refine zF_call (k := 21) (cl := 5) (n := 1) (i := .invokevirtual 79) (args := [(15, 0)]) (rest := []) (g1 := (r5, hm, o)) (r1 := none) (zCk1_w (by decide +kernel)) rfl rfl rfl (st' := []) rfl (S21 (Nat.le_trans (by decide) hd)  (hset (hset (hset (hset r4.2 587 1 (h 579 1 0) (r2.2 327 0 0)) 588 1 (h 579 1 0) r4.1) 589 1 (h 579 1 0) (-1)) 579 1 0 (wadd (h 579 1 0) 1)) _ q9) ?_
        refine zF_blk (m := []) (d := 0) (b := B41_5) (gs := []) (c' := (117, [some (20, 0), some (0, (h 579 1 0)), some (1, (r2.2 327 0 0)), none, some (0, r4.1)], [(0, 1)], (r5, hm, o))) K41_5 rfl trivial ?_
        exact zF_rbC (zRe1_w (by decide +kernel)) (Or.inr rfl) e
      · refine zF_blk (m := []) (d := 0) (b := B41_7) (gs := [¬ (¬ r4.1 = (-1))]) (c' := (66, [some (20, 0), some (0, (h 579 1 0)), some (1, (r2.2 327 0 0)), none, some (0, r4.1)], [], (r4.2, hm, o))) K41_7 rfl ⟨q7, trivial⟩ ?_
        refine zF_blk (m := []) (d := 0) (b := B41_6) (gs := []) (c' := (67, [some (20, 0), some (0, (h 579 1 0)), some (1, (r2.2 327 0 0)), none, some (0, r4.1)], [(0, 0)], (r4.2, hm, o))) K41_6 rfl trivial ?_
        exact zF_rbC (zRe1_w (by decide +kernel)) (Or.inl rfl) e
    · refine zF_blk (m := []) (d := 0) (b := B41_9) (gs := [¬ (¬ r2.1 = 0)]) (c' := (37, [some (20, 0), some (0, (h 579 1 0)), none, none, none], [], (r2.2, hm, o))) K41_9 rfl ⟨q4, trivial⟩ ?_
      refine zF_blk (m := []) (d := 0) (b := B41_8) (gs := []) (c' := (38, [some (20, 0), some (0, (h 579 1 0)), none, none, none], [(0, 0)], (r2.2, hm, o))) K41_8 rfl trivial ?_
      exact zF_rbC (zRe1_w (by decide +kernel)) (Or.inl rfl) e
  · refine zF_blk (m := []) (d := 0) (b := B41_11) (gs := [¬ ((h 579 1 0) < 6)]) (c' := (14, [some (20, 0), some (0, (h 579 1 0)), none, none, none], [], (h, hm, o))) K41_11 rfl ⟨q1, trivial⟩ ?_
    obtain ⟨r6, q10, e⟩ := zB_s e
    refine zF_blk (m := []) (d := 0) (b := B41_10) (gs := []) (c' := (19, [some (20, 0), some (0, (h 579 1 0)), none, none, none], [(0, 4), (15, 0)], (h, hm, o))) K41_10 rfl trivial ?_
    refine zF_call (k := 31) (cl := 5) (n := 2) (i := .invokevirtual 49) (args := [(15, 0), (0, 4)]) (rest := []) (g1 := (r6.2, hm, o)) (r1 := some (0, r6.1)) (zCk1_w (by decide +kernel)) rfl rfl rfl (st' := [(0, r6.1)]) rfl (S31 (Nat.le_trans (by decide) hd) 4 h _ q10) ?_
    obtain ⟨q11, e⟩ := zG_s e
    exact zF_rbC (zRe1_w (by decide +kernel)) q11 e
noncomputable def B43_0 : List zRow := [(16, .aload_n 1, 1, (0, 0, 0)), (17, .aload_n 0, 1, (0, 0, 0)), (18, .getfield 88, 3, (5, 7, 1))]
theorem K43_0 : zRk 43 B43_0 = true := zRw_ok (by decide +kernel)
noncomputable def B43_1 : List zRow := [(36, .iload_n 2, 1, (0, 0, 0))]
theorem K43_1 : zRk 43 B43_1 = true := zRw_ok (by decide +kernel)
noncomputable def B43_2 : List zRow := [(30, .aload_n 0, 1, (0, 0, 0)), (31, .iconst 3, 1, (0, 0, 0))]
theorem K43_2 : zRk 43 B43_2 = true := zRw_ok (by decide +kernel)
noncomputable def B43_3 : List zRow := [(35, .pop, 1, (0, 0, 0)), (36, .iload_n 2, 1, (0, 0, 0))]
theorem K43_3 : zRk 43 B43_3 = true := zRw_ok (by decide +kernel)
noncomputable def B43_4 : List zRow := [(24, .istore_n 2, 1, (0, 0, 0)), (25, .iload_n 2, 1, (0, 0, 0)), (26, .iconst (-1), 1, (0, 0, 0)), (27, .if_icmp .ne 9, 3, (0, 0, 0))]
theorem K43_4 : zRk 43 B43_4 = true := zRw_ok (by decide +kernel)
noncomputable def B43_5 : List zRow := [(8, .aload_n 0, 1, (0, 0, 0)), (9, .iconst 1, 1, (0, 0, 0))]
theorem K43_5 : zRk 43 B43_5 = true := zRw_ok (by decide +kernel)
noncomputable def B43_6 : List zRow := [(13, .pop, 1, (0, 0, 0)), (14, .iconst (-1), 1, (0, 0, 0))]
theorem K43_6 : zRk 43 B43_6 = true := zRw_ok (by decide +kernel)
noncomputable def B43_7 : List zRow := [(0, .aload_n 0, 1, (0, 0, 0)), (1, .getfield 70, 3, (5, 4, 0)), (4, .iconst 2, 1, (0, 0, 0)), (5, .if_icmp .eq 11, 3, (0, 0, 0))]
theorem K43_7 : zRk 43 B43_7 = true := zRw_ok (by decide +kernel)
/-- EchoVale$Reader.personHere(LEchoVale$Valley;)I -/
def F43 (v1 : Int) (h : zHC) : Option (Int × zHC) := if (h 324 0 0) = 2 then (F38 v1 (h 327 0 0) h).bind fun r1 => if ¬ r1 = (-1) then some (r1, h) else (F31 3 h).bind fun r2 => some (r1, r2.2) else (F31 1 h).bind fun r3 => some ((-1), r3.2)
set_option maxRecDepth 100000 in
theorem S43 {spec : zRn zH2} {hm : zHM} {o : Int → Int} {d : Nat} (hd : 2 ≤ d) (v1 : Int) (h : zHC) (v : (Int × zHC)) (e : F43 v1 h = some v) : zRu2 spec d 43 [(15, 0), (19, v1)] (h, hm, o) (some (0, v.1)) (v.2, hm, o) := by
  refine zF_in (D := 1) (mx := 3) (L := [some (15, 0), some (19, v1), none]) (by decide +kernel) rfl rfl hd (fun d hd => ?_)
  unfold F43 at e
  rcases zI_s e with ⟨q1, e⟩ | ⟨q1, e⟩
  · refine zF_blk (m := []) (d := 1) (b := B43_7) (gs := [(h 324 0 0) = 2]) (c' := (16, [some (15, 0), some (19, v1), none], [], (h, hm, o))) K43_7 rfl ⟨q1, trivial⟩ ?_
    obtain ⟨r1, q2, e⟩ := zB_s e
    refine zF_blk (m := []) (d := 0) (b := B43_0) (gs := []) (c' := (21, [some (15, 0), some (19, v1), none], [(1, (h 327 0 0)), (19, v1)], (h, hm, o))) K43_0 rfl trivial ?_
    refine zF_call (k := 38) (cl := 9) (n := 2) (i := .invokevirtual 102) (args := [(19, v1), (1, (h 327 0 0))]) (rest := []) (g1 := (h, hm, o)) (r1 := some (0, r1)) (zCk1_w (by decide +kernel)) rfl rfl rfl (st' := [(0, r1)]) rfl (S38 (Nat.le_trans (by decide) hd) v1 (h 327 0 0) h _ q2) ?_
    rcases zI_s e with ⟨q3, e⟩ | ⟨q3, e⟩
    · refine zF_blk (m := []) (d := 1) (b := B43_4) (gs := [¬ r1 = (-1)]) (c' := (36, [some (15, 0), some (19, v1), some (0, r1)], [], (h, hm, o))) K43_4 rfl ⟨q3, trivial⟩ ?_
      refine zF_blk (m := []) (d := 0) (b := B43_1) (gs := []) (c' := (37, [some (15, 0), some (19, v1), some (0, r1)], [(0, r1)], (h, hm, o))) K43_1 rfl trivial ?_
      exact zF_riC (zRe1_w (by decide +kernel)) e
    · refine zF_blk (m := []) (d := 0) (b := B43_4) (gs := [¬ (¬ r1 = (-1))]) (c' := (30, [some (15, 0), some (19, v1), some (0, r1)], [], (h, hm, o))) K43_4 rfl ⟨q3, trivial⟩ ?_
      obtain ⟨r2, q4, e⟩ := zB_s e
      refine zF_blk (m := []) (d := 0) (b := B43_2) (gs := []) (c' := (32, [some (15, 0), some (19, v1), some (0, r1)], [(0, 3), (15, 0)], (h, hm, o))) K43_2 rfl trivial ?_
      refine zF_call (k := 31) (cl := 5) (n := 2) (i := .invokevirtual 96) (args := [(15, 0), (0, 3)]) (rest := []) (g1 := (r2.2, hm, o)) (r1 := some (0, r2.1)) (zCk1_w (by decide +kernel)) rfl rfl rfl (st' := [(0, r2.1)]) rfl (S31 (Nat.le_trans (by decide) hd) 3 h _ q4) ?_
      refine zF_blk (m := []) (d := 0) (b := B43_3) (gs := []) (c' := (37, [some (15, 0), some (19, v1), some (0, r1)], [(0, r1)], (r2.2, hm, o))) K43_3 rfl trivial ?_
      exact zF_riC (zRe1_w (by decide +kernel)) e
  · refine zF_blk (m := []) (d := 0) (b := B43_7) (gs := [¬ ((h 324 0 0) = 2)]) (c' := (8, [some (15, 0), some (19, v1), none], [], (h, hm, o))) K43_7 rfl ⟨q1, trivial⟩ ?_
    obtain ⟨r3, q5, e⟩ := zB_s e
    refine zF_blk (m := []) (d := 0) (b := B43_5) (gs := []) (c' := (10, [some (15, 0), some (19, v1), none], [(0, 1), (15, 0)], (h, hm, o))) K43_5 rfl trivial ?_
    refine zF_call (k := 31) (cl := 5) (n := 2) (i := .invokevirtual 96) (args := [(15, 0), (0, 1)]) (rest := []) (g1 := (r3.2, hm, o)) (r1 := some (0, r3.1)) (zCk1_w (by decide +kernel)) rfl rfl rfl (st' := [(0, r3.1)]) rfl (S31 (Nat.le_trans (by decide) hd) 1 h _ q5) ?_
    refine zF_blk (m := []) (d := 0) (b := B43_6) (gs := []) (c' := (15, [some (15, 0), some (19, v1), none], [(0, (-1))], (r3.2, hm, o))) K43_6 rfl trivial ?_
    exact zF_riC (zRe1_w (by decide +kernel)) e
noncomputable def B44_0 : List zRow := [(0, .iconst 0, 1, (0, 0, 0)), (1, .istore_n 3, 1, (0, 0, 0))]
theorem K44_0 : zRk 44 B44_0 = true := zRw_ok (by decide +kernel)
noncomputable def B44_1 : List zRow := [(38, .iconst 0, 1, (0, 0, 0))]
theorem K44_1 : zRk 44 B44_1 = true := zRw_ok (by decide +kernel)
noncomputable def B44_2 : List zRow := [(30, .iconst 1, 1, (0, 0, 0))]
theorem K44_2 : zRk 44 B44_2 = true := zRw_ok (by decide +kernel)
noncomputable def B44_3 : List zRow := [(20, .aload_n 0, 1, (0, 0, 0)), (21, .getfield 34, 3, (9, 14, 5242962)), (24, .iload_n 3, 1, (0, 0, 0)), (25, .iaload, 1, (0, 0, 0)), (26, .iload_n 2, 1, (0, 0, 0)), (27, .if_icmp .ne 5, 3, (0, 0, 0))]
theorem K44_3 : zRk 44 B44_3 = true := zRw_ok (by decide +kernel)
noncomputable def B44_4 : List zRow := [(10, .aload_n 0, 1, (0, 0, 0)), (11, .getfield 37, 3, (9, 15, 5242962)), (14, .iload_n 3, 1, (0, 0, 0)), (15, .iaload, 1, (0, 0, 0)), (16, .iload_n 1, 1, (0, 0, 0)), (17, .if_icmp .ne 15, 3, (0, 0, 0))]
theorem K44_4 : zRk 44 B44_4 = true := zRw_ok (by decide +kernel)
noncomputable def B44_5 : List zRow := [(2, .iload_n 3, 1, (0, 0, 0)), (3, .aload_n 0, 1, (0, 0, 0)), (4, .getfield 65, 3, (9, 4, 0)), (7, .if_icmp .ge 31, 3, (0, 0, 0))]
theorem K44_5 : zRk 44 B44_5 = true := zRw_ok (by decide +kernel)
noncomputable def B44_6 : List zRow := [(32, .iinc 3 1, 3, (0, 0, 0)), (35, .goto (-33), 3, (0, 0, 0))]
theorem K44_6 : zRk 44 B44_6 = true := zRw_ok (by decide +kernel)
def F44_1 (k0 : Int → Int → Int → Int → Option Int) (h : zHC) (v0 : Int) (v1 : Int) (v2 : Int) (v3 : Int) : Option Int := k0 v0 v1 v2 (wadd v3 1)
set_option maxRecDepth 100000 in
theorem T44_1 {spec : zRn zH2} {hm : zHM} {o : Int → Int} {d : Nat} (hd : 0 ≤ d) (h : zHC) (k0 : Int → Int → Int → Int → Option Int) (hk0 : ∀ (v0 : Int) (v1 : Int) (v2 : Int) (v3 : Int) (v : Int), k0 v0 v1 v2 v3 = some v → zFin 0 (fun _ => 0) (zRu2 spec d) 44 (some (0, v)) (h, hm, o) (2, [some (19, v0), some (0, v1), some (0, v2), some (0, v3)], [], (h, hm, o))) (v0 : Int) (v1 : Int) (v2 : Int) (v3 : Int) (v : Int) (e : F44_1 k0 h v0 v1 v2 v3 = some v) : zFin 0 (fun _ => 0) (zRu2 spec d) 44 (some (0, v)) (h, hm, o) (32, [some (19, v0), some (0, v1), some (0, v2), some (0, v3)], [], (h, hm, o)) := by
  unfold F44_1 at e
  refine zF_blk (m := []) (d := 0) (b := B44_6) (gs := []) (c' := (2, [some (19, v0), some (0, v1), some (0, v2), some (0, (wadd v3 1))], [], (h, hm, o))) K44_6 rfl trivial ?_
  exact hk0 v0 v1 v2 (wadd v3 1) _ e
def F44_0 (h : zHC) : Nat → Int → Int → Int → Int → Option Int
  | 0, _, _, _, _ => none
  | n + 1, v0, v1, v2, v3 => if (h 580 v0 0) ≤ v3 then some 0 else zG (0 ≤ v3 ∧ v3 < 20) (if ¬ (h 591 v0 v3) = v1 then F44_1 (F44_0 h n) h v0 v1 v2 v3 else zG (0 ≤ v3 ∧ v3 < 20) (if ¬ (h 590 v0 v3) = v2 then F44_1 (F44_0 h n) h v0 v1 v2 v3 else some 1))
set_option maxRecDepth 100000 in
theorem T44_0 {spec : zRn zH2} {hm : zHM} {o : Int → Int} {d : Nat} (hd : 0 ≤ d) (h : zHC) : ∀ (n : Nat) (v0 : Int) (v1 : Int) (v2 : Int) (v3 : Int) (v : Int), F44_0 h n v0 v1 v2 v3 = some v → zFin 0 (fun _ => 0) (zRu2 spec d) 44 (some (0, v)) (h, hm, o) (2, [some (19, v0), some (0, v1), some (0, v2), some (0, v3)], [], (h, hm, o)) := by
  intro n
  induction n with
  | zero => intro v0 v1 v2 v3 v e; unfold F44_0 at e; cases e
  | succ n hk0 =>
    intro v0 v1 v2 v3 v e
    unfold F44_0 at e
    rcases zI_s e with ⟨q1, e⟩ | ⟨q1, e⟩
    · refine zF_blk (m := []) (d := 1) (b := B44_5) (gs := [(h 580 v0 0) ≤ v3]) (c' := (38, [some (19, v0), some (0, v1), some (0, v2), some (0, v3)], [], (h, hm, o))) K44_5 rfl ⟨q1, trivial⟩ ?_
      refine zF_blk (m := []) (d := 0) (b := B44_1) (gs := []) (c' := (39, [some (19, v0), some (0, v1), some (0, v2), some (0, v3)], [(0, 0)], (h, hm, o))) K44_1 rfl trivial ?_
      obtain rfl := Option.some.inj e
      exact zF_rb (zRe1_w (by decide +kernel)) (Or.inl rfl)
    · refine zF_blk (m := []) (d := 0) (b := B44_5) (gs := [¬ ((h 580 v0 0) ≤ v3)]) (c' := (10, [some (19, v0), some (0, v1), some (0, v2), some (0, v3)], [], (h, hm, o))) K44_5 rfl ⟨q1, trivial⟩ ?_
      obtain ⟨q2, e⟩ := zG_s e
      rcases zI_s e with ⟨q3, e⟩ | ⟨q3, e⟩
      · refine zF_blk (m := []) (d := 1) (b := B44_4) (gs := [0 ≤ v3 ∧ v3 < 20, ¬ (h 591 v0 v3) = v1]) (c' := (32, [some (19, v0), some (0, v1), some (0, v2), some (0, v3)], [], (h, hm, o))) K44_4 rfl ⟨q2, q3, trivial⟩ ?_
        exact T44_1 hd h (F44_0 h n) hk0 v0 v1 v2 v3 _ e
      · refine zF_blk (m := []) (d := 0) (b := B44_4) (gs := [0 ≤ v3 ∧ v3 < 20, ¬ (¬ (h 591 v0 v3) = v1)]) (c' := (20, [some (19, v0), some (0, v1), some (0, v2), some (0, v3)], [], (h, hm, o))) K44_4 rfl ⟨q2, q3, trivial⟩ ?_
        obtain ⟨q4, e⟩ := zG_s e
        rcases zI_s e with ⟨q5, e⟩ | ⟨q5, e⟩
        · refine zF_blk (m := []) (d := 1) (b := B44_3) (gs := [0 ≤ v3 ∧ v3 < 20, ¬ (h 590 v0 v3) = v2]) (c' := (32, [some (19, v0), some (0, v1), some (0, v2), some (0, v3)], [], (h, hm, o))) K44_3 rfl ⟨q4, q5, trivial⟩ ?_
          exact T44_1 hd h (F44_0 h n) hk0 v0 v1 v2 v3 _ e
        · refine zF_blk (m := []) (d := 0) (b := B44_3) (gs := [0 ≤ v3 ∧ v3 < 20, ¬ (¬ (h 590 v0 v3) = v2)]) (c' := (30, [some (19, v0), some (0, v1), some (0, v2), some (0, v3)], [], (h, hm, o))) K44_3 rfl ⟨q4, q5, trivial⟩ ?_
          refine zF_blk (m := []) (d := 0) (b := B44_2) (gs := []) (c' := (31, [some (19, v0), some (0, v1), some (0, v2), some (0, v3)], [(0, 1)], (h, hm, o))) K44_2 rfl trivial ?_
          obtain rfl := Option.some.inj e
          exact zF_rb (zRe1_w (by decide +kernel)) (Or.inr rfl)
/-- EchoVale$Valley.hasMove(II)Z -/
def F44 (v0 : Int) (v1 : Int) (v2 : Int) (h : zHC) : Option Int := F44_0 h zFu v0 v1 v2 0
set_option maxRecDepth 100000 in
theorem S44 {spec : zRn zH2} {hm : zHM} {o : Int → Int} {d : Nat} (hd : 1 ≤ d) (v0 : Int) (v1 : Int) (v2 : Int) (h : zHC) (v : Int) (e : F44 v0 v1 v2 h = some v) : zRu2 spec d 44 [(19, v0), (0, v1), (0, v2)] (h, hm, o) (some (0, v)) (h, hm, o) := by
  refine zF_in (D := 0) (mx := 4) (L := [some (19, v0), some (0, v1), some (0, v2), none]) (by decide +kernel) rfl rfl hd (fun d hd => ?_)
  unfold F44 at e
  refine zF_blk (m := []) (d := 0) (b := B44_0) (gs := []) (c' := (2, [some (19, v0), some (0, v1), some (0, v2), some (0, 0)], [], (h, hm, o))) K44_0 rfl trivial ?_
  exact T44_0 hd h zFu v0 v1 v2 0 _ e
noncomputable def B42_0 : List zRow := [(23, .aload_n 0, 1, (0, 0, 0)), (24, .getfield 18, 3, (10, 2, 23))]
theorem K42_0 : zRk 42 B42_0 = true := zRw_ok (by decide +kernel)
noncomputable def B42_1 : List zRow := [(30, .aload_n 0, 1, (0, 0, 0)), (31, .getfield 18, 3, (10, 2, 23)), (34, .aload_n 0, 1, (0, 0, 0)), (35, .getfield 12, 3, (10, 0, 167))]
theorem K42_1 : zRk 42 B42_1 = true := zRw_ok (by decide +kernel)
noncomputable def B42_2 : List zRow := [(49, .aload_n 0, 1, (0, 0, 0)), (50, .getfield 18, 3, (10, 2, 23))]
theorem K42_2 : zRk 42 B42_2 = true := zRw_ok (by decide +kernel)
noncomputable def B42_3 : List zRow := [(56, .aload_n 0, 1, (0, 0, 0)), (57, .getfield 18, 3, (10, 2, 23)), (60, .iconst 1, 1, (0, 0, 0)), (61, .sipush 200, 3, (0, 0, 0))]
theorem K42_3 : zRk 42 B42_3 = true := zRw_ok (by decide +kernel)
noncomputable def B42_4 : List zRow := [(72, .aload_n 0, 1, (0, 0, 0)), (73, .getfield 18, 3, (10, 2, 23)), (76, .getfield 52, 3, (5, 6, 0)), (79, .istore_n 3, 1, (0, 0, 0)), (80, .aload_n 0, 1, (0, 0, 0)), (81, .getfield 12, 3, (10, 0, 167)), (84, .iload_n 2, 1, (0, 0, 0)), (85, .iload_n 3, 1, (0, 0, 0))]
theorem K42_4 : zRk 42 B42_4 = true := zRw_ok (by decide +kernel)
noncomputable def B42_5 : List zRow := [(101, .aload_n 0, 1, (0, 0, 0)), (102, .getfield 18, 3, (10, 2, 23))]
theorem K42_5 : zRk 42 B42_5 = true := zRw_ok (by decide +kernel)
noncomputable def B42_6 : List zRow := [(108, .aload_n 0, 1, (0, 0, 0))]
theorem K42_6 : zRk 42 B42_6 = true := zRw_ok (by decide +kernel)
noncomputable def B42_7 : List zRow := [(122, .aload_n 0, 1, (0, 0, 0)), (123, .getfield 12, 3, (10, 0, 167)), (126, .getfield 142, 3, (9, 15, 5242962)), (129, .iload_n 1, 1, (0, 0, 0)), (130, .iload_n 2, 1, (0, 0, 0)), (131, .iastore, 1, (0, 0, 0)), (132, .aload_n 0, 1, (0, 0, 0)), (133, .getfield 12, 3, (10, 0, 167)), (136, .getfield 145, 3, (9, 14, 5242962)), (139, .iload_n 1, 1, (0, 0, 0)), (140, .iload_n 3, 1, (0, 0, 0)), (141, .iastore, 1, (0, 0, 0)), (142, .aload_n 0, 1, (0, 0, 0)), (143, .getfield 12, 3, (10, 0, 167)), (146, .getfield 148, 3, (9, 16, 5242962)), (149, .iload_n 1, 1, (0, 0, 0)), (150, .iload 4, 2, (0, 0, 0)), (152, .iastore, 1, (0, 0, 0)), (153, .aload_n 0, 1, (0, 0, 0)), (154, .getfield 12, 3, (10, 0, 167)), (157, .iload_n 1, 1, (0, 0, 0)), (158, .iconst 1, 1, (0, 0, 0)), (159, .iadd, 1, (0, 0, 0)), (160, .putfield 132, 3, (9, 4, 0)), (163, .aload_n 0, 1, (0, 0, 0)), (164, .getfield 18, 3, (10, 2, 23))]
theorem K42_7 : zRk 42 B42_7 = true := zRw_ok (by decide +kernel)
noncomputable def B42_8 : List zRow := [(170, .iconst 1, 1, (0, 0, 0))]
theorem K42_8 : zRk 42 B42_8 = true := zRw_ok (by decide +kernel)
noncomputable def B42_9 : List zRow := [(120, .iconst 0, 1, (0, 0, 0))]
theorem K42_9 : zRk 42 B42_9 = true := zRw_ok (by decide +kernel)
noncomputable def B42_10 : List zRow := [(112, .istore 4, 2, (0, 0, 0)), (114, .iload 4, 2, (0, 0, 0)), (116, .iconst (-1), 1, (0, 0, 0)), (117, .if_icmp .ne 5, 3, (0, 0, 0))]
theorem K42_10 : zRk 42 B42_10 = true := zRw_ok (by decide +kernel)
noncomputable def B42_11 : List zRow := [(92, .aload_n 0, 1, (0, 0, 0)), (93, .getfield 18, 3, (10, 2, 23)), (96, .iconst 3, 1, (0, 0, 0))]
theorem K42_11 : zRk 42 B42_11 = true := zRw_ok (by decide +kernel)
noncomputable def B42_12 : List zRow := [(89, .ifCond .eq 12, 3, (0, 0, 0))]
theorem K42_12 : zRk 42 B42_12 = true := zRw_ok (by decide +kernel)
noncomputable def B42_13 : List zRow := [(70, .iconst 0, 1, (0, 0, 0))]
theorem K42_13 : zRk 42 B42_13 = true := zRw_ok (by decide +kernel)
noncomputable def B42_14 : List zRow := [(67, .ifCond .ne 5, 3, (0, 0, 0))]
theorem K42_14 : zRk 42 B42_14 = true := zRw_ok (by decide +kernel)
noncomputable def B42_15 : List zRow := [(47, .iconst 0, 1, (0, 0, 0))]
theorem K42_15 : zRk 42 B42_15 = true := zRw_ok (by decide +kernel)
noncomputable def B42_16 : List zRow := [(41, .istore_n 2, 1, (0, 0, 0)), (42, .iload_n 2, 1, (0, 0, 0)), (43, .iconst (-1), 1, (0, 0, 0)), (44, .if_icmp .ne 5, 3, (0, 0, 0))]
theorem K42_16 : zRk 42 B42_16 = true := zRw_ok (by decide +kernel)
noncomputable def B42_17 : List zRow := [(14, .aload_n 0, 1, (0, 0, 0)), (15, .getfield 18, 3, (10, 2, 23)), (18, .iconst 4, 1, (0, 0, 0))]
theorem K42_17 : zRk 42 B42_17 = true := zRw_ok (by decide +kernel)
noncomputable def B42_18 : List zRow := [(0, .aload_n 0, 1, (0, 0, 0)), (1, .getfield 12, 3, (10, 0, 167)), (4, .getfield 132, 3, (9, 4, 0)), (7, .istore_n 1, 1, (0, 0, 0)), (8, .iload_n 1, 1, (0, 0, 0)), (9, .bipush 20, 2, (0, 0, 0)), (11, .if_icmp .lt 12, 3, (0, 0, 0))]
theorem K42_18 : zRk 42 B42_18 = true := zRw_ok (by decide +kernel)
/-- EchoVale$ValleyText.readMove()Z -/
def F42 (h : zHC) : Option (Int × zHC) := if (h 580 1 0) < 20 then (F21 h).bind fun r1 => (F43 1 r1).bind fun r2 => if ¬ r2.1 = (-1) then (F21 r2.2).bind fun r3 => (F33 1 200 r3).bind fun r4 => if ¬ r4.1 = 0 then (F44 1 r2.1 (r4.2 326 0 0) r4.2).bind fun r5 => if r5 = 0 then (F21 r4.2).bind fun r6 => (F39 r6).bind fun r7 => if ¬ r7.1 = (-1) then zG (0 ≤ (h 580 1 0) ∧ (h 580 1 0) < 20) (zG (0 ≤ (h 580 1 0) ∧ (h 580 1 0) < 20) (zG (0 ≤ (h 580 1 0) ∧ (h 580 1 0) < 20) ((F21 (hset (hset (hset (hset r7.2 591 1 (h 580 1 0) r2.1) 590 1 (h 580 1 0) (r4.2 326 0 0)) 592 1 (h 580 1 0) r7.1) 580 1 0 (wadd (h 580 1 0) 1))).bind fun r8 => some (1, r8)))) else some (0, r7.2) else (F31 3 r4.2).bind fun r9 => zG (r9.1 = 0 ∨ r9.1 = 1) (some (r9.1, r9.2)) else some (0, r4.2) else some (0, r2.2) else (F31 4 h).bind fun r10 => zG (r10.1 = 0 ∨ r10.1 = 1) (some (r10.1, r10.2))
set_option maxRecDepth 100000 in
theorem S42 {spec : zRn zH2} {hm : zHM} {o : Int → Int} {d : Nat} (hd : 5 ≤ d) (h : zHC) (v : (Int × zHC)) (e : F42 h = some v) : zRu2 spec d 42 [(20, 0)] (h, hm, o) (some (0, v.1)) (v.2, hm, o) := by
  refine zF_in (D := 4) (mx := 5) (L := [some (20, 0), none, none, none, none]) (by decide +kernel) rfl rfl hd (fun d hd => ?_)
  unfold F42 at e
  rcases zI_s e with ⟨q1, e⟩ | ⟨q1, e⟩
  · refine zF_blk (m := []) (d := 1) (b := B42_18) (gs := [(h 580 1 0) < 20]) (c' := (23, [some (20, 0), some (0, (h 580 1 0)), none, none, none], [], (h, hm, o))) K42_18 rfl ⟨q1, trivial⟩ ?_
    obtain ⟨r1, q2, e⟩ := zB_s e
    refine zF_blk (m := []) (d := 0) (b := B42_0) (gs := []) (c' := (27, [some (20, 0), some (0, (h 580 1 0)), none, none, none], [(15, 0)], (h, hm, o))) K42_0 rfl trivial ?_
    refine zF_call (k := 21) (cl := 5) (n := 1) (i := .invokevirtual 79) (args := [(15, 0)]) (rest := []) (g1 := (r1, hm, o)) (r1 := none) (zCk1_w (by decide +kernel)) rfl rfl rfl (st' := []) rfl (S21 (Nat.le_trans (by decide) hd)  h _ q2) ?_
    obtain ⟨r2, q3, e⟩ := zB_s e
    refine zF_blk (m := []) (d := 0) (b := B42_1) (gs := []) (c' := (38, [some (20, 0), some (0, (h 580 1 0)), none, none, none], [(19, 1), (15, 0)], (r1, hm, o))) K42_1 rfl trivial ?_
    refine zF_call (k := 43) (cl := 5) (n := 2) (i := .invokevirtual 135) (args := [(15, 0), (19, 1)]) (rest := []) (g1 := (r2.2, hm, o)) (r1 := some (0, r2.1)) (zCk1_w (by decide +kernel)) rfl rfl rfl (st' := [(0, r2.1)]) rfl (S43 (Nat.le_trans (by decide) hd) 1 r1 _ q3) ?_
    rcases zI_s e with ⟨q4, e⟩ | ⟨q4, e⟩
    · refine zF_blk (m := []) (d := 1) (b := B42_16) (gs := [¬ r2.1 = (-1)]) (c' := (49, [some (20, 0), some (0, (h 580 1 0)), some (0, r2.1), none, none], [], (r2.2, hm, o))) K42_16 rfl ⟨q4, trivial⟩ ?_
      obtain ⟨r3, q5, e⟩ := zB_s e
      refine zF_blk (m := []) (d := 0) (b := B42_2) (gs := []) (c' := (53, [some (20, 0), some (0, (h 580 1 0)), some (0, r2.1), none, none], [(15, 0)], (r2.2, hm, o))) K42_2 rfl trivial ?_
      refine zF_call (k := 21) (cl := 5) (n := 1) (i := .invokevirtual 79) (args := [(15, 0)]) (rest := []) (g1 := (r3, hm, o)) (r1 := none) (zCk1_w (by decide +kernel)) rfl rfl rfl (st' := []) rfl (S21 (Nat.le_trans (by decide) hd)  r2.2 _ q5) ?_
      obtain ⟨r4, q6, e⟩ := zB_s e
      refine zF_blk (m := []) (d := 0) (b := B42_3) (gs := []) (c' := (64, [some (20, 0), some (0, (h 580 1 0)), some (0, r2.1), none, none], [(0, 200), (0, 1), (15, 0)], (r3, hm, o))) K42_3 rfl trivial ?_
      refine zF_call (k := 33) (cl := 5) (n := 3) (i := .invokevirtual 82) (args := [(15, 0), (0, 1), (0, 200)]) (rest := []) (g1 := (r4.2, hm, o)) (r1 := some (0, r4.1)) (zCk1_w (by decide +kernel)) rfl rfl rfl (st' := [(0, r4.1)]) rfl (S33 (Nat.le_trans (by decide) hd) 1 200 r3 _ q6) ?_
      rcases zI_s e with ⟨q7, e⟩ | ⟨q7, e⟩
      · refine zF_blk (m := []) (d := 1) (b := B42_14) (gs := [¬ r4.1 = 0]) (c' := (72, [some (20, 0), some (0, (h 580 1 0)), some (0, r2.1), none, none], [], (r4.2, hm, o))) K42_14 rfl ⟨q7, trivial⟩ ?_
        obtain ⟨r5, q8, e⟩ := zB_s e
        refine zF_blk (m := []) (d := 0) (b := B42_4) (gs := []) (c' := (86, [some (20, 0), some (0, (h 580 1 0)), some (0, r2.1), some (0, (r4.2 326 0 0)), none], [(0, (r4.2 326 0 0)), (0, r2.1), (19, 1)], (r4.2, hm, o))) K42_4 rfl trivial ?_
        refine zF_call (k := 44) (cl := 9) (n := 3) (i := .invokevirtual 139) (args := [(19, 1), (0, r2.1), (0, (r4.2 326 0 0))]) (rest := []) (g1 := (r4.2, hm, o)) (r1 := some (0, r5)) (zCk1_w (by decide +kernel)) rfl rfl rfl (st' := [(0, r5)]) rfl (S44 (Nat.le_trans (by decide) hd) 1 r2.1 (r4.2 326 0 0) r4.2 _ q8) ?_
        rcases zI_s e with ⟨q9, e⟩ | ⟨q9, e⟩
        · refine zF_blk (m := []) (d := 1) (b := B42_12) (gs := [r5 = 0]) (c' := (101, [some (20, 0), some (0, (h 580 1 0)), some (0, r2.1), some (0, (r4.2 326 0 0)), none], [], (r4.2, hm, o))) K42_12 rfl ⟨q9, trivial⟩ ?_
          obtain ⟨r6, q10, e⟩ := zB_s e
          refine zF_blk (m := []) (d := 0) (b := B42_5) (gs := []) (c' := (105, [some (20, 0), some (0, (h 580 1 0)), some (0, r2.1), some (0, (r4.2 326 0 0)), none], [(15, 0)], (r4.2, hm, o))) K42_5 rfl trivial ?_
          refine zF_call (k := 21) (cl := 5) (n := 1) (i := .invokevirtual 79) (args := [(15, 0)]) (rest := []) (g1 := (r6, hm, o)) (r1 := none) (zCk1_w (by decide +kernel)) rfl rfl rfl (st' := []) rfl (S21 (Nat.le_trans (by decide) hd)  r4.2 _ q10) ?_
          obtain ⟨r7, q11, e⟩ := zB_s e
          refine zF_blk (m := []) (d := 0) (b := B42_6) (gs := []) (c' := (109, [some (20, 0), some (0, (h 580 1 0)), some (0, r2.1), some (0, (r4.2 326 0 0)), none], [(20, 0)], (r6, hm, o))) K42_6 rfl trivial ?_
          refine zF_call (k := 39) (cl := 10) (n := 1) (i := .invokevirtual 99) (args := [(20, 0)]) (rest := []) (g1 := (r7.2, hm, o)) (r1 := some (0, r7.1)) (zCk1_w (by decide +kernel)) rfl rfl rfl (st' := [(0, r7.1)]) rfl (S39 (Nat.le_trans (by decide) hd)  r6 _ q11) ?_
          rcases zI_s e with ⟨q12, e⟩ | ⟨q12, e⟩
          · refine zF_blk (m := []) (d := 1) (b := B42_10) (gs := [¬ r7.1 = (-1)]) (c' := (122, [some (20, 0), some (0, (h 580 1 0)), some (0, r2.1), some (0, (r4.2 326 0 0)), some (0, r7.1)], [], (r7.2, hm, o))) K42_10 rfl ⟨q12, trivial⟩ ?_
            obtain ⟨q13, e⟩ := zG_s e
            obtain ⟨q13, e⟩ := zG_s e
            obtain ⟨q13, e⟩ := zG_s e
            obtain ⟨r8, q14, e⟩ := zB_s e
            refine zF_blk (m := []) (d := 0) (b := B42_7) (gs := [0 ≤ (h 580 1 0) ∧ (h 580 1 0) < 20, 0 ≤ (h 580 1 0) ∧ (h 580 1 0) < 20, 0 ≤ (h 580 1 0) ∧ (h 580 1 0) < 20]) (c' := (167, [some (20, 0), some (0, (h 580 1 0)), some (0, r2.1), some (0, (r4.2 326 0 0)), some (0, r7.1)], [(15, 0)], ((hset (hset (hset (hset r7.2 591 1 (h 580 1 0) r2.1) 590 1 (h 580 1 0) (r4.2 326 0 0)) 592 1 (h 580 1 0) r7.1) 580 1 0 (wadd (h 580 1 0) 1)), hm, o))) K42_7 rfl ⟨q13, q13, q13, trivial⟩ ?_
            refine zF_call (k := 21) (cl := 5) (n := 1) (i := .invokevirtual 79) (args := [(15, 0)]) (rest := []) (g1 := (r8, hm, o)) (r1 := none) (zCk1_w (by decide +kernel)) rfl rfl rfl (st' := []) rfl (S21 (Nat.le_trans (by decide) hd)  (hset (hset (hset (hset r7.2 591 1 (h 580 1 0) r2.1) 590 1 (h 580 1 0) (r4.2 326 0 0)) 592 1 (h 580 1 0) r7.1) 580 1 0 (wadd (h 580 1 0) 1)) _ q14) ?_
            refine zF_blk (m := []) (d := 0) (b := B42_8) (gs := []) (c' := (171, [some (20, 0), some (0, (h 580 1 0)), some (0, r2.1), some (0, (r4.2 326 0 0)), some (0, r7.1)], [(0, 1)], (r8, hm, o))) K42_8 rfl trivial ?_
            exact zF_rbC (zRe1_w (by decide +kernel)) (Or.inr rfl) e
          · refine zF_blk (m := []) (d := 0) (b := B42_10) (gs := [¬ (¬ r7.1 = (-1))]) (c' := (120, [some (20, 0), some (0, (h 580 1 0)), some (0, r2.1), some (0, (r4.2 326 0 0)), some (0, r7.1)], [], (r7.2, hm, o))) K42_10 rfl ⟨q12, trivial⟩ ?_
            refine zF_blk (m := []) (d := 0) (b := B42_9) (gs := []) (c' := (121, [some (20, 0), some (0, (h 580 1 0)), some (0, r2.1), some (0, (r4.2 326 0 0)), some (0, r7.1)], [(0, 0)], (r7.2, hm, o))) K42_9 rfl trivial ?_
            exact zF_rbC (zRe1_w (by decide +kernel)) (Or.inl rfl) e
        · refine zF_blk (m := []) (d := 0) (b := B42_12) (gs := [¬ (r5 = 0)]) (c' := (92, [some (20, 0), some (0, (h 580 1 0)), some (0, r2.1), some (0, (r4.2 326 0 0)), none], [], (r4.2, hm, o))) K42_12 rfl ⟨q9, trivial⟩ ?_
          obtain ⟨r9, q15, e⟩ := zB_s e
          refine zF_blk (m := []) (d := 0) (b := B42_11) (gs := []) (c' := (97, [some (20, 0), some (0, (h 580 1 0)), some (0, r2.1), some (0, (r4.2 326 0 0)), none], [(0, 3), (15, 0)], (r4.2, hm, o))) K42_11 rfl trivial ?_
          refine zF_call (k := 31) (cl := 5) (n := 2) (i := .invokevirtual 49) (args := [(15, 0), (0, 3)]) (rest := []) (g1 := (r9.2, hm, o)) (r1 := some (0, r9.1)) (zCk1_w (by decide +kernel)) rfl rfl rfl (st' := [(0, r9.1)]) rfl (S31 (Nat.le_trans (by decide) hd) 3 r4.2 _ q15) ?_
          obtain ⟨q16, e⟩ := zG_s e
          exact zF_rbC (zRe1_w (by decide +kernel)) q16 e
      · refine zF_blk (m := []) (d := 0) (b := B42_14) (gs := [¬ (¬ r4.1 = 0)]) (c' := (70, [some (20, 0), some (0, (h 580 1 0)), some (0, r2.1), none, none], [], (r4.2, hm, o))) K42_14 rfl ⟨q7, trivial⟩ ?_
        refine zF_blk (m := []) (d := 0) (b := B42_13) (gs := []) (c' := (71, [some (20, 0), some (0, (h 580 1 0)), some (0, r2.1), none, none], [(0, 0)], (r4.2, hm, o))) K42_13 rfl trivial ?_
        exact zF_rbC (zRe1_w (by decide +kernel)) (Or.inl rfl) e
    · refine zF_blk (m := []) (d := 0) (b := B42_16) (gs := [¬ (¬ r2.1 = (-1))]) (c' := (47, [some (20, 0), some (0, (h 580 1 0)), some (0, r2.1), none, none], [], (r2.2, hm, o))) K42_16 rfl ⟨q4, trivial⟩ ?_
      refine zF_blk (m := []) (d := 0) (b := B42_15) (gs := []) (c' := (48, [some (20, 0), some (0, (h 580 1 0)), some (0, r2.1), none, none], [(0, 0)], (r2.2, hm, o))) K42_15 rfl trivial ?_
      exact zF_rbC (zRe1_w (by decide +kernel)) (Or.inl rfl) e
  · refine zF_blk (m := []) (d := 0) (b := B42_18) (gs := [¬ ((h 580 1 0) < 20)]) (c' := (14, [some (20, 0), some (0, (h 580 1 0)), none, none, none], [], (h, hm, o))) K42_18 rfl ⟨q1, trivial⟩ ?_
    obtain ⟨r10, q17, e⟩ := zB_s e
    refine zF_blk (m := []) (d := 0) (b := B42_17) (gs := []) (c' := (19, [some (20, 0), some (0, (h 580 1 0)), none, none, none], [(0, 4), (15, 0)], (h, hm, o))) K42_17 rfl trivial ?_
    refine zF_call (k := 31) (cl := 5) (n := 2) (i := .invokevirtual 49) (args := [(15, 0), (0, 4)]) (rest := []) (g1 := (r10.2, hm, o)) (r1 := some (0, r10.1)) (zCk1_w (by decide +kernel)) rfl rfl rfl (st' := [(0, r10.1)]) rfl (S31 (Nat.le_trans (by decide) hd) 4 h _ q17) ?_
    obtain ⟨q18, e⟩ := zG_s e
    exact zF_rbC (zRe1_w (by decide +kernel)) q18 e
noncomputable def B45_0 : List zRow := [(0, .aload_n 0, 1, (0, 0, 0)), (1, .getfield 18, 3, (10, 2, 23))]
theorem K45_0 : zRk 45 B45_0 = true := zRw_ok (by decide +kernel)
noncomputable def B45_1 : List zRow := [(7, .aload_n 0, 1, (0, 0, 0)), (8, .getfield 18, 3, (10, 2, 23)), (11, .aload_n 0, 1, (0, 0, 0)), (12, .getfield 12, 3, (10, 0, 167))]
theorem K45_1 : zRk 45 B45_1 = true := zRw_ok (by decide +kernel)
noncomputable def B45_2 : List zRow := [(48, .aload_n 0, 1, (0, 0, 0)), (49, .getfield 18, 3, (10, 2, 23))]
theorem K45_2 : zRk 45 B45_2 = true := zRw_ok (by decide +kernel)
noncomputable def B45_3 : List zRow := [(55, .aload_n 0, 1, (0, 0, 0))]
theorem K45_3 : zRk 45 B45_3 = true := zRw_ok (by decide +kernel)
noncomputable def B45_4 : List zRow := [(67, .aload_n 0, 1, (0, 0, 0)), (68, .getfield 12, 3, (10, 0, 167)), (71, .getfield 129, 3, (9, 13, 5242906)), (74, .iload_n 1, 1, (0, 0, 0)), (75, .iload_n 2, 1, (0, 0, 0)), (76, .iastore, 1, (0, 0, 0)), (77, .aload_n 0, 1, (0, 0, 0)), (78, .getfield 18, 3, (10, 2, 23))]
theorem K45_4 : zRk 45 B45_4 = true := zRw_ok (by decide +kernel)
noncomputable def B45_5 : List zRow := [(84, .iconst 1, 1, (0, 0, 0))]
theorem K45_5 : zRk 45 B45_5 = true := zRw_ok (by decide +kernel)
noncomputable def B45_6 : List zRow := [(65, .iconst 0, 1, (0, 0, 0))]
theorem K45_6 : zRk 45 B45_6 = true := zRw_ok (by decide +kernel)
noncomputable def B45_7 : List zRow := [(59, .istore_n 2, 1, (0, 0, 0)), (60, .iload_n 2, 1, (0, 0, 0)), (61, .iconst (-1), 1, (0, 0, 0)), (62, .if_icmp .ne 5, 3, (0, 0, 0))]
theorem K45_7 : zRk 45 B45_7 = true := zRw_ok (by decide +kernel)
noncomputable def B45_8 : List zRow := [(39, .aload_n 0, 1, (0, 0, 0)), (40, .getfield 18, 3, (10, 2, 23)), (43, .iconst 3, 1, (0, 0, 0))]
theorem K45_8 : zRk 45 B45_8 = true := zRw_ok (by decide +kernel)
noncomputable def B45_9 : List zRow := [(26, .aload_n 0, 1, (0, 0, 0)), (27, .getfield 12, 3, (10, 0, 167)), (30, .getfield 129, 3, (9, 13, 5242906)), (33, .iload_n 1, 1, (0, 0, 0)), (34, .iaload, 1, (0, 0, 0)), (35, .iconst (-1), 1, (0, 0, 0)), (36, .if_icmp .eq 12, 3, (0, 0, 0))]
theorem K45_9 : zRk 45 B45_9 = true := zRw_ok (by decide +kernel)
noncomputable def B45_10 : List zRow := [(24, .iconst 0, 1, (0, 0, 0))]
theorem K45_10 : zRk 45 B45_10 = true := zRw_ok (by decide +kernel)
noncomputable def B45_11 : List zRow := [(18, .istore_n 1, 1, (0, 0, 0)), (19, .iload_n 1, 1, (0, 0, 0)), (20, .iconst (-1), 1, (0, 0, 0)), (21, .if_icmp .ne 5, 3, (0, 0, 0))]
theorem K45_11 : zRk 45 B45_11 = true := zRw_ok (by decide +kernel)
/-- EchoVale$ValleyText.readCamp()Z -/
def F45 (h : zHC) : Option (Int × zHC) := (F21 h).bind fun r1 => (F43 1 r1).bind fun r2 => if ¬ r2.1 = (-1) then zG (0 ≤ r2.1 ∧ r2.1 < 6) (if (r2.2 589 1 r2.1) = (-1) then (F21 r2.2).bind fun r3 => (F39 r3).bind fun r4 => if ¬ r4.1 = (-1) then zG (0 ≤ r2.1 ∧ r2.1 < 6) ((F21 (hset r4.2 589 1 r2.1 r4.1)).bind fun r5 => some (1, r5)) else some (0, r4.2) else (F31 3 r2.2).bind fun r6 => zG (r6.1 = 0 ∨ r6.1 = 1) (some (r6.1, r6.2))) else some (0, r2.2)
set_option maxRecDepth 100000 in
theorem S45 {spec : zRn zH2} {hm : zHM} {o : Int → Int} {d : Nat} (hd : 5 ≤ d) (h : zHC) (v : (Int × zHC)) (e : F45 h = some v) : zRu2 spec d 45 [(20, 0)] (h, hm, o) (some (0, v.1)) (v.2, hm, o) := by
  refine zF_in (D := 4) (mx := 3) (L := [some (20, 0), none, none]) (by decide +kernel) rfl rfl hd (fun d hd => ?_)
  unfold F45 at e
  obtain ⟨r1, q1, e⟩ := zB_s e
  refine zF_blk (m := []) (d := 0) (b := B45_0) (gs := []) (c' := (4, [some (20, 0), none, none], [(15, 0)], (h, hm, o))) K45_0 rfl trivial ?_
  refine zF_call (k := 21) (cl := 5) (n := 1) (i := .invokevirtual 79) (args := [(15, 0)]) (rest := []) (g1 := (r1, hm, o)) (r1 := none) (zCk1_w (by decide +kernel)) rfl rfl rfl (st' := []) rfl (S21 (Nat.le_trans (by decide) hd)  h _ q1) ?_
  obtain ⟨r2, q2, e⟩ := zB_s e
  refine zF_blk (m := []) (d := 0) (b := B45_1) (gs := []) (c' := (15, [some (20, 0), none, none], [(19, 1), (15, 0)], (r1, hm, o))) K45_1 rfl trivial ?_
  refine zF_call (k := 43) (cl := 5) (n := 2) (i := .invokevirtual 135) (args := [(15, 0), (19, 1)]) (rest := []) (g1 := (r2.2, hm, o)) (r1 := some (0, r2.1)) (zCk1_w (by decide +kernel)) rfl rfl rfl (st' := [(0, r2.1)]) rfl (S43 (Nat.le_trans (by decide) hd) 1 r1 _ q2) ?_
  rcases zI_s e with ⟨q3, e⟩ | ⟨q3, e⟩
  · refine zF_blk (m := []) (d := 1) (b := B45_11) (gs := [¬ r2.1 = (-1)]) (c' := (26, [some (20, 0), some (0, r2.1), none], [], (r2.2, hm, o))) K45_11 rfl ⟨q3, trivial⟩ ?_
    obtain ⟨q4, e⟩ := zG_s e
    rcases zI_s e with ⟨q5, e⟩ | ⟨q5, e⟩
    · refine zF_blk (m := []) (d := 1) (b := B45_9) (gs := [0 ≤ r2.1 ∧ r2.1 < 6, (r2.2 589 1 r2.1) = (-1)]) (c' := (48, [some (20, 0), some (0, r2.1), none], [], (r2.2, hm, o))) K45_9 rfl ⟨q4, q5, trivial⟩ ?_
      obtain ⟨r3, q6, e⟩ := zB_s e
      refine zF_blk (m := []) (d := 0) (b := B45_2) (gs := []) (c' := (52, [some (20, 0), some (0, r2.1), none], [(15, 0)], (r2.2, hm, o))) K45_2 rfl trivial ?_
      refine zF_call (k := 21) (cl := 5) (n := 1) (i := .invokevirtual 79) (args := [(15, 0)]) (rest := []) (g1 := (r3, hm, o)) (r1 := none) (zCk1_w (by decide +kernel)) rfl rfl rfl (st' := []) rfl (S21 (Nat.le_trans (by decide) hd)  r2.2 _ q6) ?_
      obtain ⟨r4, q7, e⟩ := zB_s e
      refine zF_blk (m := []) (d := 0) (b := B45_3) (gs := []) (c' := (56, [some (20, 0), some (0, r2.1), none], [(20, 0)], (r3, hm, o))) K45_3 rfl trivial ?_
      refine zF_call (k := 39) (cl := 10) (n := 1) (i := .invokevirtual 99) (args := [(20, 0)]) (rest := []) (g1 := (r4.2, hm, o)) (r1 := some (0, r4.1)) (zCk1_w (by decide +kernel)) rfl rfl rfl (st' := [(0, r4.1)]) rfl (S39 (Nat.le_trans (by decide) hd)  r3 _ q7) ?_
      rcases zI_s e with ⟨q8, e⟩ | ⟨q8, e⟩
      · refine zF_blk (m := []) (d := 1) (b := B45_7) (gs := [¬ r4.1 = (-1)]) (c' := (67, [some (20, 0), some (0, r2.1), some (0, r4.1)], [], (r4.2, hm, o))) K45_7 rfl ⟨q8, trivial⟩ ?_
        obtain ⟨q9, e⟩ := zG_s e
        obtain ⟨r5, q10, e⟩ := zB_s e
        refine zF_blk (m := []) (d := 0) (b := B45_4) (gs := [0 ≤ r2.1 ∧ r2.1 < 6]) (c' := (81, [some (20, 0), some (0, r2.1), some (0, r4.1)], [(15, 0)], ((hset r4.2 589 1 r2.1 r4.1), hm, o))) K45_4 rfl ⟨q9, trivial⟩ ?_
        refine zF_call (k := 21) (cl := 5) (n := 1) (i := .invokevirtual 79) (args := [(15, 0)]) (rest := []) (g1 := (r5, hm, o)) (r1 := none) (zCk1_w (by decide +kernel)) rfl rfl rfl (st' := []) rfl (S21 (Nat.le_trans (by decide) hd)  (hset r4.2 589 1 r2.1 r4.1) _ q10) ?_
        refine zF_blk (m := []) (d := 0) (b := B45_5) (gs := []) (c' := (85, [some (20, 0), some (0, r2.1), some (0, r4.1)], [(0, 1)], (r5, hm, o))) K45_5 rfl trivial ?_
        exact zF_rbC (zRe1_w (by decide +kernel)) (Or.inr rfl) e
      · refine zF_blk (m := []) (d := 0) (b := B45_7) (gs := [¬ (¬ r4.1 = (-1))]) (c' := (65, [some (20, 0), some (0, r2.1), some (0, r4.1)], [], (r4.2, hm, o))) K45_7 rfl ⟨q8, trivial⟩ ?_
        refine zF_blk (m := []) (d := 0) (b := B45_6) (gs := []) (c' := (66, [some (20, 0), some (0, r2.1), some (0, r4.1)], [(0, 0)], (r4.2, hm, o))) K45_6 rfl trivial ?_
        exact zF_rbC (zRe1_w (by decide +kernel)) (Or.inl rfl) e
    · refine zF_blk (m := []) (d := 0) (b := B45_9) (gs := [0 ≤ r2.1 ∧ r2.1 < 6, ¬ ((r2.2 589 1 r2.1) = (-1))]) (c' := (39, [some (20, 0), some (0, r2.1), none], [], (r2.2, hm, o))) K45_9 rfl ⟨q4, q5, trivial⟩ ?_
      obtain ⟨r6, q11, e⟩ := zB_s e
      refine zF_blk (m := []) (d := 0) (b := B45_8) (gs := []) (c' := (44, [some (20, 0), some (0, r2.1), none], [(0, 3), (15, 0)], (r2.2, hm, o))) K45_8 rfl trivial ?_
      refine zF_call (k := 31) (cl := 5) (n := 2) (i := .invokevirtual 49) (args := [(15, 0), (0, 3)]) (rest := []) (g1 := (r6.2, hm, o)) (r1 := some (0, r6.1)) (zCk1_w (by decide +kernel)) rfl rfl rfl (st' := [(0, r6.1)]) rfl (S31 (Nat.le_trans (by decide) hd) 3 r2.2 _ q11) ?_
      obtain ⟨q12, e⟩ := zG_s e
      exact zF_rbC (zRe1_w (by decide +kernel)) q12 e
  · refine zF_blk (m := []) (d := 0) (b := B45_11) (gs := [¬ (¬ r2.1 = (-1))]) (c' := (24, [some (20, 0), some (0, r2.1), none], [], (r2.2, hm, o))) K45_11 rfl ⟨q3, trivial⟩ ?_
    refine zF_blk (m := []) (d := 0) (b := B45_10) (gs := []) (c' := (25, [some (20, 0), some (0, r2.1), none], [(0, 0)], (r2.2, hm, o))) K45_10 rfl trivial ?_
    exact zF_rbC (zRe1_w (by decide +kernel)) (Or.inl rfl) e
noncomputable def B47_0 : List zRow := [(0, .iconst 0, 1, (0, 0, 0)), (1, .istore_n 2, 1, (0, 0, 0))]
theorem K47_0 : zRk 47 B47_0 = true := zRw_ok (by decide +kernel)
noncomputable def B47_1 : List zRow := [(28, .iconst 0, 1, (0, 0, 0))]
theorem K47_1 : zRk 47 B47_1 = true := zRw_ok (by decide +kernel)
noncomputable def B47_2 : List zRow := [(22, .iinc 2 1, 3, (0, 0, 0)), (25, .goto (-23), 3, (0, 0, 0))]
theorem K47_2 : zRk 47 B47_2 = true := zRw_ok (by decide +kernel)
noncomputable def B47_3 : List zRow := [(20, .iconst 1, 1, (0, 0, 0))]
theorem K47_3 : zRk 47 B47_3 = true := zRw_ok (by decide +kernel)
noncomputable def B47_4 : List zRow := [(10, .aload_n 0, 1, (0, 0, 0)), (11, .getfield 43, 3, (9, 17, 5242914)), (14, .iload_n 2, 1, (0, 0, 0)), (15, .iaload, 1, (0, 0, 0)), (16, .iload_n 1, 1, (0, 0, 0)), (17, .if_icmp .ne 5, 3, (0, 0, 0))]
theorem K47_4 : zRk 47 B47_4 = true := zRw_ok (by decide +kernel)
noncomputable def B47_5 : List zRow := [(2, .iload_n 2, 1, (0, 0, 0)), (3, .aload_n 0, 1, (0, 0, 0)), (4, .getfield 68, 3, (9, 5, 0)), (7, .if_icmp .ge 21, 3, (0, 0, 0))]
theorem K47_5 : zRk 47 B47_5 = true := zRw_ok (by decide +kernel)
def F47_0 (h : zHC) : Nat → Int → Int → Int → Option Int
  | 0, _, _, _ => none
  | n + 1, v0, v1, v2 => if (h 581 v0 0) ≤ v2 then some 0 else zG (0 ≤ v2 ∧ v2 < 8) (if ¬ (h 593 v0 v2) = v1 then (F47_0 h n) v0 v1 (wadd v2 1) else some 1)
set_option maxRecDepth 100000 in
theorem T47_0 {spec : zRn zH2} {hm : zHM} {o : Int → Int} {d : Nat} (hd : 0 ≤ d) (h : zHC) : ∀ (n : Nat) (v0 : Int) (v1 : Int) (v2 : Int) (v : Int), F47_0 h n v0 v1 v2 = some v → zFin 0 (fun _ => 0) (zRu2 spec d) 47 (some (0, v)) (h, hm, o) (2, [some (19, v0), some (0, v1), some (0, v2)], [], (h, hm, o)) := by
  intro n
  induction n with
  | zero => intro v0 v1 v2 v e; unfold F47_0 at e; cases e
  | succ n hk0 =>
    intro v0 v1 v2 v e
    unfold F47_0 at e
    rcases zI_s e with ⟨q1, e⟩ | ⟨q1, e⟩
    · refine zF_blk (m := []) (d := 1) (b := B47_5) (gs := [(h 581 v0 0) ≤ v2]) (c' := (28, [some (19, v0), some (0, v1), some (0, v2)], [], (h, hm, o))) K47_5 rfl ⟨q1, trivial⟩ ?_
      refine zF_blk (m := []) (d := 0) (b := B47_1) (gs := []) (c' := (29, [some (19, v0), some (0, v1), some (0, v2)], [(0, 0)], (h, hm, o))) K47_1 rfl trivial ?_
      obtain rfl := Option.some.inj e
      exact zF_rb (zRe1_w (by decide +kernel)) (Or.inl rfl)
    · refine zF_blk (m := []) (d := 0) (b := B47_5) (gs := [¬ ((h 581 v0 0) ≤ v2)]) (c' := (10, [some (19, v0), some (0, v1), some (0, v2)], [], (h, hm, o))) K47_5 rfl ⟨q1, trivial⟩ ?_
      obtain ⟨q2, e⟩ := zG_s e
      rcases zI_s e with ⟨q3, e⟩ | ⟨q3, e⟩
      · refine zF_blk (m := []) (d := 1) (b := B47_4) (gs := [0 ≤ v2 ∧ v2 < 8, ¬ (h 593 v0 v2) = v1]) (c' := (22, [some (19, v0), some (0, v1), some (0, v2)], [], (h, hm, o))) K47_4 rfl ⟨q2, q3, trivial⟩ ?_
        refine zF_blk (m := []) (d := 0) (b := B47_2) (gs := []) (c' := (2, [some (19, v0), some (0, v1), some (0, (wadd v2 1))], [], (h, hm, o))) K47_2 rfl trivial ?_
        exact hk0 v0 v1 (wadd v2 1) _ e
      · refine zF_blk (m := []) (d := 0) (b := B47_4) (gs := [0 ≤ v2 ∧ v2 < 8, ¬ (¬ (h 593 v0 v2) = v1)]) (c' := (20, [some (19, v0), some (0, v1), some (0, v2)], [], (h, hm, o))) K47_4 rfl ⟨q2, q3, trivial⟩ ?_
        refine zF_blk (m := []) (d := 0) (b := B47_3) (gs := []) (c' := (21, [some (19, v0), some (0, v1), some (0, v2)], [(0, 1)], (h, hm, o))) K47_3 rfl trivial ?_
        obtain rfl := Option.some.inj e
        exact zF_rb (zRe1_w (by decide +kernel)) (Or.inr rfl)
/-- EchoVale$Valley.hasFelt(I)Z -/
def F47 (v0 : Int) (v1 : Int) (h : zHC) : Option Int := F47_0 h zFu v0 v1 0
set_option maxRecDepth 100000 in
theorem S47 {spec : zRn zH2} {hm : zHM} {o : Int → Int} {d : Nat} (hd : 1 ≤ d) (v0 : Int) (v1 : Int) (h : zHC) (v : Int) (e : F47 v0 v1 h = some v) : zRu2 spec d 47 [(19, v0), (0, v1)] (h, hm, o) (some (0, v)) (h, hm, o) := by
  refine zF_in (D := 0) (mx := 3) (L := [some (19, v0), some (0, v1), none]) (by decide +kernel) rfl rfl hd (fun d hd => ?_)
  unfold F47 at e
  refine zF_blk (m := []) (d := 0) (b := B47_0) (gs := []) (c' := (2, [some (19, v0), some (0, v1), some (0, 0)], [], (h, hm, o))) K47_0 rfl trivial ?_
  exact T47_0 hd h zFu v0 v1 0 _ e
noncomputable def B46_0 : List zRow := [(23, .aload_n 0, 1, (0, 0, 0)), (24, .getfield 18, 3, (10, 2, 23))]
theorem K46_0 : zRk 46 B46_0 = true := zRw_ok (by decide +kernel)
noncomputable def B46_1 : List zRow := [(30, .aload_n 0, 1, (0, 0, 0))]
theorem K46_1 : zRk 46 B46_1 = true := zRw_ok (by decide +kernel)
noncomputable def B46_2 : List zRow := [(42, .aload_n 0, 1, (0, 0, 0)), (43, .getfield 12, 3, (10, 0, 167)), (46, .iload_n 2, 1, (0, 0, 0))]
theorem K46_2 : zRk 46 B46_2 = true := zRw_ok (by decide +kernel)
noncomputable def B46_3 : List zRow := [(62, .aload_n 0, 1, (0, 0, 0)), (63, .getfield 12, 3, (10, 0, 167)), (66, .getfield 157, 3, (9, 17, 5242914)), (69, .iload_n 1, 1, (0, 0, 0)), (70, .iload_n 2, 1, (0, 0, 0)), (71, .iastore, 1, (0, 0, 0)), (72, .aload_n 0, 1, (0, 0, 0)), (73, .getfield 12, 3, (10, 0, 167)), (76, .iload_n 1, 1, (0, 0, 0)), (77, .iconst 1, 1, (0, 0, 0)), (78, .iadd, 1, (0, 0, 0)), (79, .putfield 151, 3, (9, 5, 0)), (82, .aload_n 0, 1, (0, 0, 0)), (83, .getfield 18, 3, (10, 2, 23))]
theorem K46_3 : zRk 46 B46_3 = true := zRw_ok (by decide +kernel)
noncomputable def B46_4 : List zRow := [(89, .iconst 1, 1, (0, 0, 0))]
theorem K46_4 : zRk 46 B46_4 = true := zRw_ok (by decide +kernel)
noncomputable def B46_5 : List zRow := [(53, .aload_n 0, 1, (0, 0, 0)), (54, .getfield 18, 3, (10, 2, 23)), (57, .iconst 3, 1, (0, 0, 0))]
theorem K46_5 : zRk 46 B46_5 = true := zRw_ok (by decide +kernel)
noncomputable def B46_6 : List zRow := [(50, .ifCond .eq 12, 3, (0, 0, 0))]
theorem K46_6 : zRk 46 B46_6 = true := zRw_ok (by decide +kernel)
noncomputable def B46_7 : List zRow := [(40, .iconst 0, 1, (0, 0, 0))]
theorem K46_7 : zRk 46 B46_7 = true := zRw_ok (by decide +kernel)
noncomputable def B46_8 : List zRow := [(34, .istore_n 2, 1, (0, 0, 0)), (35, .iload_n 2, 1, (0, 0, 0)), (36, .iconst (-1), 1, (0, 0, 0)), (37, .if_icmp .ne 5, 3, (0, 0, 0))]
theorem K46_8 : zRk 46 B46_8 = true := zRw_ok (by decide +kernel)
noncomputable def B46_9 : List zRow := [(14, .aload_n 0, 1, (0, 0, 0)), (15, .getfield 18, 3, (10, 2, 23)), (18, .iconst 4, 1, (0, 0, 0))]
theorem K46_9 : zRk 46 B46_9 = true := zRw_ok (by decide +kernel)
noncomputable def B46_10 : List zRow := [(0, .aload_n 0, 1, (0, 0, 0)), (1, .getfield 12, 3, (10, 0, 167)), (4, .getfield 151, 3, (9, 5, 0)), (7, .istore_n 1, 1, (0, 0, 0)), (8, .iload_n 1, 1, (0, 0, 0)), (9, .bipush 8, 2, (0, 0, 0)), (11, .if_icmp .lt 12, 3, (0, 0, 0))]
theorem K46_10 : zRk 46 B46_10 = true := zRw_ok (by decide +kernel)
/-- EchoVale$ValleyText.readFelt()Z -/
def F46 (h : zHC) : Option (Int × zHC) := if (h 581 1 0) < 8 then (F21 h).bind fun r1 => (F39 r1).bind fun r2 => if ¬ r2.1 = (-1) then (F47 1 r2.1 r2.2).bind fun r3 => if r3 = 0 then zG (0 ≤ (h 581 1 0) ∧ (h 581 1 0) < 8) ((F21 (hset (hset r2.2 593 1 (h 581 1 0) r2.1) 581 1 0 (wadd (h 581 1 0) 1))).bind fun r4 => some (1, r4)) else (F31 3 r2.2).bind fun r5 => zG (r5.1 = 0 ∨ r5.1 = 1) (some (r5.1, r5.2)) else some (0, r2.2) else (F31 4 h).bind fun r6 => zG (r6.1 = 0 ∨ r6.1 = 1) (some (r6.1, r6.2))
set_option maxRecDepth 100000 in
theorem S46 {spec : zRn zH2} {hm : zHM} {o : Int → Int} {d : Nat} (hd : 5 ≤ d) (h : zHC) (v : (Int × zHC)) (e : F46 h = some v) : zRu2 spec d 46 [(20, 0)] (h, hm, o) (some (0, v.1)) (v.2, hm, o) := by
  refine zF_in (D := 4) (mx := 3) (L := [some (20, 0), none, none]) (by decide +kernel) rfl rfl hd (fun d hd => ?_)
  unfold F46 at e
  rcases zI_s e with ⟨q1, e⟩ | ⟨q1, e⟩
  · refine zF_blk (m := []) (d := 1) (b := B46_10) (gs := [(h 581 1 0) < 8]) (c' := (23, [some (20, 0), some (0, (h 581 1 0)), none], [], (h, hm, o))) K46_10 rfl ⟨q1, trivial⟩ ?_
    obtain ⟨r1, q2, e⟩ := zB_s e
    refine zF_blk (m := []) (d := 0) (b := B46_0) (gs := []) (c' := (27, [some (20, 0), some (0, (h 581 1 0)), none], [(15, 0)], (h, hm, o))) K46_0 rfl trivial ?_
    refine zF_call (k := 21) (cl := 5) (n := 1) (i := .invokevirtual 79) (args := [(15, 0)]) (rest := []) (g1 := (r1, hm, o)) (r1 := none) (zCk1_w (by decide +kernel)) rfl rfl rfl (st' := []) rfl (S21 (Nat.le_trans (by decide) hd)  h _ q2) ?_
    obtain ⟨r2, q3, e⟩ := zB_s e
    refine zF_blk (m := []) (d := 0) (b := B46_1) (gs := []) (c' := (31, [some (20, 0), some (0, (h 581 1 0)), none], [(20, 0)], (r1, hm, o))) K46_1 rfl trivial ?_
    refine zF_call (k := 39) (cl := 10) (n := 1) (i := .invokevirtual 99) (args := [(20, 0)]) (rest := []) (g1 := (r2.2, hm, o)) (r1 := some (0, r2.1)) (zCk1_w (by decide +kernel)) rfl rfl rfl (st' := [(0, r2.1)]) rfl (S39 (Nat.le_trans (by decide) hd)  r1 _ q3) ?_
    rcases zI_s e with ⟨q4, e⟩ | ⟨q4, e⟩
    · refine zF_blk (m := []) (d := 1) (b := B46_8) (gs := [¬ r2.1 = (-1)]) (c' := (42, [some (20, 0), some (0, (h 581 1 0)), some (0, r2.1)], [], (r2.2, hm, o))) K46_8 rfl ⟨q4, trivial⟩ ?_
      obtain ⟨r3, q5, e⟩ := zB_s e
      refine zF_blk (m := []) (d := 0) (b := B46_2) (gs := []) (c' := (47, [some (20, 0), some (0, (h 581 1 0)), some (0, r2.1)], [(0, r2.1), (19, 1)], (r2.2, hm, o))) K46_2 rfl trivial ?_
      refine zF_call (k := 47) (cl := 9) (n := 2) (i := .invokevirtual 154) (args := [(19, 1), (0, r2.1)]) (rest := []) (g1 := (r2.2, hm, o)) (r1 := some (0, r3)) (zCk1_w (by decide +kernel)) rfl rfl rfl (st' := [(0, r3)]) rfl (S47 (Nat.le_trans (by decide) hd) 1 r2.1 r2.2 _ q5) ?_
      rcases zI_s e with ⟨q6, e⟩ | ⟨q6, e⟩
      · refine zF_blk (m := []) (d := 1) (b := B46_6) (gs := [r3 = 0]) (c' := (62, [some (20, 0), some (0, (h 581 1 0)), some (0, r2.1)], [], (r2.2, hm, o))) K46_6 rfl ⟨q6, trivial⟩ ?_
        obtain ⟨q7, e⟩ := zG_s e
        obtain ⟨r4, q8, e⟩ := zB_s e
        refine zF_blk (m := []) (d := 0) (b := B46_3) (gs := [0 ≤ (h 581 1 0) ∧ (h 581 1 0) < 8]) (c' := (86, [some (20, 0), some (0, (h 581 1 0)), some (0, r2.1)], [(15, 0)], ((hset (hset r2.2 593 1 (h 581 1 0) r2.1) 581 1 0 (wadd (h 581 1 0) 1)), hm, o))) K46_3 rfl ⟨q7, trivial⟩ ?_
        refine zF_call (k := 21) (cl := 5) (n := 1) (i := .invokevirtual 79) (args := [(15, 0)]) (rest := []) (g1 := (r4, hm, o)) (r1 := none) (zCk1_w (by decide +kernel)) rfl rfl rfl (st' := []) rfl (S21 (Nat.le_trans (by decide) hd)  (hset (hset r2.2 593 1 (h 581 1 0) r2.1) 581 1 0 (wadd (h 581 1 0) 1)) _ q8) ?_
        refine zF_blk (m := []) (d := 0) (b := B46_4) (gs := []) (c' := (90, [some (20, 0), some (0, (h 581 1 0)), some (0, r2.1)], [(0, 1)], (r4, hm, o))) K46_4 rfl trivial ?_
        exact zF_rbC (zRe1_w (by decide +kernel)) (Or.inr rfl) e
      · refine zF_blk (m := []) (d := 0) (b := B46_6) (gs := [¬ (r3 = 0)]) (c' := (53, [some (20, 0), some (0, (h 581 1 0)), some (0, r2.1)], [], (r2.2, hm, o))) K46_6 rfl ⟨q6, trivial⟩ ?_
        obtain ⟨r5, q9, e⟩ := zB_s e
        refine zF_blk (m := []) (d := 0) (b := B46_5) (gs := []) (c' := (58, [some (20, 0), some (0, (h 581 1 0)), some (0, r2.1)], [(0, 3), (15, 0)], (r2.2, hm, o))) K46_5 rfl trivial ?_
        refine zF_call (k := 31) (cl := 5) (n := 2) (i := .invokevirtual 49) (args := [(15, 0), (0, 3)]) (rest := []) (g1 := (r5.2, hm, o)) (r1 := some (0, r5.1)) (zCk1_w (by decide +kernel)) rfl rfl rfl (st' := [(0, r5.1)]) rfl (S31 (Nat.le_trans (by decide) hd) 3 r2.2 _ q9) ?_
        obtain ⟨q10, e⟩ := zG_s e
        exact zF_rbC (zRe1_w (by decide +kernel)) q10 e
    · refine zF_blk (m := []) (d := 0) (b := B46_8) (gs := [¬ (¬ r2.1 = (-1))]) (c' := (40, [some (20, 0), some (0, (h 581 1 0)), some (0, r2.1)], [], (r2.2, hm, o))) K46_8 rfl ⟨q4, trivial⟩ ?_
      refine zF_blk (m := []) (d := 0) (b := B46_7) (gs := []) (c' := (41, [some (20, 0), some (0, (h 581 1 0)), some (0, r2.1)], [(0, 0)], (r2.2, hm, o))) K46_7 rfl trivial ?_
      exact zF_rbC (zRe1_w (by decide +kernel)) (Or.inl rfl) e
  · refine zF_blk (m := []) (d := 0) (b := B46_10) (gs := [¬ ((h 581 1 0) < 8)]) (c' := (14, [some (20, 0), some (0, (h 581 1 0)), none], [], (h, hm, o))) K46_10 rfl ⟨q1, trivial⟩ ?_
    obtain ⟨r6, q11, e⟩ := zB_s e
    refine zF_blk (m := []) (d := 0) (b := B46_9) (gs := []) (c' := (19, [some (20, 0), some (0, (h 581 1 0)), none], [(0, 4), (15, 0)], (h, hm, o))) K46_9 rfl trivial ?_
    refine zF_call (k := 31) (cl := 5) (n := 2) (i := .invokevirtual 49) (args := [(15, 0), (0, 4)]) (rest := []) (g1 := (r6.2, hm, o)) (r1 := some (0, r6.1)) (zCk1_w (by decide +kernel)) rfl rfl rfl (st' := [(0, r6.1)]) rfl (S31 (Nat.le_trans (by decide) hd) 4 h _ q11) ?_
    obtain ⟨q12, e⟩ := zG_s e
    exact zF_rbC (zRe1_w (by decide +kernel)) q12 e
noncomputable def B49_0 : List zRow := [(0, .iconst 0, 1, (0, 0, 0)), (1, .istore_n 2, 1, (0, 0, 0))]
theorem K49_0 : zRk 49 B49_0 = true := zRw_ok (by decide +kernel)
noncomputable def B49_1 : List zRow := [(28, .iconst 0, 1, (0, 0, 0))]
theorem K49_1 : zRk 49 B49_1 = true := zRw_ok (by decide +kernel)
noncomputable def B49_2 : List zRow := [(22, .iinc 2 1, 3, (0, 0, 0)), (25, .goto (-23), 3, (0, 0, 0))]
theorem K49_2 : zRk 49 B49_2 = true := zRw_ok (by decide +kernel)
noncomputable def B49_3 : List zRow := [(20, .iconst 1, 1, (0, 0, 0))]
theorem K49_3 : zRk 49 B49_3 = true := zRw_ok (by decide +kernel)
noncomputable def B49_4 : List zRow := [(10, .aload_n 0, 1, (0, 0, 0)), (11, .getfield 46, 3, (9, 18, 5242906)), (14, .iload_n 2, 1, (0, 0, 0)), (15, .iaload, 1, (0, 0, 0)), (16, .iload_n 1, 1, (0, 0, 0)), (17, .if_icmp .ne 5, 3, (0, 0, 0))]
theorem K49_4 : zRk 49 B49_4 = true := zRw_ok (by decide +kernel)
noncomputable def B49_5 : List zRow := [(2, .iload_n 2, 1, (0, 0, 0)), (3, .aload_n 0, 1, (0, 0, 0)), (4, .getfield 71, 3, (9, 6, 0)), (7, .if_icmp .ge 21, 3, (0, 0, 0))]
theorem K49_5 : zRk 49 B49_5 = true := zRw_ok (by decide +kernel)
def F49_0 (h : zHC) : Nat → Int → Int → Int → Option Int
  | 0, _, _, _ => none
  | n + 1, v0, v1, v2 => if (h 582 v0 0) ≤ v2 then some 0 else zG (0 ≤ v2 ∧ v2 < 6) (if ¬ (h 594 v0 v2) = v1 then (F49_0 h n) v0 v1 (wadd v2 1) else some 1)
set_option maxRecDepth 100000 in
theorem T49_0 {spec : zRn zH2} {hm : zHM} {o : Int → Int} {d : Nat} (hd : 0 ≤ d) (h : zHC) : ∀ (n : Nat) (v0 : Int) (v1 : Int) (v2 : Int) (v : Int), F49_0 h n v0 v1 v2 = some v → zFin 0 (fun _ => 0) (zRu2 spec d) 49 (some (0, v)) (h, hm, o) (2, [some (19, v0), some (0, v1), some (0, v2)], [], (h, hm, o)) := by
  intro n
  induction n with
  | zero => intro v0 v1 v2 v e; unfold F49_0 at e; cases e
  | succ n hk0 =>
    intro v0 v1 v2 v e
    unfold F49_0 at e
    rcases zI_s e with ⟨q1, e⟩ | ⟨q1, e⟩
    · refine zF_blk (m := []) (d := 1) (b := B49_5) (gs := [(h 582 v0 0) ≤ v2]) (c' := (28, [some (19, v0), some (0, v1), some (0, v2)], [], (h, hm, o))) K49_5 rfl ⟨q1, trivial⟩ ?_
      refine zF_blk (m := []) (d := 0) (b := B49_1) (gs := []) (c' := (29, [some (19, v0), some (0, v1), some (0, v2)], [(0, 0)], (h, hm, o))) K49_1 rfl trivial ?_
      obtain rfl := Option.some.inj e
      exact zF_rb (zRe1_w (by decide +kernel)) (Or.inl rfl)
    · refine zF_blk (m := []) (d := 0) (b := B49_5) (gs := [¬ ((h 582 v0 0) ≤ v2)]) (c' := (10, [some (19, v0), some (0, v1), some (0, v2)], [], (h, hm, o))) K49_5 rfl ⟨q1, trivial⟩ ?_
      obtain ⟨q2, e⟩ := zG_s e
      rcases zI_s e with ⟨q3, e⟩ | ⟨q3, e⟩
      · refine zF_blk (m := []) (d := 1) (b := B49_4) (gs := [0 ≤ v2 ∧ v2 < 6, ¬ (h 594 v0 v2) = v1]) (c' := (22, [some (19, v0), some (0, v1), some (0, v2)], [], (h, hm, o))) K49_4 rfl ⟨q2, q3, trivial⟩ ?_
        refine zF_blk (m := []) (d := 0) (b := B49_2) (gs := []) (c' := (2, [some (19, v0), some (0, v1), some (0, (wadd v2 1))], [], (h, hm, o))) K49_2 rfl trivial ?_
        exact hk0 v0 v1 (wadd v2 1) _ e
      · refine zF_blk (m := []) (d := 0) (b := B49_4) (gs := [0 ≤ v2 ∧ v2 < 6, ¬ (¬ (h 594 v0 v2) = v1)]) (c' := (20, [some (19, v0), some (0, v1), some (0, v2)], [], (h, hm, o))) K49_4 rfl ⟨q2, q3, trivial⟩ ?_
        refine zF_blk (m := []) (d := 0) (b := B49_3) (gs := []) (c' := (21, [some (19, v0), some (0, v1), some (0, v2)], [(0, 1)], (h, hm, o))) K49_3 rfl trivial ?_
        obtain rfl := Option.some.inj e
        exact zF_rb (zRe1_w (by decide +kernel)) (Or.inr rfl)
/-- EchoVale$Valley.hasSnow(I)Z -/
def F49 (v0 : Int) (v1 : Int) (h : zHC) : Option Int := F49_0 h zFu v0 v1 0
set_option maxRecDepth 100000 in
theorem S49 {spec : zRn zH2} {hm : zHM} {o : Int → Int} {d : Nat} (hd : 1 ≤ d) (v0 : Int) (v1 : Int) (h : zHC) (v : Int) (e : F49 v0 v1 h = some v) : zRu2 spec d 49 [(19, v0), (0, v1)] (h, hm, o) (some (0, v)) (h, hm, o) := by
  refine zF_in (D := 0) (mx := 3) (L := [some (19, v0), some (0, v1), none]) (by decide +kernel) rfl rfl hd (fun d hd => ?_)
  unfold F49 at e
  refine zF_blk (m := []) (d := 0) (b := B49_0) (gs := []) (c' := (2, [some (19, v0), some (0, v1), some (0, 0)], [], (h, hm, o))) K49_0 rfl trivial ?_
  exact T49_0 hd h zFu v0 v1 0 _ e
noncomputable def B48_0 : List zRow := [(23, .aload_n 0, 1, (0, 0, 0)), (24, .getfield 18, 3, (10, 2, 23))]
theorem K48_0 : zRk 48 B48_0 = true := zRw_ok (by decide +kernel)
noncomputable def B48_1 : List zRow := [(30, .aload_n 0, 1, (0, 0, 0)), (31, .getfield 18, 3, (10, 2, 23)), (34, .iconst 0, 1, (0, 0, 0)), (35, .sipush 200, 3, (0, 0, 0))]
theorem K48_1 : zRk 48 B48_1 = true := zRw_ok (by decide +kernel)
noncomputable def B48_2 : List zRow := [(46, .aload_n 0, 1, (0, 0, 0)), (47, .getfield 18, 3, (10, 2, 23)), (50, .getfield 52, 3, (5, 6, 0)), (53, .istore_n 2, 1, (0, 0, 0)), (54, .aload_n 0, 1, (0, 0, 0)), (55, .getfield 12, 3, (10, 0, 167)), (58, .iload_n 2, 1, (0, 0, 0))]
theorem K48_2 : zRk 48 B48_2 = true := zRw_ok (by decide +kernel)
noncomputable def B48_3 : List zRow := [(74, .aload_n 0, 1, (0, 0, 0)), (75, .getfield 18, 3, (10, 2, 23))]
theorem K48_3 : zRk 48 B48_3 = true := zRw_ok (by decide +kernel)
noncomputable def B48_4 : List zRow := [(81, .aload_n 0, 1, (0, 0, 0)), (82, .getfield 18, 3, (10, 2, 23)), (85, .iconst 0, 1, (0, 0, 0)), (86, .bipush 9, 2, (0, 0, 0))]
theorem K48_4 : zRk 48 B48_4 = true := zRw_ok (by decide +kernel)
noncomputable def B48_5 : List zRow := [(96, .aload_n 0, 1, (0, 0, 0)), (97, .getfield 12, 3, (10, 0, 167)), (100, .getfield 166, 3, (9, 18, 5242906)), (103, .iload_n 1, 1, (0, 0, 0)), (104, .iload_n 2, 1, (0, 0, 0)), (105, .iastore, 1, (0, 0, 0)), (106, .aload_n 0, 1, (0, 0, 0)), (107, .getfield 12, 3, (10, 0, 167)), (110, .getfield 169, 3, (9, 19, 5242906)), (113, .iload_n 1, 1, (0, 0, 0)), (114, .aload_n 0, 1, (0, 0, 0)), (115, .getfield 18, 3, (10, 2, 23)), (118, .getfield 52, 3, (5, 6, 0)), (121, .iastore, 1, (0, 0, 0)), (122, .aload_n 0, 1, (0, 0, 0)), (123, .getfield 12, 3, (10, 0, 167)), (126, .iload_n 1, 1, (0, 0, 0)), (127, .iconst 1, 1, (0, 0, 0)), (128, .iadd, 1, (0, 0, 0)), (129, .putfield 160, 3, (9, 6, 0)), (132, .aload_n 0, 1, (0, 0, 0)), (133, .getfield 18, 3, (10, 2, 23))]
theorem K48_5 : zRk 48 B48_5 = true := zRw_ok (by decide +kernel)
noncomputable def B48_6 : List zRow := [(139, .iconst 1, 1, (0, 0, 0))]
theorem K48_6 : zRk 48 B48_6 = true := zRw_ok (by decide +kernel)
noncomputable def B48_7 : List zRow := [(94, .iconst 0, 1, (0, 0, 0))]
theorem K48_7 : zRk 48 B48_7 = true := zRw_ok (by decide +kernel)
noncomputable def B48_8 : List zRow := [(91, .ifCond .ne 5, 3, (0, 0, 0))]
theorem K48_8 : zRk 48 B48_8 = true := zRw_ok (by decide +kernel)
noncomputable def B48_9 : List zRow := [(65, .aload_n 0, 1, (0, 0, 0)), (66, .getfield 18, 3, (10, 2, 23)), (69, .iconst 3, 1, (0, 0, 0))]
theorem K48_9 : zRk 48 B48_9 = true := zRw_ok (by decide +kernel)
noncomputable def B48_10 : List zRow := [(62, .ifCond .eq 12, 3, (0, 0, 0))]
theorem K48_10 : zRk 48 B48_10 = true := zRw_ok (by decide +kernel)
noncomputable def B48_11 : List zRow := [(44, .iconst 0, 1, (0, 0, 0))]
theorem K48_11 : zRk 48 B48_11 = true := zRw_ok (by decide +kernel)
noncomputable def B48_12 : List zRow := [(41, .ifCond .ne 5, 3, (0, 0, 0))]
theorem K48_12 : zRk 48 B48_12 = true := zRw_ok (by decide +kernel)
noncomputable def B48_13 : List zRow := [(14, .aload_n 0, 1, (0, 0, 0)), (15, .getfield 18, 3, (10, 2, 23)), (18, .iconst 4, 1, (0, 0, 0))]
theorem K48_13 : zRk 48 B48_13 = true := zRw_ok (by decide +kernel)
noncomputable def B48_14 : List zRow := [(0, .aload_n 0, 1, (0, 0, 0)), (1, .getfield 12, 3, (10, 0, 167)), (4, .getfield 160, 3, (9, 6, 0)), (7, .istore_n 1, 1, (0, 0, 0)), (8, .iload_n 1, 1, (0, 0, 0)), (9, .bipush 6, 2, (0, 0, 0)), (11, .if_icmp .lt 12, 3, (0, 0, 0))]
theorem K48_14 : zRk 48 B48_14 = true := zRw_ok (by decide +kernel)
/-- EchoVale$ValleyText.readSnow()Z -/
def F48 (h : zHC) : Option (Int × zHC) := if (h 582 1 0) < 6 then (F21 h).bind fun r1 => (F33 0 200 r1).bind fun r2 => if ¬ r2.1 = 0 then (F49 1 (r2.2 326 0 0) r2.2).bind fun r3 => if r3 = 0 then (F21 r2.2).bind fun r4 => (F33 0 9 r4).bind fun r5 => if ¬ r5.1 = 0 then zG (0 ≤ (h 582 1 0) ∧ (h 582 1 0) < 6) (zG (0 ≤ (h 582 1 0) ∧ (h 582 1 0) < 6) ((F21 (hset (hset (hset r5.2 594 1 (h 582 1 0) (r2.2 326 0 0)) 595 1 (h 582 1 0) (r5.2 326 0 0)) 582 1 0 (wadd (h 582 1 0) 1))).bind fun r6 => some (1, r6))) else some (0, r5.2) else (F31 3 r2.2).bind fun r7 => zG (r7.1 = 0 ∨ r7.1 = 1) (some (r7.1, r7.2)) else some (0, r2.2) else (F31 4 h).bind fun r8 => zG (r8.1 = 0 ∨ r8.1 = 1) (some (r8.1, r8.2))
set_option maxRecDepth 100000 in
theorem S48 {spec : zRn zH2} {hm : zHM} {o : Int → Int} {d : Nat} (hd : 4 ≤ d) (h : zHC) (v : (Int × zHC)) (e : F48 h = some v) : zRu2 spec d 48 [(20, 0)] (h, hm, o) (some (0, v.1)) (v.2, hm, o) := by
  refine zF_in (D := 3) (mx := 3) (L := [some (20, 0), none, none]) (by decide +kernel) rfl rfl hd (fun d hd => ?_)
  unfold F48 at e
  rcases zI_s e with ⟨q1, e⟩ | ⟨q1, e⟩
  · refine zF_blk (m := []) (d := 1) (b := B48_14) (gs := [(h 582 1 0) < 6]) (c' := (23, [some (20, 0), some (0, (h 582 1 0)), none], [], (h, hm, o))) K48_14 rfl ⟨q1, trivial⟩ ?_
    obtain ⟨r1, q2, e⟩ := zB_s e
    refine zF_blk (m := []) (d := 0) (b := B48_0) (gs := []) (c' := (27, [some (20, 0), some (0, (h 582 1 0)), none], [(15, 0)], (h, hm, o))) K48_0 rfl trivial ?_
    refine zF_call (k := 21) (cl := 5) (n := 1) (i := .invokevirtual 79) (args := [(15, 0)]) (rest := []) (g1 := (r1, hm, o)) (r1 := none) (zCk1_w (by decide +kernel)) rfl rfl rfl (st' := []) rfl (S21 (Nat.le_trans (by decide) hd)  h _ q2) ?_
    obtain ⟨r2, q3, e⟩ := zB_s e
    refine zF_blk (m := []) (d := 0) (b := B48_1) (gs := []) (c' := (38, [some (20, 0), some (0, (h 582 1 0)), none], [(0, 200), (0, 0), (15, 0)], (r1, hm, o))) K48_1 rfl trivial ?_
    refine zF_call (k := 33) (cl := 5) (n := 3) (i := .invokevirtual 82) (args := [(15, 0), (0, 0), (0, 200)]) (rest := []) (g1 := (r2.2, hm, o)) (r1 := some (0, r2.1)) (zCk1_w (by decide +kernel)) rfl rfl rfl (st' := [(0, r2.1)]) rfl (S33 (Nat.le_trans (by decide) hd) 0 200 r1 _ q3) ?_
    rcases zI_s e with ⟨q4, e⟩ | ⟨q4, e⟩
    · refine zF_blk (m := []) (d := 1) (b := B48_12) (gs := [¬ r2.1 = 0]) (c' := (46, [some (20, 0), some (0, (h 582 1 0)), none], [], (r2.2, hm, o))) K48_12 rfl ⟨q4, trivial⟩ ?_
      obtain ⟨r3, q5, e⟩ := zB_s e
      refine zF_blk (m := []) (d := 0) (b := B48_2) (gs := []) (c' := (59, [some (20, 0), some (0, (h 582 1 0)), some (0, (r2.2 326 0 0))], [(0, (r2.2 326 0 0)), (19, 1)], (r2.2, hm, o))) K48_2 rfl trivial ?_
      refine zF_call (k := 49) (cl := 9) (n := 2) (i := .invokevirtual 163) (args := [(19, 1), (0, (r2.2 326 0 0))]) (rest := []) (g1 := (r2.2, hm, o)) (r1 := some (0, r3)) (zCk1_w (by decide +kernel)) rfl rfl rfl (st' := [(0, r3)]) rfl (S49 (Nat.le_trans (by decide) hd) 1 (r2.2 326 0 0) r2.2 _ q5) ?_
      rcases zI_s e with ⟨q6, e⟩ | ⟨q6, e⟩
      · refine zF_blk (m := []) (d := 1) (b := B48_10) (gs := [r3 = 0]) (c' := (74, [some (20, 0), some (0, (h 582 1 0)), some (0, (r2.2 326 0 0))], [], (r2.2, hm, o))) K48_10 rfl ⟨q6, trivial⟩ ?_
        obtain ⟨r4, q7, e⟩ := zB_s e
        refine zF_blk (m := []) (d := 0) (b := B48_3) (gs := []) (c' := (78, [some (20, 0), some (0, (h 582 1 0)), some (0, (r2.2 326 0 0))], [(15, 0)], (r2.2, hm, o))) K48_3 rfl trivial ?_
        refine zF_call (k := 21) (cl := 5) (n := 1) (i := .invokevirtual 79) (args := [(15, 0)]) (rest := []) (g1 := (r4, hm, o)) (r1 := none) (zCk1_w (by decide +kernel)) rfl rfl rfl (st' := []) rfl (S21 (Nat.le_trans (by decide) hd)  r2.2 _ q7) ?_
        obtain ⟨r5, q8, e⟩ := zB_s e
        refine zF_blk (m := []) (d := 0) (b := B48_4) (gs := []) (c' := (88, [some (20, 0), some (0, (h 582 1 0)), some (0, (r2.2 326 0 0))], [(0, 9), (0, 0), (15, 0)], (r4, hm, o))) K48_4 rfl trivial ?_
        refine zF_call (k := 33) (cl := 5) (n := 3) (i := .invokevirtual 82) (args := [(15, 0), (0, 0), (0, 9)]) (rest := []) (g1 := (r5.2, hm, o)) (r1 := some (0, r5.1)) (zCk1_w (by decide +kernel)) rfl rfl rfl (st' := [(0, r5.1)]) rfl (S33 (Nat.le_trans (by decide) hd) 0 9 r4 _ q8) ?_
        rcases zI_s e with ⟨q9, e⟩ | ⟨q9, e⟩
        · refine zF_blk (m := []) (d := 1) (b := B48_8) (gs := [¬ r5.1 = 0]) (c' := (96, [some (20, 0), some (0, (h 582 1 0)), some (0, (r2.2 326 0 0))], [], (r5.2, hm, o))) K48_8 rfl ⟨q9, trivial⟩ ?_
          obtain ⟨q10, e⟩ := zG_s e
          obtain ⟨q10, e⟩ := zG_s e
          obtain ⟨r6, q11, e⟩ := zB_s e
          refine zF_blk (m := []) (d := 0) (b := B48_5) (gs := [0 ≤ (h 582 1 0) ∧ (h 582 1 0) < 6, 0 ≤ (h 582 1 0) ∧ (h 582 1 0) < 6]) (c' := (136, [some (20, 0), some (0, (h 582 1 0)), some (0, (r2.2 326 0 0))], [(15, 0)], ((hset (hset (hset r5.2 594 1 (h 582 1 0) (r2.2 326 0 0)) 595 1 (h 582 1 0) (r5.2 326 0 0)) 582 1 0 (wadd (h 582 1 0) 1)), hm, o))) K48_5 rfl ⟨q10, q10, trivial⟩ ?_
          refine zF_call (k := 21) (cl := 5) (n := 1) (i := .invokevirtual 79) (args := [(15, 0)]) (rest := []) (g1 := (r6, hm, o)) (r1 := none) (zCk1_w (by decide +kernel)) rfl rfl rfl (st' := []) rfl (S21 (Nat.le_trans (by decide) hd)  (hset (hset (hset r5.2 594 1 (h 582 1 0) (r2.2 326 0 0)) 595 1 (h 582 1 0) (r5.2 326 0 0)) 582 1 0 (wadd (h 582 1 0) 1)) _ q11) ?_
          refine zF_blk (m := []) (d := 0) (b := B48_6) (gs := []) (c' := (140, [some (20, 0), some (0, (h 582 1 0)), some (0, (r2.2 326 0 0))], [(0, 1)], (r6, hm, o))) K48_6 rfl trivial ?_
          exact zF_rbC (zRe1_w (by decide +kernel)) (Or.inr rfl) e
        · refine zF_blk (m := []) (d := 0) (b := B48_8) (gs := [¬ (¬ r5.1 = 0)]) (c' := (94, [some (20, 0), some (0, (h 582 1 0)), some (0, (r2.2 326 0 0))], [], (r5.2, hm, o))) K48_8 rfl ⟨q9, trivial⟩ ?_
          refine zF_blk (m := []) (d := 0) (b := B48_7) (gs := []) (c' := (95, [some (20, 0), some (0, (h 582 1 0)), some (0, (r2.2 326 0 0))], [(0, 0)], (r5.2, hm, o))) K48_7 rfl trivial ?_
          exact zF_rbC (zRe1_w (by decide +kernel)) (Or.inl rfl) e
      · refine zF_blk (m := []) (d := 0) (b := B48_10) (gs := [¬ (r3 = 0)]) (c' := (65, [some (20, 0), some (0, (h 582 1 0)), some (0, (r2.2 326 0 0))], [], (r2.2, hm, o))) K48_10 rfl ⟨q6, trivial⟩ ?_
        obtain ⟨r7, q12, e⟩ := zB_s e
        refine zF_blk (m := []) (d := 0) (b := B48_9) (gs := []) (c' := (70, [some (20, 0), some (0, (h 582 1 0)), some (0, (r2.2 326 0 0))], [(0, 3), (15, 0)], (r2.2, hm, o))) K48_9 rfl trivial ?_
        refine zF_call (k := 31) (cl := 5) (n := 2) (i := .invokevirtual 49) (args := [(15, 0), (0, 3)]) (rest := []) (g1 := (r7.2, hm, o)) (r1 := some (0, r7.1)) (zCk1_w (by decide +kernel)) rfl rfl rfl (st' := [(0, r7.1)]) rfl (S31 (Nat.le_trans (by decide) hd) 3 r2.2 _ q12) ?_
        obtain ⟨q13, e⟩ := zG_s e
        exact zF_rbC (zRe1_w (by decide +kernel)) q13 e
    · refine zF_blk (m := []) (d := 0) (b := B48_12) (gs := [¬ (¬ r2.1 = 0)]) (c' := (44, [some (20, 0), some (0, (h 582 1 0)), none], [], (r2.2, hm, o))) K48_12 rfl ⟨q4, trivial⟩ ?_
      refine zF_blk (m := []) (d := 0) (b := B48_11) (gs := []) (c' := (45, [some (20, 0), some (0, (h 582 1 0)), none], [(0, 0)], (r2.2, hm, o))) K48_11 rfl trivial ?_
      exact zF_rbC (zRe1_w (by decide +kernel)) (Or.inl rfl) e
  · refine zF_blk (m := []) (d := 0) (b := B48_14) (gs := [¬ ((h 582 1 0) < 6)]) (c' := (14, [some (20, 0), some (0, (h 582 1 0)), none], [], (h, hm, o))) K48_14 rfl ⟨q1, trivial⟩ ?_
    obtain ⟨r8, q14, e⟩ := zB_s e
    refine zF_blk (m := []) (d := 0) (b := B48_13) (gs := []) (c' := (19, [some (20, 0), some (0, (h 582 1 0)), none], [(0, 4), (15, 0)], (h, hm, o))) K48_13 rfl trivial ?_
    refine zF_call (k := 31) (cl := 5) (n := 2) (i := .invokevirtual 49) (args := [(15, 0), (0, 4)]) (rest := []) (g1 := (r8.2, hm, o)) (r1 := some (0, r8.1)) (zCk1_w (by decide +kernel)) rfl rfl rfl (st' := [(0, r8.1)]) rfl (S31 (Nat.le_trans (by decide) hd) 4 h _ q14) ?_
    obtain ⟨q15, e⟩ := zG_s e
    exact zF_rbC (zRe1_w (by decide +kernel)) q15 e
noncomputable def B30_0 : List zRow := [(68, .aload_n 0, 1, (0, 0, 0))]
theorem K30_0 : zRk 30 B30_0 = true := zRw_ok (by decide +kernel)
noncomputable def B30_1 : List zRow := [(20, .aload_n 0, 1, (0, 0, 0)), (21, .getfield 18, 3, (10, 2, 23)), (24, .getfield 52, 3, (5, 6, 0)), (27, .tableswitch 76 0 6 #[41, 46, 51, 56, 61, 66, 71], 41, (0, 0, 0))]
theorem K30_1 : zRk 30 B30_1 = true := by decide +kernel
noncomputable def B30_2 : List zRow := [(73, .aload_n 0, 1, (0, 0, 0))]
theorem K30_2 : zRk 30 B30_2 = true := zRw_ok (by decide +kernel)
noncomputable def B30_3 : List zRow := [(78, .aload_n 0, 1, (0, 0, 0))]
theorem K30_3 : zRk 30 B30_3 = true := zRw_ok (by decide +kernel)
noncomputable def B30_4 : List zRow := [(83, .aload_n 0, 1, (0, 0, 0))]
theorem K30_4 : zRk 30 B30_4 = true := zRw_ok (by decide +kernel)
noncomputable def B30_5 : List zRow := [(88, .aload_n 0, 1, (0, 0, 0))]
theorem K30_5 : zRk 30 B30_5 = true := zRw_ok (by decide +kernel)
noncomputable def B30_6 : List zRow := [(93, .aload_n 0, 1, (0, 0, 0))]
theorem K30_6 : zRk 30 B30_6 = true := zRw_ok (by decide +kernel)
noncomputable def B30_7 : List zRow := [(98, .aload_n 0, 1, (0, 0, 0))]
theorem K30_7 : zRk 30 B30_7 = true := zRw_ok (by decide +kernel)
noncomputable def B30_8 : List zRow := [(103, .aload_n 0, 1, (0, 0, 0)), (104, .getfield 18, 3, (10, 2, 23)), (107, .iconst 1, 1, (0, 0, 0))]
theorem K30_8 : zRk 30 B30_8 = true := zRw_ok (by decide +kernel)
noncomputable def B30_9 : List zRow := [(11, .aload_n 0, 1, (0, 0, 0)), (12, .getfield 18, 3, (10, 2, 23)), (15, .iconst 1, 1, (0, 0, 0))]
theorem K30_9 : zRk 30 B30_9 = true := zRw_ok (by decide +kernel)
noncomputable def B30_10 : List zRow := [(0, .aload_n 0, 1, (0, 0, 0)), (1, .getfield 18, 3, (10, 2, 23)), (4, .getfield 46, 3, (5, 4, 0)), (7, .iconst 3, 1, (0, 0, 0)), (8, .if_icmp .eq 12, 3, (0, 0, 0))]
theorem K30_10 : zRk 30 B30_10 = true := zRw_ok (by decide +kernel)
/-- EchoVale$ValleyText.readLine()Z -/
def F30 (h : zHC) : Option (Int × zHC) := if (h 324 0 0) = 3 then if (h 326 0 0) = 0 then (F32 h).bind fun r1 => zG (r1.1 = 0 ∨ r1.1 = 1) (some (r1.1, r1.2)) else if (h 326 0 0) = 1 then (F34 h).bind fun r2 => zG (r2.1 = 0 ∨ r2.1 = 1) (some (r2.1, r2.2)) else if (h 326 0 0) = 2 then (F41 h).bind fun r3 => zG (r3.1 = 0 ∨ r3.1 = 1) (some (r3.1, r3.2)) else if (h 326 0 0) = 3 then (F42 h).bind fun r4 => zG (r4.1 = 0 ∨ r4.1 = 1) (some (r4.1, r4.2)) else if (h 326 0 0) = 4 then (F45 h).bind fun r5 => zG (r5.1 = 0 ∨ r5.1 = 1) (some (r5.1, r5.2)) else if (h 326 0 0) = 5 then (F46 h).bind fun r6 => zG (r6.1 = 0 ∨ r6.1 = 1) (some (r6.1, r6.2)) else if (h 326 0 0) = 6 then (F48 h).bind fun r7 => zG (r7.1 = 0 ∨ r7.1 = 1) (some (r7.1, r7.2)) else zG ((h 326 0 0) < 0 ∨ 6 < (h 326 0 0)) ((F31 1 h).bind fun r8 => zG (r8.1 = 0 ∨ r8.1 = 1) (some (r8.1, r8.2))) else (F31 1 h).bind fun r9 => zG (r9.1 = 0 ∨ r9.1 = 1) (some (r9.1, r9.2))
set_option maxRecDepth 100000 in
theorem S30 {spec : zRn zH2} {hm : zHM} {o : Int → Int} {d : Nat} (hd : 6 ≤ d) (h : zHC) (v : (Int × zHC)) (e : F30 h = some v) : zRu2 spec d 30 [(20, 0)] (h, hm, o) (some (0, v.1)) (v.2, hm, o) := by
  refine zF_in (D := 5) (mx := 1) (L := [some (20, 0)]) (by decide +kernel) rfl rfl hd (fun d hd => ?_)
  unfold F30 at e
  rcases zI_s e with ⟨q1, e⟩ | ⟨q1, e⟩
  · refine zF_blk (m := []) (d := 1) (b := B30_10) (gs := [(h 324 0 0) = 3]) (c' := (20, [some (20, 0)], [], (h, hm, o))) K30_10 rfl ⟨q1, trivial⟩ ?_
    rcases zI_s e with ⟨q2, e⟩ | ⟨q2, e⟩
    · refine zF_blk (m := []) (d := 0) (b := B30_1) (gs := [(h 326 0 0) = 0]) (c' := (68, [some (20, 0)], [], (h, hm, o))) K30_1 rfl ⟨q2, trivial⟩ ?_
      obtain ⟨r1, q3, e⟩ := zB_s e
      refine zF_blk (m := []) (d := 0) (b := B30_0) (gs := []) (c' := (69, [some (20, 0)], [(20, 0)], (h, hm, o))) K30_0 rfl trivial ?_
      refine zF_call (k := 32) (cl := 10) (n := 1) (i := .invokevirtual 55) (args := [(20, 0)]) (rest := []) (g1 := (r1.2, hm, o)) (r1 := some (0, r1.1)) (zCk1_w (by decide +kernel)) rfl rfl rfl (st' := [(0, r1.1)]) rfl (S32 (Nat.le_trans (by decide) hd)  h _ q3) ?_
      obtain ⟨q4, e⟩ := zG_s e
      exact zF_rbC (zRe1_w (by decide +kernel)) q4 e
    rcases zI_s e with ⟨q5, e⟩ | ⟨q5, e⟩
    · refine zF_blk (m := []) (d := 1) (b := B30_1) (gs := [(h 326 0 0) = 1]) (c' := (73, [some (20, 0)], [], (h, hm, o))) K30_1 rfl ⟨q5, trivial⟩ ?_
      obtain ⟨r2, q6, e⟩ := zB_s e
      refine zF_blk (m := []) (d := 0) (b := B30_2) (gs := []) (c' := (74, [some (20, 0)], [(20, 0)], (h, hm, o))) K30_2 rfl trivial ?_
      refine zF_call (k := 34) (cl := 10) (n := 1) (i := .invokevirtual 58) (args := [(20, 0)]) (rest := []) (g1 := (r2.2, hm, o)) (r1 := some (0, r2.1)) (zCk1_w (by decide +kernel)) rfl rfl rfl (st' := [(0, r2.1)]) rfl (S34 (Nat.le_trans (by decide) hd)  h _ q6) ?_
      obtain ⟨q7, e⟩ := zG_s e
      exact zF_rbC (zRe1_w (by decide +kernel)) q7 e
    rcases zI_s e with ⟨q8, e⟩ | ⟨q8, e⟩
    · refine zF_blk (m := []) (d := 2) (b := B30_1) (gs := [(h 326 0 0) = 2]) (c' := (78, [some (20, 0)], [], (h, hm, o))) K30_1 rfl ⟨q8, trivial⟩ ?_
      obtain ⟨r3, q9, e⟩ := zB_s e
      refine zF_blk (m := []) (d := 0) (b := B30_3) (gs := []) (c' := (79, [some (20, 0)], [(20, 0)], (h, hm, o))) K30_3 rfl trivial ?_
      refine zF_call (k := 41) (cl := 10) (n := 1) (i := .invokevirtual 61) (args := [(20, 0)]) (rest := []) (g1 := (r3.2, hm, o)) (r1 := some (0, r3.1)) (zCk1_w (by decide +kernel)) rfl rfl rfl (st' := [(0, r3.1)]) rfl (S41 (Nat.le_trans (by decide) hd)  h _ q9) ?_
      obtain ⟨q10, e⟩ := zG_s e
      exact zF_rbC (zRe1_w (by decide +kernel)) q10 e
    rcases zI_s e with ⟨q11, e⟩ | ⟨q11, e⟩
    · refine zF_blk (m := []) (d := 3) (b := B30_1) (gs := [(h 326 0 0) = 3]) (c' := (83, [some (20, 0)], [], (h, hm, o))) K30_1 rfl ⟨q11, trivial⟩ ?_
      obtain ⟨r4, q12, e⟩ := zB_s e
      refine zF_blk (m := []) (d := 0) (b := B30_4) (gs := []) (c' := (84, [some (20, 0)], [(20, 0)], (h, hm, o))) K30_4 rfl trivial ?_
      refine zF_call (k := 42) (cl := 10) (n := 1) (i := .invokevirtual 64) (args := [(20, 0)]) (rest := []) (g1 := (r4.2, hm, o)) (r1 := some (0, r4.1)) (zCk1_w (by decide +kernel)) rfl rfl rfl (st' := [(0, r4.1)]) rfl (S42 (Nat.le_trans (by decide) hd)  h _ q12) ?_
      obtain ⟨q13, e⟩ := zG_s e
      exact zF_rbC (zRe1_w (by decide +kernel)) q13 e
    rcases zI_s e with ⟨q14, e⟩ | ⟨q14, e⟩
    · refine zF_blk (m := []) (d := 4) (b := B30_1) (gs := [(h 326 0 0) = 4]) (c' := (88, [some (20, 0)], [], (h, hm, o))) K30_1 rfl ⟨q14, trivial⟩ ?_
      obtain ⟨r5, q15, e⟩ := zB_s e
      refine zF_blk (m := []) (d := 0) (b := B30_5) (gs := []) (c' := (89, [some (20, 0)], [(20, 0)], (h, hm, o))) K30_5 rfl trivial ?_
      refine zF_call (k := 45) (cl := 10) (n := 1) (i := .invokevirtual 67) (args := [(20, 0)]) (rest := []) (g1 := (r5.2, hm, o)) (r1 := some (0, r5.1)) (zCk1_w (by decide +kernel)) rfl rfl rfl (st' := [(0, r5.1)]) rfl (S45 (Nat.le_trans (by decide) hd)  h _ q15) ?_
      obtain ⟨q16, e⟩ := zG_s e
      exact zF_rbC (zRe1_w (by decide +kernel)) q16 e
    rcases zI_s e with ⟨q17, e⟩ | ⟨q17, e⟩
    · refine zF_blk (m := []) (d := 5) (b := B30_1) (gs := [(h 326 0 0) = 5]) (c' := (93, [some (20, 0)], [], (h, hm, o))) K30_1 rfl ⟨q17, trivial⟩ ?_
      obtain ⟨r6, q18, e⟩ := zB_s e
      refine zF_blk (m := []) (d := 0) (b := B30_6) (gs := []) (c' := (94, [some (20, 0)], [(20, 0)], (h, hm, o))) K30_6 rfl trivial ?_
      refine zF_call (k := 46) (cl := 10) (n := 1) (i := .invokevirtual 70) (args := [(20, 0)]) (rest := []) (g1 := (r6.2, hm, o)) (r1 := some (0, r6.1)) (zCk1_w (by decide +kernel)) rfl rfl rfl (st' := [(0, r6.1)]) rfl (S46 (Nat.le_trans (by decide) hd)  h _ q18) ?_
      obtain ⟨q19, e⟩ := zG_s e
      exact zF_rbC (zRe1_w (by decide +kernel)) q19 e
    rcases zI_s e with ⟨q20, e⟩ | ⟨q20, e⟩
    · refine zF_blk (m := []) (d := 6) (b := B30_1) (gs := [(h 326 0 0) = 6]) (c' := (98, [some (20, 0)], [], (h, hm, o))) K30_1 rfl ⟨q20, trivial⟩ ?_
      obtain ⟨r7, q21, e⟩ := zB_s e
      refine zF_blk (m := []) (d := 0) (b := B30_7) (gs := []) (c' := (99, [some (20, 0)], [(20, 0)], (h, hm, o))) K30_7 rfl trivial ?_
      refine zF_call (k := 48) (cl := 10) (n := 1) (i := .invokevirtual 73) (args := [(20, 0)]) (rest := []) (g1 := (r7.2, hm, o)) (r1 := some (0, r7.1)) (zCk1_w (by decide +kernel)) rfl rfl rfl (st' := [(0, r7.1)]) rfl (S48 (Nat.le_trans (by decide) hd)  h _ q21) ?_
      obtain ⟨q22, e⟩ := zG_s e
      exact zF_rbC (zRe1_w (by decide +kernel)) q22 e
    obtain ⟨q25, e⟩ := zG_s e
    refine zF_blk (m := []) (d := 7) (b := B30_1) (gs := [(h 326 0 0) < 0 ∨ 6 < (h 326 0 0)]) (c' := (103, [some (20, 0)], [], (h, hm, o))) K30_1 rfl ⟨q25, trivial⟩ ?_
    obtain ⟨r8, q23, e⟩ := zB_s e
    refine zF_blk (m := []) (d := 0) (b := B30_8) (gs := []) (c' := (108, [some (20, 0)], [(0, 1), (15, 0)], (h, hm, o))) K30_8 rfl trivial ?_
    refine zF_call (k := 31) (cl := 5) (n := 2) (i := .invokevirtual 49) (args := [(15, 0), (0, 1)]) (rest := []) (g1 := (r8.2, hm, o)) (r1 := some (0, r8.1)) (zCk1_w (by decide +kernel)) rfl rfl rfl (st' := [(0, r8.1)]) rfl (S31 (Nat.le_trans (by decide) hd) 1 h _ q23) ?_
    obtain ⟨q24, e⟩ := zG_s e
    exact zF_rbC (zRe1_w (by decide +kernel)) q24 e
  · refine zF_blk (m := []) (d := 0) (b := B30_10) (gs := [¬ ((h 324 0 0) = 3)]) (c' := (11, [some (20, 0)], [], (h, hm, o))) K30_10 rfl ⟨q1, trivial⟩ ?_
    obtain ⟨r9, q26, e⟩ := zB_s e
    refine zF_blk (m := []) (d := 0) (b := B30_9) (gs := []) (c' := (16, [some (20, 0)], [(0, 1), (15, 0)], (h, hm, o))) K30_9 rfl trivial ?_
    refine zF_call (k := 31) (cl := 5) (n := 2) (i := .invokevirtual 49) (args := [(15, 0), (0, 1)]) (rest := []) (g1 := (r9.2, hm, o)) (r1 := some (0, r9.1)) (zCk1_w (by decide +kernel)) rfl rfl rfl (st' := [(0, r9.1)]) rfl (S31 (Nat.le_trans (by decide) hd) 1 h _ q26) ?_
    obtain ⟨q27, e⟩ := zG_s e
    exact zF_rbC (zRe1_w (by decide +kernel)) q27 e
noncomputable def B51_0 : List zRow := [(20, .iconst 0, 1, (0, 0, 0))]
theorem K51_0 : zRk 51 B51_0 = true := zRw_ok (by decide +kernel)
noncomputable def B51_1 : List zRow := [(16, .iconst 1, 1, (0, 0, 0)), (17, .goto 4, 3, (0, 0, 0))]
theorem K51_1 : zRk 51 B51_1 = true := zRw_ok (by decide +kernel)
noncomputable def B51_2 : List zRow := [(8, .aload_n 0, 1, (0, 0, 0)), (9, .getfield 82, 3, (5, 6, 0)), (12, .iload_n 1, 1, (0, 0, 0)), (13, .if_icmp .ne 7, 3, (0, 0, 0))]
theorem K51_2 : zRk 51 B51_2 = true := zRw_ok (by decide +kernel)
noncomputable def B51_3 : List zRow := [(0, .aload_n 0, 1, (0, 0, 0)), (1, .getfield 70, 3, (5, 4, 0)), (4, .iconst 5, 1, (0, 0, 0)), (5, .if_icmp .ne 15, 3, (0, 0, 0))]
theorem K51_3 : zRk 51 B51_3 = true := zRw_ok (by decide +kernel)
/-- EchoVale$Reader.isSign(I)Z -/
def F51 (v1 : Int) (h : zHC) : Option Int := if ¬ (h 324 0 0) = 5 then some 0 else if ¬ (h 326 0 0) = v1 then some 0 else some 1
set_option maxRecDepth 100000 in
theorem S51 {spec : zRn zH2} {hm : zHM} {o : Int → Int} {d : Nat} (hd : 1 ≤ d) (v1 : Int) (h : zHC) (v : Int) (e : F51 v1 h = some v) : zRu2 spec d 51 [(15, 0), (0, v1)] (h, hm, o) (some (0, v)) (h, hm, o) := by
  refine zF_in (D := 0) (mx := 2) (L := [some (15, 0), some (0, v1)]) (by decide +kernel) rfl rfl hd (fun d hd => ?_)
  unfold F51 at e
  rcases zI_s e with ⟨q1, e⟩ | ⟨q1, e⟩
  · refine zF_blk (m := []) (d := 1) (b := B51_3) (gs := [¬ (h 324 0 0) = 5]) (c' := (20, [some (15, 0), some (0, v1)], [], (h, hm, o))) K51_3 rfl ⟨q1, trivial⟩ ?_
    refine zF_blk (m := []) (d := 0) (b := B51_0) (gs := []) (c' := (21, [some (15, 0), some (0, v1)], [(0, 0)], (h, hm, o))) K51_0 rfl trivial ?_
    obtain rfl := Option.some.inj e
    exact zF_rb (zRe1_w (by decide +kernel)) (Or.inl rfl)
  · refine zF_blk (m := []) (d := 0) (b := B51_3) (gs := [¬ (¬ (h 324 0 0) = 5)]) (c' := (8, [some (15, 0), some (0, v1)], [], (h, hm, o))) K51_3 rfl ⟨q1, trivial⟩ ?_
    rcases zI_s e with ⟨q2, e⟩ | ⟨q2, e⟩
    · refine zF_blk (m := []) (d := 1) (b := B51_2) (gs := [¬ (h 326 0 0) = v1]) (c' := (20, [some (15, 0), some (0, v1)], [], (h, hm, o))) K51_2 rfl ⟨q2, trivial⟩ ?_
      refine zF_blk (m := []) (d := 0) (b := B51_0) (gs := []) (c' := (21, [some (15, 0), some (0, v1)], [(0, 0)], (h, hm, o))) K51_0 rfl trivial ?_
      obtain rfl := Option.some.inj e
      exact zF_rb (zRe1_w (by decide +kernel)) (Or.inl rfl)
    · refine zF_blk (m := []) (d := 0) (b := B51_2) (gs := [¬ (¬ (h 326 0 0) = v1)]) (c' := (16, [some (15, 0), some (0, v1)], [], (h, hm, o))) K51_2 rfl ⟨q2, trivial⟩ ?_
      refine zF_blk (m := []) (d := 0) (b := B51_1) (gs := []) (c' := (21, [some (15, 0), some (0, v1)], [(0, 1)], (h, hm, o))) K51_1 rfl trivial ?_
      obtain rfl := Option.some.inj e
      exact zF_rb (zRe1_w (by decide +kernel)) (Or.inr rfl)
noncomputable def B50_0 : List zRow := [(0, .aload_n 0, 1, (0, 0, 0)), (1, .iload_n 1, 1, (0, 0, 0))]
theorem K50_0 : zRk 50 B50_0 = true := zRw_ok (by decide +kernel)
noncomputable def B50_1 : List zRow := [(14, .aload_n 0, 1, (0, 0, 0))]
theorem K50_1 : zRk 50 B50_1 = true := zRw_ok (by decide +kernel)
noncomputable def B50_2 : List zRow := [(18, .iconst 1, 1, (0, 0, 0))]
theorem K50_2 : zRk 50 B50_2 = true := zRw_ok (by decide +kernel)
noncomputable def B50_3 : List zRow := [(8, .aload_n 0, 1, (0, 0, 0)), (9, .iconst 1, 1, (0, 0, 0))]
theorem K50_3 : zRk 50 B50_3 = true := zRw_ok (by decide +kernel)
noncomputable def B50_4 : List zRow := [(5, .ifCond .ne 9, 3, (0, 0, 0))]
theorem K50_4 : zRk 50 B50_4 = true := zRw_ok (by decide +kernel)
/-- EchoVale$Reader.passSign(I)Z -/
def F50 (v1 : Int) (h : zHC) : Option (Int × zHC) := (F51 v1 h).bind fun r1 => if ¬ r1 = 0 then (F21 h).bind fun r2 => some (1, r2) else (F31 1 h).bind fun r3 => zG (r3.1 = 0 ∨ r3.1 = 1) (some (r3.1, r3.2))
set_option maxRecDepth 100000 in
theorem S50 {spec : zRn zH2} {hm : zHM} {o : Int → Int} {d : Nat} (hd : 4 ≤ d) (v1 : Int) (h : zHC) (v : (Int × zHC)) (e : F50 v1 h = some v) : zRu2 spec d 50 [(15, 0), (0, v1)] (h, hm, o) (some (0, v.1)) (v.2, hm, o) := by
  refine zF_in (D := 3) (mx := 2) (L := [some (15, 0), some (0, v1)]) (by decide +kernel) rfl rfl hd (fun d hd => ?_)
  unfold F50 at e
  obtain ⟨r1, q1, e⟩ := zB_s e
  refine zF_blk (m := []) (d := 0) (b := B50_0) (gs := []) (c' := (2, [some (15, 0), some (0, v1)], [(0, v1), (15, 0)], (h, hm, o))) K50_0 rfl trivial ?_
  refine zF_call (k := 51) (cl := 5) (n := 2) (i := .invokevirtual 99) (args := [(15, 0), (0, v1)]) (rest := []) (g1 := (h, hm, o)) (r1 := some (0, r1)) (zCk1_w (by decide +kernel)) rfl rfl rfl (st' := [(0, r1)]) rfl (S51 (Nat.le_trans (by decide) hd) v1 h _ q1) ?_
  rcases zI_s e with ⟨q2, e⟩ | ⟨q2, e⟩
  · refine zF_blk (m := []) (d := 1) (b := B50_4) (gs := [¬ r1 = 0]) (c' := (14, [some (15, 0), some (0, v1)], [], (h, hm, o))) K50_4 rfl ⟨q2, trivial⟩ ?_
    obtain ⟨r2, q3, e⟩ := zB_s e
    refine zF_blk (m := []) (d := 0) (b := B50_1) (gs := []) (c' := (15, [some (15, 0), some (0, v1)], [(15, 0)], (h, hm, o))) K50_1 rfl trivial ?_
    refine zF_call (k := 21) (cl := 5) (n := 1) (i := .invokevirtual 54) (args := [(15, 0)]) (rest := []) (g1 := (r2, hm, o)) (r1 := none) (zCk1_w (by decide +kernel)) rfl rfl rfl (st' := []) rfl (S21 (Nat.le_trans (by decide) hd)  h _ q3) ?_
    refine zF_blk (m := []) (d := 0) (b := B50_2) (gs := []) (c' := (19, [some (15, 0), some (0, v1)], [(0, 1)], (r2, hm, o))) K50_2 rfl trivial ?_
    exact zF_rbC (zRe1_w (by decide +kernel)) (Or.inr rfl) e
  · refine zF_blk (m := []) (d := 0) (b := B50_4) (gs := [¬ (¬ r1 = 0)]) (c' := (8, [some (15, 0), some (0, v1)], [], (h, hm, o))) K50_4 rfl ⟨q2, trivial⟩ ?_
    obtain ⟨r3, q4, e⟩ := zB_s e
    refine zF_blk (m := []) (d := 0) (b := B50_3) (gs := []) (c' := (10, [some (15, 0), some (0, v1)], [(0, 1), (15, 0)], (h, hm, o))) K50_3 rfl trivial ?_
    refine zF_call (k := 31) (cl := 5) (n := 2) (i := .invokevirtual 96) (args := [(15, 0), (0, 1)]) (rest := []) (g1 := (r3.2, hm, o)) (r1 := some (0, r3.1)) (zCk1_w (by decide +kernel)) rfl rfl rfl (st' := [(0, r3.1)]) rfl (S31 (Nat.le_trans (by decide) hd) 1 h _ q4) ?_
    obtain ⟨q5, e⟩ := zG_s e
    exact zF_rbC (zRe1_w (by decide +kernel)) q5 e
noncomputable def B18_0 : List zRow := [(0, .aload_n 0, 1, (0, 0, 0)), (1, .getfield 12, 3, (10, 0, 167))]
theorem K18_0 : zRk 18 B18_0 = true := zRw_ok (by decide +kernel)
noncomputable def B18_1 : List zRow := [(7, .aload_n 0, 1, (0, 0, 0)), (8, .iconst 0, 1, (0, 0, 0)), (9, .putfield 25, 3, (10, 1, 0)), (12, .aload_n 0, 1, (0, 0, 0)), (13, .getfield 18, 3, (10, 2, 23)), (16, .sipush 900, 3, (0, 0, 0))]
theorem K18_1 : zRk 18 B18_1 = true := zRw_ok (by decide +kernel)
noncomputable def B18_2 : List zRow := [(22, .iconst 0, 1, (0, 0, 0)), (23, .istore_n 1, 1, (0, 0, 0))]
theorem K18_2 : zRk 18 B18_2 = true := zRw_ok (by decide +kernel)
noncomputable def B18_3 : List zRow := [(78, .iconst 1, 1, (0, 0, 0))]
theorem K18_3 : zRk 18 B18_3 = true := zRw_ok (by decide +kernel)
noncomputable def B18_4 : List zRow := [(31, .aload_n 0, 1, (0, 0, 0)), (32, .getfield 18, 3, (10, 2, 23))]
theorem K18_4 : zRk 18 B18_4 = true := zRw_ok (by decide +kernel)
noncomputable def B18_5 : List zRow := [(41, .aload_n 0, 1, (0, 0, 0))]
theorem K18_5 : zRk 18 B18_5 = true := zRw_ok (by decide +kernel)
noncomputable def B18_6 : List zRow := [(60, .iconst 0, 1, (0, 0, 0))]
theorem K18_6 : zRk 18 B18_6 = true := zRw_ok (by decide +kernel)
noncomputable def B18_7 : List zRow := [(48, .aload_n 0, 1, (0, 0, 0)), (49, .getfield 18, 3, (10, 2, 23)), (52, .bipush 59, 2, (0, 0, 0))]
theorem K18_7 : zRk 18 B18_7 = true := zRw_ok (by decide +kernel)
noncomputable def B18_8 : List zRow := [(62, .aload_n 0, 1, (0, 0, 0)), (63, .dup, 1, (0, 0, 0)), (64, .getfield 25, 3, (10, 1, 0)), (67, .iconst 1, 1, (0, 0, 0)), (68, .iadd, 1, (0, 0, 0)), (69, .putfield 25, 3, (10, 1, 0)), (72, .iinc 1 1, 3, (0, 0, 0)), (75, .goto (-51), 3, (0, 0, 0))]
theorem K18_8 : zRk 18 B18_8 = true := zRw_ok (by decide +kernel)
noncomputable def B18_9 : List zRow := [(57, .ifCond .ne 5, 3, (0, 0, 0))]
theorem K18_9 : zRk 18 B18_9 = true := zRw_ok (by decide +kernel)
noncomputable def B18_10 : List zRow := [(45, .ifCond .eq 15, 3, (0, 0, 0))]
theorem K18_10 : zRk 18 B18_10 = true := zRw_ok (by decide +kernel)
noncomputable def B18_11 : List zRow := [(38, .ifCond .ne 40, 3, (0, 0, 0))]
theorem K18_11 : zRk 18 B18_11 = true := zRw_ok (by decide +kernel)
noncomputable def B18_12 : List zRow := [(24, .iload_n 1, 1, (0, 0, 0)), (25, .sipush 940, 3, (0, 0, 0)), (28, .if_icmp .ge 50, 3, (0, 0, 0))]
theorem K18_12 : zRk 18 B18_12 = true := zRw_ok (by decide +kernel)
def F18_0 : Nat → Int → zHC → Option (Int × zHC)
  | 0, _, _ => none
  | n + 1, v1, h => if 940 ≤ v1 then some (1, h) else (F29 h).bind fun r1 => if ¬ r1 = 0 then some (1, h) else (F30 h).bind fun r2 => if r2.1 = 0 then some (0, r2.2) else (F50 59 r2.2).bind fun r3 => if ¬ r3.1 = 0 then (F18_0 n) (wadd v1 1) (hset r3.2 641 0 0 (wadd (r3.2 641 0 0) 1)) else some (0, r3.2)
set_option maxRecDepth 100000 in
theorem T18_0 {spec : zRn zH2} {hm : zHM} {o : Int → Int} {d : Nat} (hd : 6 ≤ d) : ∀ (n : Nat) (v1 : Int) (h : zHC) (v : (Int × zHC)), F18_0 n v1 h = some v → zFin 0 (fun _ => 0) (zRu2 spec d) 18 (some (0, v.1)) (v.2, hm, o) (24, [some (20, 0), some (0, v1)], [], (h, hm, o)) := by
  intro n
  induction n with
  | zero => intro v1 h v e; unfold F18_0 at e; cases e
  | succ n hk0 =>
    intro v1 h v e
    unfold F18_0 at e
    rcases zI_s e with ⟨q1, e⟩ | ⟨q1, e⟩
    · refine zF_blk (m := []) (d := 1) (b := B18_12) (gs := [940 ≤ v1]) (c' := (78, [some (20, 0), some (0, v1)], [], (h, hm, o))) K18_12 rfl ⟨q1, trivial⟩ ?_
      refine zF_blk (m := []) (d := 0) (b := B18_3) (gs := []) (c' := (79, [some (20, 0), some (0, v1)], [(0, 1)], (h, hm, o))) K18_3 rfl trivial ?_
      exact zF_rbC (zRe1_w (by decide +kernel)) (Or.inr rfl) e
    · refine zF_blk (m := []) (d := 0) (b := B18_12) (gs := [¬ (940 ≤ v1)]) (c' := (31, [some (20, 0), some (0, v1)], [], (h, hm, o))) K18_12 rfl ⟨q1, trivial⟩ ?_
      obtain ⟨r1, q2, e⟩ := zB_s e
      refine zF_blk (m := []) (d := 0) (b := B18_4) (gs := []) (c' := (35, [some (20, 0), some (0, v1)], [(15, 0)], (h, hm, o))) K18_4 rfl trivial ?_
      refine zF_call (k := 29) (cl := 5) (n := 1) (i := .invokevirtual 35) (args := [(15, 0)]) (rest := []) (g1 := (h, hm, o)) (r1 := some (0, r1)) (zCk1_w (by decide +kernel)) rfl rfl rfl (st' := [(0, r1)]) rfl (S29 (Nat.le_trans (by decide) hd)  h _ q2) ?_
      rcases zI_s e with ⟨q3, e⟩ | ⟨q3, e⟩
      · refine zF_blk (m := []) (d := 1) (b := B18_11) (gs := [¬ r1 = 0]) (c' := (78, [some (20, 0), some (0, v1)], [], (h, hm, o))) K18_11 rfl ⟨q3, trivial⟩ ?_
        refine zF_blk (m := []) (d := 0) (b := B18_3) (gs := []) (c' := (79, [some (20, 0), some (0, v1)], [(0, 1)], (h, hm, o))) K18_3 rfl trivial ?_
        exact zF_rbC (zRe1_w (by decide +kernel)) (Or.inr rfl) e
      · refine zF_blk (m := []) (d := 0) (b := B18_11) (gs := [¬ (¬ r1 = 0)]) (c' := (41, [some (20, 0), some (0, v1)], [], (h, hm, o))) K18_11 rfl ⟨q3, trivial⟩ ?_
        obtain ⟨r2, q4, e⟩ := zB_s e
        refine zF_blk (m := []) (d := 0) (b := B18_5) (gs := []) (c' := (42, [some (20, 0), some (0, v1)], [(20, 0)], (h, hm, o))) K18_5 rfl trivial ?_
        refine zF_call (k := 30) (cl := 10) (n := 1) (i := .invokevirtual 39) (args := [(20, 0)]) (rest := []) (g1 := (r2.2, hm, o)) (r1 := some (0, r2.1)) (zCk1_w (by decide +kernel)) rfl rfl rfl (st' := [(0, r2.1)]) rfl (S30 (Nat.le_trans (by decide) hd)  h _ q4) ?_
        rcases zI_s e with ⟨q5, e⟩ | ⟨q5, e⟩
        · refine zF_blk (m := []) (d := 1) (b := B18_10) (gs := [r2.1 = 0]) (c' := (60, [some (20, 0), some (0, v1)], [], (r2.2, hm, o))) K18_10 rfl ⟨q5, trivial⟩ ?_
          refine zF_blk (m := []) (d := 0) (b := B18_6) (gs := []) (c' := (61, [some (20, 0), some (0, v1)], [(0, 0)], (r2.2, hm, o))) K18_6 rfl trivial ?_
          exact zF_rbC (zRe1_w (by decide +kernel)) (Or.inl rfl) e
        · refine zF_blk (m := []) (d := 0) (b := B18_10) (gs := [¬ (r2.1 = 0)]) (c' := (48, [some (20, 0), some (0, v1)], [], (r2.2, hm, o))) K18_10 rfl ⟨q5, trivial⟩ ?_
          obtain ⟨r3, q6, e⟩ := zB_s e
          refine zF_blk (m := []) (d := 0) (b := B18_7) (gs := []) (c' := (54, [some (20, 0), some (0, v1)], [(0, 59), (15, 0)], (r2.2, hm, o))) K18_7 rfl trivial ?_
          refine zF_call (k := 50) (cl := 5) (n := 2) (i := .invokevirtual 42) (args := [(15, 0), (0, 59)]) (rest := []) (g1 := (r3.2, hm, o)) (r1 := some (0, r3.1)) (zCk1_w (by decide +kernel)) rfl rfl rfl (st' := [(0, r3.1)]) rfl (S50 (Nat.le_trans (by decide) hd) 59 r2.2 _ q6) ?_
          rcases zI_s e with ⟨q7, e⟩ | ⟨q7, e⟩
          · refine zF_blk (m := []) (d := 1) (b := B18_9) (gs := [¬ r3.1 = 0]) (c' := (62, [some (20, 0), some (0, v1)], [], (r3.2, hm, o))) K18_9 rfl ⟨q7, trivial⟩ ?_
            refine zF_blk (m := []) (d := 0) (b := B18_8) (gs := []) (c' := (24, [some (20, 0), some (0, (wadd v1 1))], [], ((hset r3.2 641 0 0 (wadd (r3.2 641 0 0) 1)), hm, o))) K18_8 rfl trivial ?_
            exact hk0 (wadd v1 1) (hset r3.2 641 0 0 (wadd (r3.2 641 0 0) 1)) _ e
          · refine zF_blk (m := []) (d := 0) (b := B18_9) (gs := [¬ (¬ r3.1 = 0)]) (c' := (60, [some (20, 0), some (0, v1)], [], (r3.2, hm, o))) K18_9 rfl ⟨q7, trivial⟩ ?_
            refine zF_blk (m := []) (d := 0) (b := B18_6) (gs := []) (c' := (61, [some (20, 0), some (0, v1)], [(0, 0)], (r3.2, hm, o))) K18_6 rfl trivial ?_
            exact zF_rbC (zRe1_w (by decide +kernel)) (Or.inl rfl) e
/-- EchoVale$ValleyText.readText()Z -/
def F18 (h : zHC) : Option (Int × zHC) := (F19 1 h).bind fun r1 => (F20 900 (hset r1 641 0 0 0)).bind fun r2 => F18_0 zFu 0 r2
set_option maxRecDepth 100000 in
theorem S18 {spec : zRn zH2} {hm : zHM} {o : Int → Int} {d : Nat} (hd : 7 ≤ d) (h : zHC) (v : (Int × zHC)) (e : F18 h = some v) : zRu2 spec d 18 [(20, 0)] (h, hm, o) (some (0, v.1)) (v.2, hm, o) := by
  refine zF_in (D := 6) (mx := 2) (L := [some (20, 0), none]) (by decide +kernel) rfl rfl hd (fun d hd => ?_)
  unfold F18 at e
  obtain ⟨r1, q1, e⟩ := zB_s e
  refine zF_blk (m := []) (d := 0) (b := B18_0) (gs := []) (c' := (4, [some (20, 0), none], [(19, 1)], (h, hm, o))) K18_0 rfl trivial ?_
  refine zF_call (k := 19) (cl := 9) (n := 1) (i := .invokevirtual 22) (args := [(19, 1)]) (rest := []) (g1 := (r1, hm, o)) (r1 := none) (zCk1_w (by decide +kernel)) rfl rfl rfl (st' := []) rfl (S19 (Nat.le_trans (by decide) hd) 1 h _ q1) ?_
  obtain ⟨r2, q2, e⟩ := zB_s e
  refine zF_blk (m := []) (d := 0) (b := B18_1) (gs := []) (c' := (19, [some (20, 0), none], [(0, 900), (15, 0)], ((hset r1 641 0 0 0), hm, o))) K18_1 rfl trivial ?_
  refine zF_call (k := 20) (cl := 5) (n := 2) (i := .invokevirtual 29) (args := [(15, 0), (0, 900)]) (rest := []) (g1 := (r2, hm, o)) (r1 := none) (zCk1_w (by decide +kernel)) rfl rfl rfl (st' := []) rfl (S20 (Nat.le_trans (by decide) hd) 900 (hset r1 641 0 0 0) _ q2) ?_
  refine zF_blk (m := []) (d := 0) (b := B18_2) (gs := []) (c' := (24, [some (20, 0), some (0, 0)], [], (r2, hm, o))) K18_2 rfl trivial ?_
  exact T18_0 hd zFu 0 r2 _ e
noncomputable def B52_0 : List zRow := [(0, .aload_n 0, 1, (0, 0, 0)), (1, .aload_n 1, 1, (0, 0, 0)), (2, .getfield 52, 3, (9, 0, 0)), (5, .putfield 52, 3, (9, 0, 0)), (8, .aload_n 0, 1, (0, 0, 0)), (9, .aload_n 1, 1, (0, 0, 0)), (10, .getfield 56, 3, (9, 1, 0)), (13, .putfield 56, 3, (9, 1, 0)), (16, .aload_n 0, 1, (0, 0, 0)), (17, .aload_n 1, 1, (0, 0, 0)), (18, .getfield 59, 3, (9, 2, 0)), (21, .putfield 59, 3, (9, 2, 0)), (24, .aload_n 0, 1, (0, 0, 0)), (25, .aload_n 1, 1, (0, 0, 0)), (26, .getfield 62, 3, (9, 3, 0)), (29, .putfield 62, 3, (9, 3, 0)), (32, .aload_n 0, 1, (0, 0, 0)), (33, .aload_n 1, 1, (0, 0, 0)), (34, .getfield 65, 3, (9, 4, 0)), (37, .putfield 65, 3, (9, 4, 0)), (40, .aload_n 0, 1, (0, 0, 0)), (41, .aload_n 1, 1, (0, 0, 0)), (42, .getfield 68, 3, (9, 5, 0)), (45, .putfield 68, 3, (9, 5, 0)), (48, .aload_n 0, 1, (0, 0, 0)), (49, .aload_n 1, 1, (0, 0, 0)), (50, .getfield 71, 3, (9, 6, 0)), (53, .putfield 71, 3, (9, 6, 0)), (56, .aload_n 1, 1, (0, 0, 0)), (57, .getfield 9, 3, (9, 7, 5505050)), (60, .iconst 0, 1, (0, 0, 0)), (61, .aload_n 0, 1, (0, 0, 0)), (62, .getfield 9, 3, (9, 7, 5505050)), (65, .iconst 0, 1, (0, 0, 0)), (66, .bipush 6, 2, (0, 0, 0)), (68, .invokestatic 74, 3, (5001, 0, 0)), (71, .aload_n 1, 1, (0, 0, 0)), (72, .getfield 15, 3, (9, 8, 5242906)), (75, .iconst 0, 1, (0, 0, 0)), (76, .aload_n 0, 1, (0, 0, 0)), (77, .getfield 15, 3, (9, 8, 5242906)), (80, .iconst 0, 1, (0, 0, 0)), (81, .bipush 6, 2, (0, 0, 0)), (83, .invokestatic 74, 3, (5001, 0, 0)), (86, .aload_n 1, 1, (0, 0, 0)), (87, .getfield 19, 3, (9, 9, 5242906)), (90, .iconst 0, 1, (0, 0, 0)), (91, .aload_n 0, 1, (0, 0, 0)), (92, .getfield 19, 3, (9, 9, 5242906)), (95, .iconst 0, 1, (0, 0, 0)), (96, .bipush 6, 2, (0, 0, 0)), (98, .invokestatic 74, 3, (5001, 0, 0)), (101, .aload_n 1, 1, (0, 0, 0)), (102, .getfield 22, 3, (9, 10, 5242906)), (105, .iconst 0, 1, (0, 0, 0)), (106, .aload_n 0, 1, (0, 0, 0)), (107, .getfield 22, 3, (9, 10, 5242906)), (110, .iconst 0, 1, (0, 0, 0)), (111, .bipush 6, 2, (0, 0, 0)), (113, .invokestatic 74, 3, (5001, 0, 0)), (116, .aload_n 1, 1, (0, 0, 0)), (117, .getfield 25, 3, (9, 11, 5505050)), (120, .iconst 0, 1, (0, 0, 0)), (121, .aload_n 0, 1, (0, 0, 0)), (122, .getfield 25, 3, (9, 11, 5505050)), (125, .iconst 0, 1, (0, 0, 0)), (126, .bipush 6, 2, (0, 0, 0)), (128, .invokestatic 74, 3, (5001, 0, 0)), (131, .aload_n 1, 1, (0, 0, 0)), (132, .getfield 28, 3, (9, 12, 5242906)), (135, .iconst 0, 1, (0, 0, 0)), (136, .aload_n 0, 1, (0, 0, 0)), (137, .getfield 28, 3, (9, 12, 5242906)), (140, .iconst 0, 1, (0, 0, 0)), (141, .bipush 6, 2, (0, 0, 0)), (143, .invokestatic 74, 3, (5001, 0, 0)), (146, .aload_n 1, 1, (0, 0, 0)), (147, .getfield 31, 3, (9, 13, 5242906)), (150, .iconst 0, 1, (0, 0, 0)), (151, .aload_n 0, 1, (0, 0, 0)), (152, .getfield 31, 3, (9, 13, 5242906)), (155, .iconst 0, 1, (0, 0, 0)), (156, .bipush 6, 2, (0, 0, 0)), (158, .invokestatic 74, 3, (5001, 0, 0)), (161, .aload_n 1, 1, (0, 0, 0)), (162, .getfield 34, 3, (9, 14, 5242962)), (165, .iconst 0, 1, (0, 0, 0)), (166, .aload_n 0, 1, (0, 0, 0)), (167, .getfield 34, 3, (9, 14, 5242962)), (170, .iconst 0, 1, (0, 0, 0)), (171, .bipush 20, 2, (0, 0, 0)), (173, .invokestatic 74, 3, (5001, 0, 0)), (176, .aload_n 1, 1, (0, 0, 0)), (177, .getfield 37, 3, (9, 15, 5242962)), (180, .iconst 0, 1, (0, 0, 0)), (181, .aload_n 0, 1, (0, 0, 0)), (182, .getfield 37, 3, (9, 15, 5242962)), (185, .iconst 0, 1, (0, 0, 0)), (186, .bipush 20, 2, (0, 0, 0)), (188, .invokestatic 74, 3, (5001, 0, 0)), (191, .aload_n 1, 1, (0, 0, 0)), (192, .getfield 40, 3, (9, 16, 5242962)), (195, .iconst 0, 1, (0, 0, 0)), (196, .aload_n 0, 1, (0, 0, 0)), (197, .getfield 40, 3, (9, 16, 5242962)), (200, .iconst 0, 1, (0, 0, 0)), (201, .bipush 20, 2, (0, 0, 0)), (203, .invokestatic 74, 3, (5001, 0, 0)), (206, .aload_n 1, 1, (0, 0, 0)), (207, .getfield 43, 3, (9, 17, 5242914)), (210, .iconst 0, 1, (0, 0, 0)), (211, .aload_n 0, 1, (0, 0, 0)), (212, .getfield 43, 3, (9, 17, 5242914)), (215, .iconst 0, 1, (0, 0, 0)), (216, .bipush 8, 2, (0, 0, 0)), (218, .invokestatic 74, 3, (5001, 0, 0)), (221, .aload_n 1, 1, (0, 0, 0)), (222, .getfield 46, 3, (9, 18, 5242906)), (225, .iconst 0, 1, (0, 0, 0)), (226, .aload_n 0, 1, (0, 0, 0)), (227, .getfield 46, 3, (9, 18, 5242906)), (230, .iconst 0, 1, (0, 0, 0)), (231, .bipush 6, 2, (0, 0, 0)), (233, .invokestatic 74, 3, (5001, 0, 0)), (236, .aload_n 1, 1, (0, 0, 0)), (237, .getfield 49, 3, (9, 19, 5242906)), (240, .iconst 0, 1, (0, 0, 0)), (241, .aload_n 0, 1, (0, 0, 0)), (242, .getfield 49, 3, (9, 19, 5242906)), (245, .iconst 0, 1, (0, 0, 0)), (246, .bipush 6, 2, (0, 0, 0)), (248, .invokestatic 74, 3, (5001, 0, 0))]
theorem K52_0 : zRk 52 B52_0 = true := zRw_ok (by decide +kernel)
/-- EchoVale$Valley.copyFrom(LEchoVale$Valley;)V -/
def F52 (v0 : Int) (v1 : Int) (h : zHC) : Option zHC := some (hcpy (hcpy (hcpy (hcpy (hcpy (hcpy (hcpy (hcpy (hcpy (hcpy (hcpy (hcpy (hcpy (hset (hset (hset (hset (hset (hset (hset h 576 v0 0 (h 576 v1 0)) 577 v0 0 (h 577 v1 0)) 578 v0 0 (h 578 v1 0)) 579 v0 0 (h 579 v1 0)) 580 v0 0 (h 580 v1 0)) 581 v0 0 (h 581 v1 0)) 582 v0 0 (h 582 v1 0)) 583 v0 583 v1 0 0 6) 584 v0 584 v1 0 0 6) 585 v0 585 v1 0 0 6) 586 v0 586 v1 0 0 6) 587 v0 587 v1 0 0 6) 588 v0 588 v1 0 0 6) 589 v0 589 v1 0 0 6) 590 v0 590 v1 0 0 20) 591 v0 591 v1 0 0 20) 592 v0 592 v1 0 0 20) 593 v0 593 v1 0 0 8) 594 v0 594 v1 0 0 6) 595 v0 595 v1 0 0 6)
set_option maxRecDepth 100000 in
theorem S52 {spec : zRn zH2} {hm : zHM} {o : Int → Int} {d : Nat} (hd : 1 ≤ d) (v0 : Int) (v1 : Int) (h : zHC) (v : zHC) (e : F52 v0 v1 h = some v) : zRu2 spec d 52 [(19, v0), (19, v1)] (h, hm, o) none (v, hm, o) := by
  refine zF_in (D := 0) (mx := 2) (L := [some (19, v0), some (19, v1)]) (by decide +kernel) rfl rfl hd (fun d hd => ?_)
  unfold F52 at e
  refine zF_blk (m := []) (d := 0) (b := B52_0) (gs := [0 ≤ 0, 0 ≤ 0, 0 ≤ 6, 0 + 6 ≤ 6, 0 + 6 ≤ 6, 0 ≤ 0, 0 ≤ 0, 0 ≤ 6, 0 + 6 ≤ 6, 0 + 6 ≤ 6, 0 ≤ 0, 0 ≤ 0, 0 ≤ 6, 0 + 6 ≤ 6, 0 + 6 ≤ 6, 0 ≤ 0, 0 ≤ 0, 0 ≤ 6, 0 + 6 ≤ 6, 0 + 6 ≤ 6, 0 ≤ 0, 0 ≤ 0, 0 ≤ 6, 0 + 6 ≤ 6, 0 + 6 ≤ 6, 0 ≤ 0, 0 ≤ 0, 0 ≤ 6, 0 + 6 ≤ 6, 0 + 6 ≤ 6, 0 ≤ 0, 0 ≤ 0, 0 ≤ 6, 0 + 6 ≤ 6, 0 + 6 ≤ 6, 0 ≤ 0, 0 ≤ 0, 0 ≤ 20, 0 + 20 ≤ 20, 0 + 20 ≤ 20, 0 ≤ 0, 0 ≤ 0, 0 ≤ 20, 0 + 20 ≤ 20, 0 + 20 ≤ 20, 0 ≤ 0, 0 ≤ 0, 0 ≤ 20, 0 + 20 ≤ 20, 0 + 20 ≤ 20, 0 ≤ 0, 0 ≤ 0, 0 ≤ 8, 0 + 8 ≤ 8, 0 + 8 ≤ 8, 0 ≤ 0, 0 ≤ 0, 0 ≤ 6, 0 + 6 ≤ 6, 0 + 6 ≤ 6, 0 ≤ 0, 0 ≤ 0, 0 ≤ 6, 0 + 6 ≤ 6, 0 + 6 ≤ 6]) (c' := (251, [some (19, v0), some (19, v1)], [], ((hcpy (hcpy (hcpy (hcpy (hcpy (hcpy (hcpy (hcpy (hcpy (hcpy (hcpy (hcpy (hcpy (hset (hset (hset (hset (hset (hset (hset h 576 v0 0 (h 576 v1 0)) 577 v0 0 (h 577 v1 0)) 578 v0 0 (h 578 v1 0)) 579 v0 0 (h 579 v1 0)) 580 v0 0 (h 580 v1 0)) 581 v0 0 (h 581 v1 0)) 582 v0 0 (h 582 v1 0)) 583 v0 583 v1 0 0 6) 584 v0 584 v1 0 0 6) 585 v0 585 v1 0 0 6) 586 v0 586 v1 0 0 6) 587 v0 587 v1 0 0 6) 588 v0 588 v1 0 0 6) 589 v0 589 v1 0 0 6) 590 v0 590 v1 0 0 20) 591 v0 591 v1 0 0 20) 592 v0 592 v1 0 0 20) 593 v0 593 v1 0 0 8) 594 v0 594 v1 0 0 6) 595 v0 595 v1 0 0 6), hm, o))) K52_0 rfl ⟨by decide, by decide, by decide, by decide, by decide, by decide, by decide, by decide, by decide, by decide, by decide, by decide, by decide, by decide, by decide, by decide, by decide, by decide, by decide, by decide, by decide, by decide, by decide, by decide, by decide, by decide, by decide, by decide, by decide, by decide, by decide, by decide, by decide, by decide, by decide, by decide, by decide, by decide, by decide, by decide, by decide, by decide, by decide, by decide, by decide, by decide, by decide, by decide, by decide, by decide, by decide, by decide, by decide, by decide, by decide, by decide, by decide, by decide, by decide, by decide, by decide, by decide, by decide, by decide, by decide, trivial⟩ ?_
  obtain rfl := Option.some.inj e
  exact zF_rv (zRe1_w (by decide +kernel))
noncomputable def B53_0 : List zRow := [(0, .aload_n 0, 1, (0, 0, 0)), (1, .iconst 0, 1, (0, 0, 0)), (2, .putfield 30, 3, (1, 0, 0)), (5, .aload_n 0, 1, (0, 0, 0)), (6, .iconst 0, 1, (0, 0, 0)), (7, .putfield 34, 3, (1, 1, 0)), (10, .aload_n 0, 1, (0, 0, 0)), (11, .iconst 0, 1, (0, 0, 0)), (12, .putfield 37, 3, (1, 2, 0)), (15, .aload_n 1, 1, (0, 0, 0)), (16, .getfield 40, 3, (9, 12, 5242906)), (19, .iconst 0, 1, (0, 0, 0)), (20, .aload_n 0, 1, (0, 0, 0)), (21, .getfield 9, 3, (1, 3, 5242906)), (24, .iconst 0, 1, (0, 0, 0)), (25, .bipush 6, 2, (0, 0, 0)), (27, .invokestatic 45, 3, (5001, 0, 0))]
theorem K53_0 : zRk 53 B53_0 = true := zRw_ok (by decide +kernel)
/-- EchoVale$Course.begin(LEchoVale$Valley;)V -/
def F53 (v0 : Int) (v1 : Int) (h : zHC) : Option zHC := some (hcpy (hset (hset (hset h 64 v0 0 0) 65 v0 0 0) 66 v0 0 0) 67 v0 588 v1 0 0 6)
set_option maxRecDepth 100000 in
theorem S53 {spec : zRn zH2} {hm : zHM} {o : Int → Int} {d : Nat} (hd : 1 ≤ d) (v0 : Int) (v1 : Int) (h : zHC) (v : zHC) (e : F53 v0 v1 h = some v) : zRu2 spec d 53 [(11, v0), (19, v1)] (h, hm, o) none (v, hm, o) := by
  refine zF_in (D := 0) (mx := 2) (L := [some (11, v0), some (19, v1)]) (by decide +kernel) rfl rfl hd (fun d hd => ?_)
  unfold F53 at e
  refine zF_blk (m := []) (d := 0) (b := B53_0) (gs := [0 ≤ 0, 0 ≤ 0, 0 ≤ 6, 0 + 6 ≤ 6, 0 + 6 ≤ 6]) (c' := (30, [some (11, v0), some (19, v1)], [], ((hcpy (hset (hset (hset h 64 v0 0 0) 65 v0 0 0) 66 v0 0 0) 67 v0 588 v1 0 0 6), hm, o))) K53_0 rfl ⟨by decide, by decide, by decide, by decide, by decide, trivial⟩ ?_
  obtain rfl := Option.some.inj e
  exact zF_rv (zRe1_w (by decide +kernel))
noncomputable def B54_0 : List zRow := [(0, .aload_n 0, 1, (0, 0, 0)), (1, .iconst 0, 1, (0, 0, 0)), (2, .putfield 19, 3, (6, 0, 0)), (5, .aload_n 0, 1, (0, 0, 0)), (6, .iconst 0, 1, (0, 0, 0)), (7, .putfield 23, 3, (6, 1, 0))]
theorem K54_0 : zRk 54 B54_0 = true := zRw_ok (by decide +kernel)
/-- EchoVale$Sentence.clear()V -/
def F54 (v0 : Int) (h : zHC) : Option zHC := some (hset (hset h 384 v0 0 0) 385 v0 0 0)
set_option maxRecDepth 100000 in
theorem S54 {spec : zRn zH2} {hm : zHM} {o : Int → Int} {d : Nat} (hd : 1 ≤ d) (v0 : Int) (h : zHC) (v : zHC) (e : F54 v0 h = some v) : zRu2 spec d 54 [(16, v0)] (h, hm, o) none (v, hm, o) := by
  refine zF_in (D := 0) (mx := 1) (L := [some (16, v0)]) (by decide +kernel) rfl rfl hd (fun d hd => ?_)
  unfold F54 at e
  refine zF_blk (m := []) (d := 0) (b := B54_0) (gs := []) (c' := (10, [some (16, v0)], [], ((hset (hset h 384 v0 0 0) 385 v0 0 0), hm, o))) K54_0 rfl trivial ?_
  obtain rfl := Option.some.inj e
  exact zF_rv (zRe1_w (by decide +kernel))
noncomputable def B55_0 : List zRow := [(0, .aload_n 0, 1, (0, 0, 0)), (1, .iconst 0, 1, (0, 0, 0)), (2, .putfield 18, 3, (8, 0, 0))]
theorem K55_0 : zRk 55 B55_0 = true := zRw_ok (by decide +kernel)
/-- EchoVale$Undo.forget()V -/
def F55 (h : zHC) : Option zHC := some (hset h 512 0 0 0)
set_option maxRecDepth 100000 in
theorem S55 {spec : zRn zH2} {hm : zHM} {o : Int → Int} {d : Nat} (hd : 1 ≤ d) (h : zHC) (v : zHC) (e : F55 h = some v) : zRu2 spec d 55 [(18, 0)] (h, hm, o) none (v, hm, o) := by
  refine zF_in (D := 0) (mx := 1) (L := [some (18, 0)]) (by decide +kernel) rfl rfl hd (fun d hd => ?_)
  unfold F55 at e
  refine zF_blk (m := []) (d := 0) (b := B55_0) (gs := []) (c' := (5, [some (18, 0)], [], ((hset h 512 0 0 0), hm, o))) K55_0 rfl trivial ?_
  obtain rfl := Option.some.inj e
  exact zF_rv (zRe1_w (by decide +kernel))
noncomputable def B17_0 : List zRow := [(0, .aload_n 0, 1, (0, 0, 0)), (1, .getfield 28, 3, (11, 2, 43))]
theorem K17_0 : zRk 17 B17_0 = true := zRw_ok (by decide +kernel)
noncomputable def B17_1 : List zRow := [(30, .aload_n 0, 1, (0, 0, 0)), (31, .getfield 19, 3, (11, 1, 39)), (34, .aload_n 0, 1, (0, 0, 0)), (35, .getfield 28, 3, (11, 2, 43)), (38, .getfield 119, 3, (10, 0, 167))]
theorem K17_1 : zRk 17 B17_1 = true := zRw_ok (by decide +kernel)
noncomputable def B17_2 : List zRow := [(44, .aload_n 0, 1, (0, 0, 0)), (45, .getfield 56, 3, (11, 6, 7)), (48, .aload_n 0, 1, (0, 0, 0)), (49, .getfield 19, 3, (11, 1, 39))]
theorem K17_2 : zRk 17 B17_2 = true := zRw_ok (by decide +kernel)
noncomputable def B17_3 : List zRow := [(55, .aload_n 0, 1, (0, 0, 0)), (56, .getfield 42, 3, (11, 4, 27))]
theorem K17_3 : zRk 17 B17_3 = true := zRw_ok (by decide +kernel)
noncomputable def B17_4 : List zRow := [(62, .aload_n 0, 1, (0, 0, 0)), (63, .getfield 66, 3, (11, 8, 35))]
theorem K17_4 : zRk 17 B17_4 = true := zRw_ok (by decide +kernel)
noncomputable def B17_5 : List zRow := [(69, .aload_n 0, 1, (0, 0, 0)), (70, .getfield 28, 3, (11, 2, 43)), (73, .getfield 133, 3, (10, 1, 0))]
theorem K17_5 : zRk 17 B17_5 = true := zRw_ok (by decide +kernel)
noncomputable def B17_6 : List zRow := [(20, .iconst (-1), 1, (0, 0, 0)), (21, .aload_n 0, 1, (0, 0, 0)), (22, .getfield 12, 3, (11, 0, 23)), (25, .getfield 116, 3, (5, 3, 0))]
theorem K17_6 : zRk 17 B17_6 = true := zRw_ok (by decide +kernel)
noncomputable def B17_7 : List zRow := [(28, .isub, 1, (0, 0, 0))]
theorem K17_7 : zRk 17 B17_7 = true := zRw_ok (by decide +kernel)
noncomputable def B17_8 : List zRow := [(7, .istore_n 1, 1, (0, 0, 0)), (8, .aload_n 0, 1, (0, 0, 0)), (9, .getfield 12, 3, (11, 0, 23)), (12, .iconst 0, 1, (0, 0, 0)), (13, .putfield 105, 3, (5, 1, 0)), (16, .iload_n 1, 1, (0, 0, 0)), (17, .ifCond .ne 13, 3, (0, 0, 0))]
theorem K17_8 : zRk 17 B17_8 = true := zRw_ok (by decide +kernel)
/-- EchoVale.valley()I -/
def F17 (h : zHC) : Option (Int × zHC) := (F18 h).bind fun r1 => if ¬ r1.1 = 0 then (F52 0 1 (hset r1.2 321 0 0 0)).bind fun r2 => (F53 0 0 r2).bind fun r3 => (F54 0 r3).bind fun r4 => (F55 r4).bind fun r5 => some ((r5 641 0 0), r5) else some ((wsub (-1) (r1.2 323 0 0)), (hset r1.2 321 0 0 0))
set_option maxRecDepth 100000 in
theorem S17 {spec : zRn zH2} {hm : zHM} {o : Int → Int} {d : Nat} (hd : 8 ≤ d) (h : zHC) (v : (Int × zHC)) (e : F17 h = some v) : zRu2 spec d 17 [(21, 0)] (h, hm, o) (some (0, v.1)) (v.2, hm, o) := by
  refine zF_in (D := 7) (mx := 2) (L := [some (21, 0), none]) (by decide +kernel) rfl rfl hd (fun d hd => ?_)
  unfold F17 at e
  obtain ⟨r1, q1, e⟩ := zB_s e
  refine zF_blk (m := []) (d := 0) (b := B17_0) (gs := []) (c' := (4, [some (21, 0), none], [(20, 0)], (h, hm, o))) K17_0 rfl trivial ?_
  refine zF_call (k := 18) (cl := 10) (n := 1) (i := .invokevirtual 112) (args := [(20, 0)]) (rest := []) (g1 := (r1.2, hm, o)) (r1 := some (0, r1.1)) (zCk1_w (by decide +kernel)) rfl rfl rfl (st' := [(0, r1.1)]) rfl (S18 (Nat.le_trans (by decide) hd)  h _ q1) ?_
  rcases zI_s e with ⟨q2, e⟩ | ⟨q2, e⟩
  · refine zF_blk (m := []) (d := 1) (b := B17_8) (gs := [¬ r1.1 = 0]) (c' := (30, [some (21, 0), some (0, r1.1)], [], ((hset r1.2 321 0 0 0), hm, o))) K17_8 rfl ⟨q2, trivial⟩ ?_
    obtain ⟨r2, q3, e⟩ := zB_s e
    refine zF_blk (m := []) (d := 0) (b := B17_1) (gs := []) (c' := (41, [some (21, 0), some (0, r1.1)], [(19, 1), (19, 0)], ((hset r1.2 321 0 0 0), hm, o))) K17_1 rfl trivial ?_
    refine zF_call (k := 52) (cl := 9) (n := 2) (i := .invokevirtual 120) (args := [(19, 0), (19, 1)]) (rest := []) (g1 := (r2, hm, o)) (r1 := none) (zCk1_w (by decide +kernel)) rfl rfl rfl (st' := []) rfl (S52 (Nat.le_trans (by decide) hd) 0 1 (hset r1.2 321 0 0 0) _ q3) ?_
    obtain ⟨r3, q4, e⟩ := zB_s e
    refine zF_blk (m := []) (d := 0) (b := B17_2) (gs := []) (c' := (52, [some (21, 0), some (0, r1.1)], [(19, 0), (11, 0)], (r2, hm, o))) K17_2 rfl trivial ?_
    refine zF_call (k := 53) (cl := 1) (n := 2) (i := .invokevirtual 124) (args := [(11, 0), (19, 0)]) (rest := []) (g1 := (r3, hm, o)) (r1 := none) (zCk1_w (by decide +kernel)) rfl rfl rfl (st' := []) rfl (S53 (Nat.le_trans (by decide) hd) 0 0 r2 _ q4) ?_
    obtain ⟨r4, q5, e⟩ := zB_s e
    refine zF_blk (m := []) (d := 0) (b := B17_3) (gs := []) (c' := (59, [some (21, 0), some (0, r1.1)], [(16, 0)], (r3, hm, o))) K17_3 rfl trivial ?_
    refine zF_call (k := 54) (cl := 6) (n := 1) (i := .invokevirtual 127) (args := [(16, 0)]) (rest := []) (g1 := (r4, hm, o)) (r1 := none) (zCk1_w (by decide +kernel)) rfl rfl rfl (st' := []) rfl (S54 (Nat.le_trans (by decide) hd) 0 r3 _ q5) ?_
    obtain ⟨r5, q6, e⟩ := zB_s e
    refine zF_blk (m := []) (d := 0) (b := B17_4) (gs := []) (c' := (66, [some (21, 0), some (0, r1.1)], [(18, 0)], (r4, hm, o))) K17_4 rfl trivial ?_
    refine zF_call (k := 55) (cl := 8) (n := 1) (i := .invokevirtual 130) (args := [(18, 0)]) (rest := []) (g1 := (r5, hm, o)) (r1 := none) (zCk1_w (by decide +kernel)) rfl rfl rfl (st' := []) rfl (S55 (Nat.le_trans (by decide) hd)  r4 _ q6) ?_
    refine zF_blk (m := []) (d := 0) (b := B17_5) (gs := []) (c' := (76, [some (21, 0), some (0, r1.1)], [(0, (r5 641 0 0))], (r5, hm, o))) K17_5 rfl trivial ?_
    exact zF_riC (zRe1_w (by decide +kernel)) e
  · refine zF_blk (m := []) (d := 0) (b := B17_8) (gs := [¬ (¬ r1.1 = 0)]) (c' := (20, [some (21, 0), some (0, r1.1)], [], ((hset r1.2 321 0 0 0), hm, o))) K17_8 rfl ⟨q2, trivial⟩ ?_
    refine zF_blk (m := []) (d := 0) (b := B17_6) (gs := []) (c' := (28, [some (21, 0), some (0, r1.1)], [(0, (r1.2 323 0 0)), (0, (-1))], ((hset r1.2 321 0 0 0), hm, o))) K17_6 rfl trivial ?_
    refine zF_blk (m := []) (d := 0) (b := B17_7) (gs := []) (c' := (29, [some (21, 0), some (0, r1.1)], [(0, (wsub (-1) (r1.2 323 0 0)))], ((hset r1.2 321 0 0 0), hm, o))) K17_7 rfl trivial ?_
    exact zF_riC (zRe1_w (by decide +kernel)) e
noncomputable def B175_0 : List zRow := [(0, .aload_n 0, 1, (0, 0, 0)), (1, .getfield 85, 3, (12, 2, 0)), (4, .istore_n 1, 1, (0, 0, 0)), (5, .aload_n 0, 1, (0, 0, 0)), (6, .iconst 0, 1, (0, 0, 0)), (7, .putfield 85, 3, (12, 2, 0)), (10, .iload_n 1, 1, (0, 0, 0))]
theorem K175_0 : zRk 175 B175_0 = true := zRw_ok (by decide +kernel)
/-- EchoValeModel.take()I -/
def F175 (h : zHM) : Option (Int × zHM) := some ((h 2 0), (mset h 2 0 0))
set_option maxRecDepth 100000 in
theorem S175 {spec : zRn zH2} {hc : zHC} {o : Int → Int} {d : Nat} (hd : 1 ≤ d) (h : zHM) (v : (Int × zHM)) (e : F175 h = some v) : zRu2 spec d 175 [(22, 0)] (hc, h, o) (some (0, v.1)) (hc, v.2, o) := by
  refine zF_in (D := 0) (mx := 2) (L := [some (22, 0), none]) (by decide +kernel) rfl rfl hd (fun d hd => ?_)
  unfold F175 at e
  refine zF_blk (m := []) (d := 0) (b := B175_0) (gs := []) (c' := (11, [some (22, 0), some (0, (h 2 0))], [(0, (h 2 0))], (hc, (mset h 2 0 0), o))) K175_0 rfl trivial ?_
  exact zF_riM (zRe1_w (by decide +kernel)) e
noncomputable def B177_0 : List zRow := [(16, .iconst 0, 1, (0, 0, 0))]
theorem K177_0 : zRk 177 B177_0 = true := zRw_ok (by decide +kernel)
noncomputable def B177_1 : List zRow := [(12, .iconst 1, 1, (0, 0, 0)), (13, .goto 4, 3, (0, 0, 0))]
theorem K177_1 : zRk 177 B177_1 = true := zRw_ok (by decide +kernel)
noncomputable def B177_2 : List zRow := [(6, .iload_n 0, 1, (0, 0, 0)), (7, .bipush 122, 2, (0, 0, 0)), (9, .if_icmp .gt 7, 3, (0, 0, 0))]
theorem K177_2 : zRk 177 B177_2 = true := zRw_ok (by decide +kernel)
noncomputable def B177_3 : List zRow := [(0, .iload_n 0, 1, (0, 0, 0)), (1, .bipush 97, 2, (0, 0, 0)), (3, .if_icmp .lt 13, 3, (0, 0, 0))]
theorem K177_3 : zRk 177 B177_3 = true := zRw_ok (by decide +kernel)
/-- EchoValeModel.isLetter(I)Z -/
def F177 (v0 : Int) : Option Int := if v0 < 97 then some 0 else if 122 < v0 then some 0 else some 1
set_option maxRecDepth 100000 in
theorem S177 {spec : zRn zH2} {hc : zHC} {o : Int → Int} {d : Nat} (hd : 1 ≤ d) (v0 : Int) (h : zHM) (v : Int) (e : F177 v0 = some v) : zRu2 spec d 177 [(0, v0)] (hc, h, o) (some (0, v)) (hc, h, o) := by
  refine zF_in (D := 0) (mx := 1) (L := [some (0, v0)]) (by decide +kernel) rfl rfl hd (fun d hd => ?_)
  unfold F177 at e
  rcases zI_s e with ⟨q1, e⟩ | ⟨q1, e⟩
  · refine zF_blk (m := []) (d := 1) (b := B177_3) (gs := [v0 < 97]) (c' := (16, [some (0, v0)], [], (hc, h, o))) K177_3 rfl ⟨q1, trivial⟩ ?_
    refine zF_blk (m := []) (d := 0) (b := B177_0) (gs := []) (c' := (17, [some (0, v0)], [(0, 0)], (hc, h, o))) K177_0 rfl trivial ?_
    obtain rfl := Option.some.inj e
    exact zF_rb (zRe1_w (by decide +kernel)) (Or.inl rfl)
  · refine zF_blk (m := []) (d := 0) (b := B177_3) (gs := [¬ (v0 < 97)]) (c' := (6, [some (0, v0)], [], (hc, h, o))) K177_3 rfl ⟨q1, trivial⟩ ?_
    rcases zI_s e with ⟨q2, e⟩ | ⟨q2, e⟩
    · refine zF_blk (m := []) (d := 1) (b := B177_2) (gs := [122 < v0]) (c' := (16, [some (0, v0)], [], (hc, h, o))) K177_2 rfl ⟨q2, trivial⟩ ?_
      refine zF_blk (m := []) (d := 0) (b := B177_0) (gs := []) (c' := (17, [some (0, v0)], [(0, 0)], (hc, h, o))) K177_0 rfl trivial ?_
      obtain rfl := Option.some.inj e
      exact zF_rb (zRe1_w (by decide +kernel)) (Or.inl rfl)
    · refine zF_blk (m := []) (d := 0) (b := B177_2) (gs := [¬ (122 < v0)]) (c' := (12, [some (0, v0)], [], (hc, h, o))) K177_2 rfl ⟨q2, trivial⟩ ?_
      refine zF_blk (m := []) (d := 0) (b := B177_1) (gs := []) (c' := (17, [some (0, v0)], [(0, 1)], (hc, h, o))) K177_1 rfl trivial ?_
      obtain rfl := Option.some.inj e
      exact zF_rb (zRe1_w (by decide +kernel)) (Or.inr rfl)
noncomputable def B178_0 : List zRow := [(16, .iconst 0, 1, (0, 0, 0))]
theorem K178_0 : zRk 178 B178_0 = true := zRw_ok (by decide +kernel)
noncomputable def B178_1 : List zRow := [(12, .iconst 1, 1, (0, 0, 0)), (13, .goto 4, 3, (0, 0, 0))]
theorem K178_1 : zRk 178 B178_1 = true := zRw_ok (by decide +kernel)
noncomputable def B178_2 : List zRow := [(6, .iload_n 0, 1, (0, 0, 0)), (7, .bipush 57, 2, (0, 0, 0)), (9, .if_icmp .gt 7, 3, (0, 0, 0))]
theorem K178_2 : zRk 178 B178_2 = true := zRw_ok (by decide +kernel)
noncomputable def B178_3 : List zRow := [(0, .iload_n 0, 1, (0, 0, 0)), (1, .bipush 48, 2, (0, 0, 0)), (3, .if_icmp .lt 13, 3, (0, 0, 0))]
theorem K178_3 : zRk 178 B178_3 = true := zRw_ok (by decide +kernel)
/-- EchoValeModel.isDigit(I)Z -/
def F178 (v0 : Int) : Option Int := if v0 < 48 then some 0 else if 57 < v0 then some 0 else some 1
set_option maxRecDepth 100000 in
theorem S178 {spec : zRn zH2} {hc : zHC} {o : Int → Int} {d : Nat} (hd : 1 ≤ d) (v0 : Int) (h : zHM) (v : Int) (e : F178 v0 = some v) : zRu2 spec d 178 [(0, v0)] (hc, h, o) (some (0, v)) (hc, h, o) := by
  refine zF_in (D := 0) (mx := 1) (L := [some (0, v0)]) (by decide +kernel) rfl rfl hd (fun d hd => ?_)
  unfold F178 at e
  rcases zI_s e with ⟨q1, e⟩ | ⟨q1, e⟩
  · refine zF_blk (m := []) (d := 1) (b := B178_3) (gs := [v0 < 48]) (c' := (16, [some (0, v0)], [], (hc, h, o))) K178_3 rfl ⟨q1, trivial⟩ ?_
    refine zF_blk (m := []) (d := 0) (b := B178_0) (gs := []) (c' := (17, [some (0, v0)], [(0, 0)], (hc, h, o))) K178_0 rfl trivial ?_
    obtain rfl := Option.some.inj e
    exact zF_rb (zRe1_w (by decide +kernel)) (Or.inl rfl)
  · refine zF_blk (m := []) (d := 0) (b := B178_3) (gs := [¬ (v0 < 48)]) (c' := (6, [some (0, v0)], [], (hc, h, o))) K178_3 rfl ⟨q1, trivial⟩ ?_
    rcases zI_s e with ⟨q2, e⟩ | ⟨q2, e⟩
    · refine zF_blk (m := []) (d := 1) (b := B178_2) (gs := [57 < v0]) (c' := (16, [some (0, v0)], [], (hc, h, o))) K178_2 rfl ⟨q2, trivial⟩ ?_
      refine zF_blk (m := []) (d := 0) (b := B178_0) (gs := []) (c' := (17, [some (0, v0)], [(0, 0)], (hc, h, o))) K178_0 rfl trivial ?_
      obtain rfl := Option.some.inj e
      exact zF_rb (zRe1_w (by decide +kernel)) (Or.inl rfl)
    · refine zF_blk (m := []) (d := 0) (b := B178_2) (gs := [¬ (57 < v0)]) (c' := (12, [some (0, v0)], [], (hc, h, o))) K178_2 rfl ⟨q2, trivial⟩ ?_
      refine zF_blk (m := []) (d := 0) (b := B178_1) (gs := []) (c' := (17, [some (0, v0)], [(0, 1)], (hc, h, o))) K178_1 rfl trivial ?_
      obtain rfl := Option.some.inj e
      exact zF_rb (zRe1_w (by decide +kernel)) (Or.inr rfl)
noncomputable def B179_0 : List zRow := [(17, .iconst 0, 1, (0, 0, 0))]
theorem K179_0 : zRk 179 B179_0 = true := zRw_ok (by decide +kernel)
noncomputable def B179_1 : List zRow := [(8, .aload_n 0, 1, (0, 0, 0)), (9, .getfield 7, 3, (12, 1, 5246642)), (12, .iload_n 1, 1, (0, 0, 0)), (13, .iaload, 1, (0, 0, 0)), (14, .goto 4, 3, (0, 0, 0))]
theorem K179_1 : zRk 179 B179_1 = true := zRw_ok (by decide +kernel)
noncomputable def B179_2 : List zRow := [(0, .iload_n 1, 1, (0, 0, 0)), (1, .aload_n 0, 1, (0, 0, 0)), (2, .getfield 96, 3, (12, 3, 0)), (5, .if_icmp .ge 12, 3, (0, 0, 0))]
theorem K179_2 : zRk 179 B179_2 = true := zRw_ok (by decide +kernel)
/-- EchoValeModel.tapeAt(I)I -/
def F179 (v1 : Int) (h : zHM) : Option Int := if (h 3 0) ≤ v1 then some 0 else zG (0 ≤ v1 ∧ v1 < 940) (some (h 1 v1))
set_option maxRecDepth 100000 in
theorem S179 {spec : zRn zH2} {hc : zHC} {o : Int → Int} {d : Nat} (hd : 1 ≤ d) (v1 : Int) (h : zHM) (v : Int) (e : F179 v1 h = some v) : zRu2 spec d 179 [(22, 0), (0, v1)] (hc, h, o) (some (0, v)) (hc, h, o) := by
  refine zF_in (D := 0) (mx := 2) (L := [some (22, 0), some (0, v1)]) (by decide +kernel) rfl rfl hd (fun d hd => ?_)
  unfold F179 at e
  rcases zI_s e with ⟨q1, e⟩ | ⟨q1, e⟩
  · refine zF_blk (m := []) (d := 1) (b := B179_2) (gs := [(h 3 0) ≤ v1]) (c' := (17, [some (22, 0), some (0, v1)], [], (hc, h, o))) K179_2 rfl ⟨q1, trivial⟩ ?_
    refine zF_blk (m := []) (d := 0) (b := B179_0) (gs := []) (c' := (18, [some (22, 0), some (0, v1)], [(0, 0)], (hc, h, o))) K179_0 rfl trivial ?_
    obtain rfl := Option.some.inj e
    exact zF_ri (zRe1_w (by decide +kernel))
  · refine zF_blk (m := []) (d := 0) (b := B179_2) (gs := [¬ ((h 3 0) ≤ v1)]) (c' := (8, [some (22, 0), some (0, v1)], [], (hc, h, o))) K179_2 rfl ⟨q1, trivial⟩ ?_
    obtain ⟨q2, e⟩ := zG_s e
    refine zF_blk (m := []) (d := 0) (b := B179_1) (gs := [0 ≤ v1 ∧ v1 < 940]) (c' := (18, [some (22, 0), some (0, v1)], [(0, (h 1 v1))], (hc, h, o))) K179_1 rfl ⟨q2, trivial⟩ ?_
    obtain rfl := Option.some.inj e
    exact zF_ri (zRe1_w (by decide +kernel))
noncomputable def B176_0 : List zRow := [(25, .aload_n 0, 1, (0, 0, 0)), (26, .getfield 7, 3, (12, 1, 5246642)), (29, .aload_n 0, 1, (0, 0, 0)), (30, .getfield 98, 3, (12, 5, 0)), (33, .iaload, 1, (0, 0, 0)), (34, .bipush 10, 2, (0, 0, 0)), (36, .if_icmp .ne 16, 3, (0, 0, 0))]
theorem K176_0 : zRk 176 B176_0 = true := zRw_ok (by decide +kernel)
noncomputable def B176_1 : List zRow := [(11, .aload_n 0, 1, (0, 0, 0)), (12, .getfield 7, 3, (12, 1, 5246642)), (15, .aload_n 0, 1, (0, 0, 0)), (16, .getfield 98, 3, (12, 5, 0)), (19, .iaload, 1, (0, 0, 0)), (20, .bipush 32, 2, (0, 0, 0)), (22, .if_icmp .eq 17, 3, (0, 0, 0))]
theorem K176_1 : zRk 176 B176_1 = true := zRw_ok (by decide +kernel)
noncomputable def B176_2 : List zRow := [(0, .aload_n 0, 1, (0, 0, 0)), (1, .getfield 98, 3, (12, 5, 0)), (4, .aload_n 0, 1, (0, 0, 0)), (5, .getfield 96, 3, (12, 3, 0)), (8, .if_icmp .ge 44, 3, (0, 0, 0))]
theorem K176_2 : zRk 176 B176_2 = true := zRw_ok (by decide +kernel)
noncomputable def B176_3 : List zRow := [(39, .aload_n 0, 1, (0, 0, 0)), (40, .dup, 1, (0, 0, 0)), (41, .getfield 98, 3, (12, 5, 0)), (44, .iconst 1, 1, (0, 0, 0)), (45, .iadd, 1, (0, 0, 0)), (46, .putfield 98, 3, (12, 5, 0)), (49, .goto (-49), 3, (0, 0, 0))]
theorem K176_3 : zRk 176 B176_3 = true := zRw_ok (by decide +kernel)
noncomputable def B176_4 : List zRow := [(82, .aload_n 0, 1, (0, 0, 0)), (83, .aload_n 0, 1, (0, 0, 0)), (84, .getfield 104, 3, (12, 4, 0)), (87, .putfield 101, 3, (12, 6, 0)), (90, .aload_n 0, 1, (0, 0, 0)), (91, .iconst 1, 1, (0, 0, 0)), (92, .putfield 107, 3, (12, 7, 0))]
theorem K176_4 : zRk 176 B176_4 = true := zRw_ok (by decide +kernel)
noncomputable def B176_5 : List zRow := [(71, .aload_n 0, 1, (0, 0, 0)), (72, .getfield 101, 3, (12, 6, 0)), (75, .aload_n 0, 1, (0, 0, 0)), (76, .getfield 104, 3, (12, 4, 0)), (79, .if_icmp .lt 17, 3, (0, 0, 0))]
theorem K176_5 : zRk 176 B176_5 = true := zRw_ok (by decide +kernel)
noncomputable def B176_6 : List zRow := [(52, .aload_n 0, 1, (0, 0, 0)), (53, .aload_n 0, 1, (0, 0, 0)), (54, .getfield 98, 3, (12, 5, 0)), (57, .putfield 101, 3, (12, 6, 0)), (60, .aload_n 0, 1, (0, 0, 0)), (61, .getfield 96, 3, (12, 3, 0)), (64, .aload_n 0, 1, (0, 0, 0)), (65, .getfield 104, 3, (12, 4, 0)), (68, .if_icmp .le 28, 3, (0, 0, 0))]
theorem K176_6 : zRk 176 B176_6 = true := zRw_ok (by decide +kernel)
noncomputable def B176_7 : List zRow := [(113, .aload_n 0, 1, (0, 0, 0)), (114, .getfield 7, 3, (12, 1, 5246642)), (117, .aload_n 0, 1, (0, 0, 0)), (118, .getfield 98, 3, (12, 5, 0)), (121, .iaload, 1, (0, 0, 0)), (122, .istore_n 1, 1, (0, 0, 0)), (123, .iload_n 1, 1, (0, 0, 0))]
theorem K176_7 : zRk 176 B176_7 = true := zRw_ok (by decide +kernel)
noncomputable def B176_8 : List zRow := [(130, .iload_n 1, 1, (0, 0, 0))]
theorem K176_8 : zRk 176 B176_8 = true := zRw_ok (by decide +kernel)
noncomputable def B176_9 : List zRow := [(178, .iconst 1, 1, (0, 0, 0))]
theorem K176_9 : zRk 176 B176_9 = true := zRw_ok (by decide +kernel)
noncomputable def B176_10 : List zRow := [(168, .iload_n 1, 1, (0, 0, 0)), (169, .bipush 41, 2, (0, 0, 0)), (171, .if_icmp .ne 7, 3, (0, 0, 0))]
theorem K176_10 : zRk 176 B176_10 = true := zRw_ok (by decide +kernel)
noncomputable def B176_11 : List zRow := [(162, .iload_n 1, 1, (0, 0, 0)), (163, .bipush 40, 2, (0, 0, 0)), (165, .if_icmp .eq 9, 3, (0, 0, 0))]
theorem K176_11 : zRk 176 B176_11 = true := zRw_ok (by decide +kernel)
noncomputable def B176_12 : List zRow := [(156, .iload_n 1, 1, (0, 0, 0)), (157, .bipush 62, 2, (0, 0, 0)), (159, .if_icmp .eq 15, 3, (0, 0, 0))]
theorem K176_12 : zRk 176 B176_12 = true := zRw_ok (by decide +kernel)
noncomputable def B176_13 : List zRow := [(150, .iload_n 1, 1, (0, 0, 0)), (151, .bipush 61, 2, (0, 0, 0)), (153, .if_icmp .eq 21, 3, (0, 0, 0))]
theorem K176_13 : zRk 176 B176_13 = true := zRw_ok (by decide +kernel)
noncomputable def B176_14 : List zRow := [(144, .iload_n 1, 1, (0, 0, 0)), (145, .bipush 60, 2, (0, 0, 0)), (147, .if_icmp .eq 27, 3, (0, 0, 0))]
theorem K176_14 : zRk 176 B176_14 = true := zRw_ok (by decide +kernel)
noncomputable def B176_15 : List zRow := [(137, .aload_n 0, 1, (0, 0, 0)), (138, .iload_n 1, 1, (0, 0, 0)), (139, .bipush 59, 2, (0, 0, 0)), (141, .if_icmp .eq 33, 3, (0, 0, 0))]
theorem K176_15 : zRk 176 B176_15 = true := zRw_ok (by decide +kernel)
noncomputable def B176_16 : List zRow := [(134, .ifCond .ne 64, 3, (0, 0, 0))]
theorem K176_16 : zRk 176 B176_16 = true := zRw_ok (by decide +kernel)
noncomputable def B176_17 : List zRow := [(127, .ifCond .ne 71, 3, (0, 0, 0))]
theorem K176_17 : zRk 176 B176_17 = true := zRw_ok (by decide +kernel)
noncomputable def B176_18 : List zRow := [(107, .aload_n 0, 1, (0, 0, 0)), (108, .iconst 0, 1, (0, 0, 0)), (109, .putfield 107, 3, (12, 7, 0))]
theorem K176_18 : zRk 176 B176_18 = true := zRw_ok (by decide +kernel)
noncomputable def B176_19 : List zRow := [(96, .aload_n 0, 1, (0, 0, 0)), (97, .getfield 98, 3, (12, 5, 0)), (100, .aload_n 0, 1, (0, 0, 0)), (101, .getfield 96, 3, (12, 3, 0)), (104, .if_icmp .lt 9, 3, (0, 0, 0))]
theorem K176_19 : zRk 176 B176_19 = true := zRw_ok (by decide +kernel)
noncomputable def B176_20 : List zRow := [(179, .putfield 107, 3, (12, 7, 0)), (182, .aload_n 0, 1, (0, 0, 0)), (183, .iload_n 1, 1, (0, 0, 0)), (184, .putfield 117, 3, (12, 9, 0)), (187, .aload_n 0, 1, (0, 0, 0)), (188, .dup, 1, (0, 0, 0)), (189, .getfield 98, 3, (12, 5, 0)), (192, .iconst 1, 1, (0, 0, 0)), (193, .iadd, 1, (0, 0, 0)), (194, .putfield 98, 3, (12, 5, 0))]
theorem K176_20 : zRk 176 B176_20 = true := zRw_ok (by decide +kernel)
noncomputable def B176_21 : List zRow := [(174, .iconst 4, 1, (0, 0, 0)), (175, .goto 4, 3, (0, 0, 0))]
theorem K176_21 : zRk 176 B176_21 = true := zRw_ok (by decide +kernel)
noncomputable def B176_22 : List zRow := [(198, .iload_n 1, 1, (0, 0, 0))]
theorem K176_22 : zRk 176 B176_22 = true := zRw_ok (by decide +kernel)
noncomputable def B176_23 : List zRow := [(202, .istore_n 2, 1, (0, 0, 0)), (203, .iconst 1, 1, (0, 0, 0)), (204, .istore_n 3, 1, (0, 0, 0)), (205, .aload_n 0, 1, (0, 0, 0)), (206, .lconst 0, 1, (0, 0, 0)), (207, .putfield 120, 3, (12, 12, 1)), (210, .aload_n 0, 1, (0, 0, 0)), (211, .iconst 0, 1, (0, 0, 0)), (212, .putfield 124, 3, (12, 8, 0))]
theorem K176_23 : zRk 176 B176_23 = true := zRw_ok (by decide +kernel)
noncomputable def B176_24 : List zRow := [(215, .aload_n 0, 1, (0, 0, 0)), (216, .aload_n 0, 1, (0, 0, 0)), (217, .getfield 98, 3, (12, 5, 0))]
theorem K176_24 : zRk 176 B176_24 = true := zRw_ok (by decide +kernel)
noncomputable def B176_25 : List zRow := [(229, .aload_n 0, 1, (0, 0, 0)), (230, .aload_n 0, 1, (0, 0, 0)), (231, .getfield 98, 3, (12, 5, 0))]
theorem K176_25 : zRk 176 B176_25 = true := zRw_ok (by decide +kernel)
noncomputable def B176_26 : List zRow := [(373, .iconst 3, 1, (0, 0, 0))]
theorem K176_26 : zRk 176 B176_26 = true := zRw_ok (by decide +kernel)
noncomputable def B176_27 : List zRow := [(368, .bipush 7, 2, (0, 0, 0)), (370, .goto 4, 3, (0, 0, 0))]
theorem K176_27 : zRk 176 B176_27 = true := zRw_ok (by decide +kernel)
noncomputable def B176_28 : List zRow := [(355, .aload_n 0, 1, (0, 0, 0)), (356, .getfield 98, 3, (12, 5, 0)), (359, .aload_n 0, 1, (0, 0, 0)), (360, .getfield 101, 3, (12, 6, 0)), (363, .isub, 1, (0, 0, 0)), (364, .iload_n 2, 1, (0, 0, 0)), (365, .ifCond .eq 8, 3, (0, 0, 0))]
theorem K176_28 : zRk 176 B176_28 = true := zRw_ok (by decide +kernel)
noncomputable def B176_29 : List zRow := [(350, .aload_n 0, 1, (0, 0, 0)), (351, .iload_n 3, 1, (0, 0, 0)), (352, .ifCond .eq 25, 3, (0, 0, 0))]
theorem K176_29 : zRk 176 B176_29 = true := zRw_ok (by decide +kernel)
noncomputable def B176_30 : List zRow := [(240, .ifCond .eq 110, 3, (0, 0, 0))]
theorem K176_30 : zRk 176 B176_30 = true := zRw_ok (by decide +kernel)
noncomputable def B176_31 : List zRow := [(226, .ifCond .ne 17, 3, (0, 0, 0))]
theorem K176_31 : zRk 176 B176_31 = true := zRw_ok (by decide +kernel)
noncomputable def B176_32 : List zRow := [(389, .iconst 3, 1, (0, 0, 0))]
theorem K176_32 : zRk 176 B176_32 = true := zRw_ok (by decide +kernel)
noncomputable def B176_33 : List zRow := [(385, .iconst 2, 1, (0, 0, 0)), (386, .goto 4, 3, (0, 0, 0))]
theorem K176_33 : zRk 176 B176_33 = true := zRw_ok (by decide +kernel)
noncomputable def B176_34 : List zRow := [(381, .iload_n 2, 1, (0, 0, 0)), (382, .ifCond .eq 7, 3, (0, 0, 0))]
theorem K176_34 : zRk 176 B176_34 = true := zRw_ok (by decide +kernel)
noncomputable def B176_35 : List zRow := [(374, .if_icmp .le 7, 3, (0, 0, 0))]
theorem K176_35 : zRk 176 B176_35 = true := zRw_ok (by decide +kernel)
noncomputable def B176_36 : List zRow := [(390, .putfield 107, 3, (12, 7, 0))]
theorem K176_36 : zRk 176 B176_36 = true := zRw_ok (by decide +kernel)
noncomputable def B176_37 : List zRow := [(377, .iconst 1, 1, (0, 0, 0)), (378, .goto 12, 3, (0, 0, 0))]
theorem K176_37 : zRk 176 B176_37 = true := zRw_ok (by decide +kernel)
noncomputable def B176_38 : List zRow := [(258, .iload 4, 2, (0, 0, 0))]
theorem K176_38 : zRk 176 B176_38 = true := zRw_ok (by decide +kernel)
noncomputable def B176_39 : List zRow := [(267, .iconst 1, 1, (0, 0, 0)), (268, .goto 4, 3, (0, 0, 0))]
theorem K176_39 : zRk 176 B176_39 = true := zRw_ok (by decide +kernel)
noncomputable def B176_40 : List zRow := [(263, .iload_n 2, 1, (0, 0, 0)), (264, .if_icmp .ne 7, 3, (0, 0, 0))]
theorem K176_40 : zRk 176 B176_40 = true := zRw_ok (by decide +kernel)
noncomputable def B176_41 : List zRow := [(243, .aload_n 0, 1, (0, 0, 0)), (244, .getfield 7, 3, (12, 1, 5246642)), (247, .aload_n 0, 1, (0, 0, 0)), (248, .getfield 98, 3, (12, 5, 0)), (251, .iaload, 1, (0, 0, 0)), (252, .istore 4, 2, (0, 0, 0)), (254, .iload_n 3, 1, (0, 0, 0)), (255, .ifCond .eq 16, 3, (0, 0, 0))]
theorem K176_41 : zRk 176 B176_41 = true := zRw_ok (by decide +kernel)
noncomputable def B176_42 : List zRow := [(287, .aload_n 0, 1, (0, 0, 0)), (288, .ldc2_w 130, 3, (0, 0, 27)), (291, .aload_n 0, 1, (0, 0, 0)), (292, .getfield 120, 3, (12, 12, 1)), (295, .lmul, 1, (0, 0, 0)), (296, .iload 4, 2, (0, 0, 0)), (298, .i2l, 1, (0, 0, 0)), (299, .ladd, 1, (0, 0, 0)), (300, .ldc2_w 132, 3, (0, 0, 96)), (303, .lsub, 1, (0, 0, 0)), (304, .putfield 120, 3, (12, 12, 1))]
theorem K176_42 : zRk 176 B176_42 = true := zRw_ok (by decide +kernel)
noncomputable def B176_43 : List zRow := [(272, .istore_n 3, 1, (0, 0, 0)), (273, .aload_n 0, 1, (0, 0, 0)), (274, .getfield 98, 3, (12, 5, 0)), (277, .aload_n 0, 1, (0, 0, 0)), (278, .getfield 101, 3, (12, 6, 0)), (281, .isub, 1, (0, 0, 0)), (282, .bipush 7, 2, (0, 0, 0)), (284, .if_icmp .ge 23, 3, (0, 0, 0))]
theorem K176_43 : zRk 176 B176_43 = true := zRw_ok (by decide +kernel)
noncomputable def B176_44 : List zRow := [(320, .aload_n 0, 1, (0, 0, 0)), (321, .bipush 10, 2, (0, 0, 0)), (323, .aload_n 0, 1, (0, 0, 0)), (324, .getfield 124, 3, (12, 8, 0))]
theorem K176_44 : zRk 176 B176_44 = true := zRw_ok (by decide +kernel)
noncomputable def B176_45 : List zRow := [(327, .imul, 1, (0, 0, 0)), (328, .iload 4, 2, (0, 0, 0)), (330, .iadd, 1, (0, 0, 0)), (331, .bipush 48, 2, (0, 0, 0)), (333, .isub, 1, (0, 0, 0)), (334, .putfield 124, 3, (12, 8, 0))]
theorem K176_45 : zRk 176 B176_45 = true := zRw_ok (by decide +kernel)
noncomputable def B176_46 : List zRow := [(307, .aload_n 0, 1, (0, 0, 0)), (308, .getfield 98, 3, (12, 5, 0)), (311, .aload_n 0, 1, (0, 0, 0)), (312, .getfield 101, 3, (12, 6, 0)), (315, .isub, 1, (0, 0, 0)), (316, .iconst 3, 1, (0, 0, 0)), (317, .if_icmp .ge 20, 3, (0, 0, 0))]
theorem K176_46 : zRk 176 B176_46 = true := zRw_ok (by decide +kernel)
noncomputable def B176_47 : List zRow := [(337, .aload_n 0, 1, (0, 0, 0)), (338, .dup, 1, (0, 0, 0)), (339, .getfield 98, 3, (12, 5, 0)), (342, .iconst 1, 1, (0, 0, 0)), (343, .iadd, 1, (0, 0, 0)), (344, .putfield 98, 3, (12, 5, 0)), (347, .goto (-132), 3, (0, 0, 0))]
theorem K176_47 : zRk 176 B176_47 = true := zRw_ok (by decide +kernel)
noncomputable def B176_48 : List zRow := [(271, .iconst 0, 1, (0, 0, 0))]
theorem K176_48 : zRk 176 B176_48 = true := zRw_ok (by decide +kernel)
def F176_15 (k0 : Int → Int → zHM → Option zHM) (v2 : Int) (v3 : Int) (h : zHM) : Option zHM := k0 v2 v3 (mset h 5 0 (wadd (h 5 0) 1))
set_option maxRecDepth 100000 in
theorem T176_15 {spec : zRn zH2} {hc : zHC} {o : Int → Int} {d : Nat} (hd : 1 ≤ d) (k0 : Int → Int → zHM → Option zHM) (hk0 : ∀ (v2 : Int) (v3 : Int) (h : zHM) (v : zHM), k0 v2 v3 h = some v → zFin 0 (fun _ => 0) (zRu2 spec d) 176 none (hc, v, o) (215, [some (22, 0), none, some (0, v2), some (0, v3), none], [], (hc, h, o))) (v2 : Int) (v3 : Int) (h : zHM) (v : zHM) (e : F176_15 k0 v2 v3 h = some v) : zFin 0 (fun _ => 0) (zRu2 spec d) 176 none (hc, v, o) (337, [some (22, 0), none, some (0, v2), some (0, v3), none], [], (hc, h, o)) := by
  unfold F176_15 at e
  refine zF_blk (m := []) (d := 0) (b := B176_47) (gs := []) (c' := (215, [some (22, 0), none, some (0, v2), some (0, v3), none], [], (hc, (mset h 5 0 (wadd (h 5 0) 1)), o))) K176_47 rfl trivial ?_
  exact hk0 v2 v3 (mset h 5 0 (wadd (h 5 0) 1)) _ e
def F176_14 (k0 : Int → Int → zHM → Option zHM) (v2 : Int) (v3 : Int) (v4 : Int) (h : zHM) : Option zHM := if 3 ≤ (wsub (h 5 0) (h 6 0)) then F176_15 k0 v2 v3 h else F176_15 k0 v2 v3 (mset h 8 0 (wsub (wadd (wmul 10 (h 8 0)) v4) 48))
set_option maxRecDepth 100000 in
theorem T176_14 {spec : zRn zH2} {hc : zHC} {o : Int → Int} {d : Nat} (hd : 1 ≤ d) (k0 : Int → Int → zHM → Option zHM) (hk0 : ∀ (v2 : Int) (v3 : Int) (h : zHM) (v : zHM), k0 v2 v3 h = some v → zFin 0 (fun _ => 0) (zRu2 spec d) 176 none (hc, v, o) (215, [some (22, 0), none, some (0, v2), some (0, v3), none], [], (hc, h, o))) (v2 : Int) (v3 : Int) (v4 : Int) (h : zHM) (v : zHM) (e : F176_14 k0 v2 v3 v4 h = some v) : zFin 0 (fun _ => 0) (zRu2 spec d) 176 none (hc, v, o) (307, [some (22, 0), none, some (0, v2), some (0, v3), some (0, v4)], [], (hc, h, o)) := by
  unfold F176_14 at e
  rcases zI_s e with ⟨q1, e⟩ | ⟨q1, e⟩
  · refine zF_blk (m := []) (d := 1) (b := B176_46) (gs := [3 ≤ (wsub (h 5 0) (h 6 0))]) (c' := (337, [some (22, 0), none, some (0, v2), some (0, v3), some (0, v4)], [], (hc, h, o))) K176_46 rfl ⟨q1, trivial⟩ ?_
    refine zF_blk (m := [true, false, true, true, false]) (d := 0) (b := []) (gs := []) (c' := (337, [some (22, 0), none, some (0, v2), some (0, v3), none], [], (hc, h, o))) rfl rfl trivial ?_
    exact T176_15 hd k0 hk0 v2 v3 h _ e
  · refine zF_blk (m := []) (d := 0) (b := B176_46) (gs := [¬ (3 ≤ (wsub (h 5 0) (h 6 0)))]) (c' := (320, [some (22, 0), none, some (0, v2), some (0, v3), some (0, v4)], [], (hc, h, o))) K176_46 rfl ⟨q1, trivial⟩ ?_
    refine zF_blk (m := []) (d := 0) (b := B176_44) (gs := []) (c' := (327, [some (22, 0), none, some (0, v2), some (0, v3), some (0, v4)], [(0, (h 8 0)), (0, 10), (22, 0)], (hc, h, o))) K176_44 rfl trivial ?_
    refine zF_blk (m := []) (d := 0) (b := B176_45) (gs := []) (c' := (337, [some (22, 0), none, some (0, v2), some (0, v3), some (0, v4)], [], (hc, (mset h 8 0 (wsub (wadd (wmul 10 (h 8 0)) v4) 48)), o))) K176_45 rfl trivial ?_
    refine zF_blk (m := [true, false, true, true, false]) (d := 0) (b := []) (gs := []) (c' := (337, [some (22, 0), none, some (0, v2), some (0, v3), none], [], (hc, (mset h 8 0 (wsub (wadd (wmul 10 (h 8 0)) v4) 48)), o))) rfl rfl trivial ?_
    exact T176_15 hd k0 hk0 v2 v3 (mset h 8 0 (wsub (wadd (wmul 10 (h 8 0)) v4) 48)) _ e
def F176_13 (k0 : Int → Int → zHM → Option zHM) (v2 : Int) (v4 : Int) (s0 : Int) (h : zHM) : Option zHM := if 7 ≤ (wsub (h 5 0) (h 6 0)) then F176_14 k0 v2 s0 v4 h else F176_14 k0 v2 s0 v4 (mset h 12 0 (qsub (qadd (qmul 27 (h 12 0)) v4) 96))
set_option maxRecDepth 100000 in
theorem T176_13 {spec : zRn zH2} {hc : zHC} {o : Int → Int} {d : Nat} (hd : 1 ≤ d) (k0 : Int → Int → zHM → Option zHM) (hk0 : ∀ (v2 : Int) (v3 : Int) (h : zHM) (v : zHM), k0 v2 v3 h = some v → zFin 0 (fun _ => 0) (zRu2 spec d) 176 none (hc, v, o) (215, [some (22, 0), none, some (0, v2), some (0, v3), none], [], (hc, h, o))) (v2 : Int) (v4 : Int) (s0 : Int) (h : zHM) (v : zHM) (e : F176_13 k0 v2 v4 s0 h = some v) : zFin 0 (fun _ => 0) (zRu2 spec d) 176 none (hc, v, o) (272, [some (22, 0), none, some (0, v2), none, some (0, v4)], [(0, s0)], (hc, h, o)) := by
  unfold F176_13 at e
  rcases zI_s e with ⟨q1, e⟩ | ⟨q1, e⟩
  · refine zF_blk (m := []) (d := 1) (b := B176_43) (gs := [7 ≤ (wsub (h 5 0) (h 6 0))]) (c' := (307, [some (22, 0), none, some (0, v2), some (0, s0), some (0, v4)], [], (hc, h, o))) K176_43 rfl ⟨q1, trivial⟩ ?_
    exact T176_14 hd k0 hk0 v2 s0 v4 h _ e
  · refine zF_blk (m := []) (d := 0) (b := B176_43) (gs := [¬ (7 ≤ (wsub (h 5 0) (h 6 0)))]) (c' := (287, [some (22, 0), none, some (0, v2), some (0, s0), some (0, v4)], [], (hc, h, o))) K176_43 rfl ⟨q1, trivial⟩ ?_
    refine zF_blk (m := []) (d := 0) (b := B176_42) (gs := []) (c' := (307, [some (22, 0), none, some (0, v2), some (0, s0), some (0, v4)], [], (hc, (mset h 12 0 (qsub (qadd (qmul 27 (h 12 0)) v4) 96)), o))) K176_42 rfl trivial ?_
    exact T176_14 hd k0 hk0 v2 s0 v4 (mset h 12 0 (qsub (qadd (qmul 27 (h 12 0)) v4) 96)) _ e
def F176_12 (k0 : Int → Int → zHM → Option zHM) (v2 : Int) (v4 : Int) (h : zHM) : Option zHM := F176_13 k0 v2 v4 0 h
set_option maxRecDepth 100000 in
theorem T176_12 {spec : zRn zH2} {hc : zHC} {o : Int → Int} {d : Nat} (hd : 1 ≤ d) (k0 : Int → Int → zHM → Option zHM) (hk0 : ∀ (v2 : Int) (v3 : Int) (h : zHM) (v : zHM), k0 v2 v3 h = some v → zFin 0 (fun _ => 0) (zRu2 spec d) 176 none (hc, v, o) (215, [some (22, 0), none, some (0, v2), some (0, v3), none], [], (hc, h, o))) (v2 : Int) (v4 : Int) (h : zHM) (v : zHM) (e : F176_12 k0 v2 v4 h = some v) : zFin 0 (fun _ => 0) (zRu2 spec d) 176 none (hc, v, o) (271, [some (22, 0), none, some (0, v2), none, some (0, v4)], [], (hc, h, o)) := by
  unfold F176_12 at e
  refine zF_blk (m := []) (d := 0) (b := B176_48) (gs := []) (c' := (272, [some (22, 0), none, some (0, v2), none, some (0, v4)], [(0, 0)], (hc, h, o))) K176_48 rfl trivial ?_
  exact T176_13 hd k0 hk0 v2 v4 0 h _ e
def F176_8 (k0 : Int → Int → zHM → Option zHM) (v2 : Int) (v3 : Int) (h : zHM) : Option zHM := zG (0 ≤ (h 5 0) ∧ (h 5 0) < 940) (if v3 = 0 then F176_12 k0 v2 (h 1 (h 5 0)) h else (F177 (h 1 (h 5 0))).bind fun r1 => if ¬ r1 = v2 then F176_12 k0 v2 (h 1 (h 5 0)) h else F176_13 k0 v2 (h 1 (h 5 0)) 1 h)
set_option maxRecDepth 100000 in
theorem T176_8 {spec : zRn zH2} {hc : zHC} {o : Int → Int} {d : Nat} (hd : 1 ≤ d) (k0 : Int → Int → zHM → Option zHM) (hk0 : ∀ (v2 : Int) (v3 : Int) (h : zHM) (v : zHM), k0 v2 v3 h = some v → zFin 0 (fun _ => 0) (zRu2 spec d) 176 none (hc, v, o) (215, [some (22, 0), none, some (0, v2), some (0, v3), none], [], (hc, h, o))) (v2 : Int) (v3 : Int) (h : zHM) (v : zHM) (e : F176_8 k0 v2 v3 h = some v) : zFin 0 (fun _ => 0) (zRu2 spec d) 176 none (hc, v, o) (243, [some (22, 0), none, some (0, v2), some (0, v3), none], [], (hc, h, o)) := by
  unfold F176_8 at e
  obtain ⟨q1, e⟩ := zG_s e
  rcases zI_s e with ⟨q2, e⟩ | ⟨q2, e⟩
  · refine zF_blk (m := []) (d := 1) (b := B176_41) (gs := [0 ≤ (h 5 0) ∧ (h 5 0) < 940, v3 = 0]) (c' := (271, [some (22, 0), none, some (0, v2), some (0, v3), some (0, (h 1 (h 5 0)))], [], (hc, h, o))) K176_41 rfl ⟨q1, q2, trivial⟩ ?_
    refine zF_blk (m := [true, false, true, false, true]) (d := 0) (b := []) (gs := []) (c' := (271, [some (22, 0), none, some (0, v2), none, some (0, (h 1 (h 5 0)))], [], (hc, h, o))) rfl rfl trivial ?_
    exact T176_12 hd k0 hk0 v2 (h 1 (h 5 0)) h _ e
  · refine zF_blk (m := []) (d := 0) (b := B176_41) (gs := [0 ≤ (h 5 0) ∧ (h 5 0) < 940, ¬ (v3 = 0)]) (c' := (258, [some (22, 0), none, some (0, v2), some (0, v3), some (0, (h 1 (h 5 0)))], [], (hc, h, o))) K176_41 rfl ⟨q1, q2, trivial⟩ ?_
    obtain ⟨r1, q3, e⟩ := zB_s e
    refine zF_blk (m := []) (d := 0) (b := B176_38) (gs := []) (c' := (260, [some (22, 0), none, some (0, v2), some (0, v3), some (0, (h 1 (h 5 0)))], [(0, (h 1 (h 5 0)))], (hc, h, o))) K176_38 rfl trivial ?_
    refine zF_call (k := 177) (cl := 12) (n := 1) (i := .invokestatic 110) (args := [(0, (h 1 (h 5 0)))]) (rest := []) (g1 := (hc, h, o)) (r1 := some (0, r1)) (zCk1_w (by decide +kernel)) rfl rfl rfl (st' := [(0, r1)]) rfl (S177 (Nat.le_trans (by decide) hd) (h 1 (h 5 0)) h _ q3) ?_
    rcases zI_s e with ⟨q4, e⟩ | ⟨q4, e⟩
    · refine zF_blk (m := []) (d := 1) (b := B176_40) (gs := [¬ r1 = v2]) (c' := (271, [some (22, 0), none, some (0, v2), some (0, v3), some (0, (h 1 (h 5 0)))], [], (hc, h, o))) K176_40 rfl ⟨q4, trivial⟩ ?_
      refine zF_blk (m := [true, false, true, false, true]) (d := 0) (b := []) (gs := []) (c' := (271, [some (22, 0), none, some (0, v2), none, some (0, (h 1 (h 5 0)))], [], (hc, h, o))) rfl rfl trivial ?_
      exact T176_12 hd k0 hk0 v2 (h 1 (h 5 0)) h _ e
    · refine zF_blk (m := []) (d := 0) (b := B176_40) (gs := [¬ (¬ r1 = v2)]) (c' := (267, [some (22, 0), none, some (0, v2), some (0, v3), some (0, (h 1 (h 5 0)))], [], (hc, h, o))) K176_40 rfl ⟨q4, trivial⟩ ?_
      refine zF_blk (m := []) (d := 0) (b := B176_39) (gs := []) (c' := (272, [some (22, 0), none, some (0, v2), some (0, v3), some (0, (h 1 (h 5 0)))], [(0, 1)], (hc, h, o))) K176_39 rfl trivial ?_
      refine zF_blk (m := [true, false, true, false, true]) (d := 0) (b := []) (gs := []) (c' := (272, [some (22, 0), none, some (0, v2), none, some (0, (h 1 (h 5 0)))], [(0, 1)], (hc, h, o))) rfl rfl trivial ?_
      exact T176_13 hd k0 hk0 v2 (h 1 (h 5 0)) 1 h _ e
def F176_11 (s0 : Int) (h : zHM) : Option zHM := some (mset h 7 0 s0)
set_option maxRecDepth 100000 in
theorem T176_11 {spec : zRn zH2} {hc : zHC} {o : Int → Int} {d : Nat} (hd : 1 ≤ d) (s0 : Int) (h : zHM) (v : zHM) (e : F176_11 s0 h = some v) : zFin 0 (fun _ => 0) (zRu2 spec d) 176 none (hc, v, o) (390, [none, none, none, none, none], [(0, s0), (22, 0)], (hc, h, o)) := by
  unfold F176_11 at e
  refine zF_blk (m := []) (d := 0) (b := B176_36) (gs := []) (c' := (393, [none, none, none, none, none], [], (hc, (mset h 7 0 s0), o))) K176_36 rfl trivial ?_
  obtain rfl := Option.some.inj e
  exact zF_rv (zRe1_w (by decide +kernel))
def F176_9 (h : zHM) : Option zHM := F176_11 1 h
set_option maxRecDepth 100000 in
theorem T176_9 {spec : zRn zH2} {hc : zHC} {o : Int → Int} {d : Nat} (hd : 1 ≤ d) (h : zHM) (v : zHM) (e : F176_9 h = some v) : zFin 0 (fun _ => 0) (zRu2 spec d) 176 none (hc, v, o) (377, [none, none, none, none, none], [(22, 0)], (hc, h, o)) := by
  unfold F176_9 at e
  refine zF_blk (m := []) (d := 0) (b := B176_37) (gs := []) (c' := (390, [none, none, none, none, none], [(0, 1), (22, 0)], (hc, h, o))) K176_37 rfl trivial ?_
  exact T176_11 hd 1 h _ e
def F176_10 (v2 : Int) (s0 : Int) (s1 : Int) (h : zHM) : Option zHM := if s1 ≤ s0 then if v2 = 0 then F176_11 3 h else F176_11 2 h else F176_9 h
set_option maxRecDepth 100000 in
theorem T176_10 {spec : zRn zH2} {hc : zHC} {o : Int → Int} {d : Nat} (hd : 1 ≤ d) (v2 : Int) (s0 : Int) (s1 : Int) (h : zHM) (v : zHM) (e : F176_10 v2 s0 s1 h = some v) : zFin 0 (fun _ => 0) (zRu2 spec d) 176 none (hc, v, o) (374, [none, none, some (0, v2), none, none], [(0, s0), (0, s1), (22, 0)], (hc, h, o)) := by
  unfold F176_10 at e
  rcases zI_s e with ⟨q1, e⟩ | ⟨q1, e⟩
  · refine zF_blk (m := []) (d := 1) (b := B176_35) (gs := [s1 ≤ s0]) (c' := (381, [none, none, some (0, v2), none, none], [(22, 0)], (hc, h, o))) K176_35 rfl ⟨q1, trivial⟩ ?_
    rcases zI_s e with ⟨q2, e⟩ | ⟨q2, e⟩
    · refine zF_blk (m := []) (d := 1) (b := B176_34) (gs := [v2 = 0]) (c' := (389, [none, none, some (0, v2), none, none], [(22, 0)], (hc, h, o))) K176_34 rfl ⟨q2, trivial⟩ ?_
      refine zF_blk (m := []) (d := 0) (b := B176_32) (gs := []) (c' := (390, [none, none, some (0, v2), none, none], [(0, 3), (22, 0)], (hc, h, o))) K176_32 rfl trivial ?_
      refine zF_blk (m := [false, false, false, false, false]) (d := 0) (b := []) (gs := []) (c' := (390, [none, none, none, none, none], [(0, 3), (22, 0)], (hc, h, o))) rfl rfl trivial ?_
      exact T176_11 hd 3 h _ e
    · refine zF_blk (m := []) (d := 0) (b := B176_34) (gs := [¬ (v2 = 0)]) (c' := (385, [none, none, some (0, v2), none, none], [(22, 0)], (hc, h, o))) K176_34 rfl ⟨q2, trivial⟩ ?_
      refine zF_blk (m := []) (d := 0) (b := B176_33) (gs := []) (c' := (390, [none, none, some (0, v2), none, none], [(0, 2), (22, 0)], (hc, h, o))) K176_33 rfl trivial ?_
      refine zF_blk (m := [false, false, false, false, false]) (d := 0) (b := []) (gs := []) (c' := (390, [none, none, none, none, none], [(0, 2), (22, 0)], (hc, h, o))) rfl rfl trivial ?_
      exact T176_11 hd 2 h _ e
  · refine zF_blk (m := []) (d := 0) (b := B176_35) (gs := [¬ (s1 ≤ s0)]) (c' := (377, [none, none, some (0, v2), none, none], [(22, 0)], (hc, h, o))) K176_35 rfl ⟨q1, trivial⟩ ?_
    refine zF_blk (m := [false, false, false, false, false]) (d := 0) (b := []) (gs := []) (c' := (377, [none, none, none, none, none], [(22, 0)], (hc, h, o))) rfl rfl trivial ?_
    exact T176_9 hd h _ e
def F176_7 : Nat → Int → Int → zHM → Option zHM
  | 0, _, _, _ => none
  | n + 1, v2, v3, h => (F179 (h 5 0) h).bind fun r1 => (F177 r1).bind fun r2 => if ¬ r2 = 0 then F176_8 (F176_7 n) v2 v3 h else (F179 (h 5 0) h).bind fun r3 => (F178 r3).bind fun r4 => if r4 = 0 then if v3 = 0 then F176_9 h else if v2 = 0 then F176_10 v2 3 (wsub (h 5 0) (h 6 0)) h else F176_10 v2 7 (wsub (h 5 0) (h 6 0)) h else F176_8 (F176_7 n) v2 v3 h
set_option maxRecDepth 100000 in
theorem T176_7 {spec : zRn zH2} {hc : zHC} {o : Int → Int} {d : Nat} (hd : 1 ≤ d) : ∀ (n : Nat) (v2 : Int) (v3 : Int) (h : zHM) (v : zHM), F176_7 n v2 v3 h = some v → zFin 0 (fun _ => 0) (zRu2 spec d) 176 none (hc, v, o) (215, [some (22, 0), none, some (0, v2), some (0, v3), none], [], (hc, h, o)) := by
  intro n
  induction n with
  | zero => intro v2 v3 h v e; unfold F176_7 at e; cases e
  | succ n hk0 =>
    intro v2 v3 h v e
    unfold F176_7 at e
    obtain ⟨r1, q1, e⟩ := zB_s e
    refine zF_blk (m := []) (d := 0) (b := B176_24) (gs := []) (c' := (220, [some (22, 0), none, some (0, v2), some (0, v3), none], [(0, (h 5 0)), (22, 0)], (hc, h, o))) K176_24 rfl trivial ?_
    refine zF_call (k := 179) (cl := 12) (n := 2) (i := .invokevirtual 127) (args := [(22, 0), (0, (h 5 0))]) (rest := []) (g1 := (hc, h, o)) (r1 := some (0, r1)) (zCk1_w (by decide +kernel)) rfl rfl rfl (st' := [(0, r1)]) rfl (S179 (Nat.le_trans (by decide) hd) (h 5 0) h _ q1) ?_
    obtain ⟨r2, q2, e⟩ := zB_s e
    refine zF_call (k := 177) (cl := 12) (n := 1) (i := .invokestatic 110) (args := [(0, r1)]) (rest := []) (g1 := (hc, h, o)) (r1 := some (0, r2)) (zCk1_w (by decide +kernel)) rfl rfl rfl (st' := [(0, r2)]) rfl (S177 (Nat.le_trans (by decide) hd) r1 h _ q2) ?_
    rcases zI_s e with ⟨q3, e⟩ | ⟨q3, e⟩
    · refine zF_blk (m := []) (d := 1) (b := B176_31) (gs := [¬ r2 = 0]) (c' := (243, [some (22, 0), none, some (0, v2), some (0, v3), none], [], (hc, h, o))) K176_31 rfl ⟨q3, trivial⟩ ?_
      exact T176_8 hd (F176_7 n) hk0 v2 v3 h _ e
    · refine zF_blk (m := []) (d := 0) (b := B176_31) (gs := [¬ (¬ r2 = 0)]) (c' := (229, [some (22, 0), none, some (0, v2), some (0, v3), none], [], (hc, h, o))) K176_31 rfl ⟨q3, trivial⟩ ?_
      obtain ⟨r3, q4, e⟩ := zB_s e
      refine zF_blk (m := []) (d := 0) (b := B176_25) (gs := []) (c' := (234, [some (22, 0), none, some (0, v2), some (0, v3), none], [(0, (h 5 0)), (22, 0)], (hc, h, o))) K176_25 rfl trivial ?_
      refine zF_call (k := 179) (cl := 12) (n := 2) (i := .invokevirtual 127) (args := [(22, 0), (0, (h 5 0))]) (rest := []) (g1 := (hc, h, o)) (r1 := some (0, r3)) (zCk1_w (by decide +kernel)) rfl rfl rfl (st' := [(0, r3)]) rfl (S179 (Nat.le_trans (by decide) hd) (h 5 0) h _ q4) ?_
      obtain ⟨r4, q5, e⟩ := zB_s e
      refine zF_call (k := 178) (cl := 12) (n := 1) (i := .invokestatic 114) (args := [(0, r3)]) (rest := []) (g1 := (hc, h, o)) (r1 := some (0, r4)) (zCk1_w (by decide +kernel)) rfl rfl rfl (st' := [(0, r4)]) rfl (S178 (Nat.le_trans (by decide) hd) r3 h _ q5) ?_
      rcases zI_s e with ⟨q6, e⟩ | ⟨q6, e⟩
      · refine zF_blk (m := []) (d := 1) (b := B176_30) (gs := [r4 = 0]) (c' := (350, [some (22, 0), none, some (0, v2), some (0, v3), none], [], (hc, h, o))) K176_30 rfl ⟨q6, trivial⟩ ?_
        rcases zI_s e with ⟨q7, e⟩ | ⟨q7, e⟩
        · refine zF_blk (m := []) (d := 1) (b := B176_29) (gs := [v3 = 0]) (c' := (377, [some (22, 0), none, some (0, v2), some (0, v3), none], [(22, 0)], (hc, h, o))) K176_29 rfl ⟨q7, trivial⟩ ?_
          refine zF_blk (m := [false, false, false, false, false]) (d := 0) (b := []) (gs := []) (c' := (377, [none, none, none, none, none], [(22, 0)], (hc, h, o))) rfl rfl trivial ?_
          exact T176_9 hd h _ e
        · refine zF_blk (m := []) (d := 0) (b := B176_29) (gs := [¬ (v3 = 0)]) (c' := (355, [some (22, 0), none, some (0, v2), some (0, v3), none], [(22, 0)], (hc, h, o))) K176_29 rfl ⟨q7, trivial⟩ ?_
          rcases zI_s e with ⟨q8, e⟩ | ⟨q8, e⟩
          · refine zF_blk (m := []) (d := 1) (b := B176_28) (gs := [v2 = 0]) (c' := (373, [some (22, 0), none, some (0, v2), some (0, v3), none], [(0, (wsub (h 5 0) (h 6 0))), (22, 0)], (hc, h, o))) K176_28 rfl ⟨q8, trivial⟩ ?_
            refine zF_blk (m := []) (d := 0) (b := B176_26) (gs := []) (c' := (374, [some (22, 0), none, some (0, v2), some (0, v3), none], [(0, 3), (0, (wsub (h 5 0) (h 6 0))), (22, 0)], (hc, h, o))) K176_26 rfl trivial ?_
            refine zF_blk (m := [false, false, true, false, false]) (d := 0) (b := []) (gs := []) (c' := (374, [none, none, some (0, v2), none, none], [(0, 3), (0, (wsub (h 5 0) (h 6 0))), (22, 0)], (hc, h, o))) rfl rfl trivial ?_
            exact T176_10 hd v2 3 (wsub (h 5 0) (h 6 0)) h _ e
          · refine zF_blk (m := []) (d := 0) (b := B176_28) (gs := [¬ (v2 = 0)]) (c' := (368, [some (22, 0), none, some (0, v2), some (0, v3), none], [(0, (wsub (h 5 0) (h 6 0))), (22, 0)], (hc, h, o))) K176_28 rfl ⟨q8, trivial⟩ ?_
            refine zF_blk (m := []) (d := 0) (b := B176_27) (gs := []) (c' := (374, [some (22, 0), none, some (0, v2), some (0, v3), none], [(0, 7), (0, (wsub (h 5 0) (h 6 0))), (22, 0)], (hc, h, o))) K176_27 rfl trivial ?_
            refine zF_blk (m := [false, false, true, false, false]) (d := 0) (b := []) (gs := []) (c' := (374, [none, none, some (0, v2), none, none], [(0, 7), (0, (wsub (h 5 0) (h 6 0))), (22, 0)], (hc, h, o))) rfl rfl trivial ?_
            exact T176_10 hd v2 7 (wsub (h 5 0) (h 6 0)) h _ e
      · refine zF_blk (m := []) (d := 0) (b := B176_30) (gs := [¬ (r4 = 0)]) (c' := (243, [some (22, 0), none, some (0, v2), some (0, v3), none], [], (hc, h, o))) K176_30 rfl ⟨q6, trivial⟩ ?_
        exact T176_8 hd (F176_7 n) hk0 v2 v3 h _ e
def F176_4 (v1 : Int) (h : zHM) : Option zHM := (F177 v1).bind fun r1 => F176_7 zFu r1 1 (mset (mset h 12 0 0) 8 0 0)
set_option maxRecDepth 100000 in
theorem T176_4 {spec : zRn zH2} {hc : zHC} {o : Int → Int} {d : Nat} (hd : 1 ≤ d) (v1 : Int) (h : zHM) (v : zHM) (e : F176_4 v1 h = some v) : zFin 0 (fun _ => 0) (zRu2 spec d) 176 none (hc, v, o) (198, [some (22, 0), some (0, v1), none, none, none], [], (hc, h, o)) := by
  unfold F176_4 at e
  obtain ⟨r1, q1, e⟩ := zB_s e
  refine zF_blk (m := []) (d := 0) (b := B176_22) (gs := []) (c' := (199, [some (22, 0), some (0, v1), none, none, none], [(0, v1)], (hc, h, o))) K176_22 rfl trivial ?_
  refine zF_call (k := 177) (cl := 12) (n := 1) (i := .invokestatic 110) (args := [(0, v1)]) (rest := []) (g1 := (hc, h, o)) (r1 := some (0, r1)) (zCk1_w (by decide +kernel)) rfl rfl rfl (st' := [(0, r1)]) rfl (S177 (Nat.le_trans (by decide) hd) v1 h _ q1) ?_
  refine zF_blk (m := []) (d := 0) (b := B176_23) (gs := []) (c' := (215, [some (22, 0), some (0, v1), some (0, r1), some (0, 1), none], [], (hc, (mset (mset h 12 0 0) 8 0 0), o))) K176_23 rfl trivial ?_
  refine zF_blk (m := [true, false, true, true, false]) (d := 0) (b := []) (gs := []) (c' := (215, [some (22, 0), none, some (0, r1), some (0, 1), none], [], (hc, (mset (mset h 12 0 0) 8 0 0), o))) rfl rfl trivial ?_
  exact T176_7 hd zFu r1 1 (mset (mset h 12 0 0) 8 0 0) _ e
def F176_6 (v1 : Int) (s0 : Int) (h : zHM) : Option zHM := some (mset (mset (mset h 7 0 s0) 9 0 v1) 5 0 (wadd (h 5 0) 1))
set_option maxRecDepth 100000 in
theorem T176_6 {spec : zRn zH2} {hc : zHC} {o : Int → Int} {d : Nat} (hd : 1 ≤ d) (v1 : Int) (s0 : Int) (h : zHM) (v : zHM) (e : F176_6 v1 s0 h = some v) : zFin 0 (fun _ => 0) (zRu2 spec d) 176 none (hc, v, o) (179, [some (22, 0), some (0, v1), none, none, none], [(0, s0), (22, 0)], (hc, h, o)) := by
  unfold F176_6 at e
  refine zF_blk (m := []) (d := 0) (b := B176_20) (gs := []) (c' := (197, [some (22, 0), some (0, v1), none, none, none], [], (hc, (mset (mset (mset h 7 0 s0) 9 0 v1) 5 0 (wadd (h 5 0) 1)), o))) K176_20 rfl trivial ?_
  obtain rfl := Option.some.inj e
  exact zF_rv (zRe1_w (by decide +kernel))
def F176_5 (v1 : Int) (h : zHM) : Option zHM := F176_6 v1 4 h
set_option maxRecDepth 100000 in
theorem T176_5 {spec : zRn zH2} {hc : zHC} {o : Int → Int} {d : Nat} (hd : 1 ≤ d) (v1 : Int) (h : zHM) (v : zHM) (e : F176_5 v1 h = some v) : zFin 0 (fun _ => 0) (zRu2 spec d) 176 none (hc, v, o) (174, [some (22, 0), some (0, v1), none, none, none], [(22, 0)], (hc, h, o)) := by
  unfold F176_5 at e
  refine zF_blk (m := []) (d := 0) (b := B176_21) (gs := []) (c' := (179, [some (22, 0), some (0, v1), none, none, none], [(0, 4), (22, 0)], (hc, h, o))) K176_21 rfl trivial ?_
  exact T176_6 hd v1 4 h _ e
def F176_3 (h : zHM) : Option zHM := if (h 5 0) < (h 3 0) then zG (0 ≤ (h 5 0) ∧ (h 5 0) < 940) ((F177 (h 1 (h 5 0))).bind fun r1 => if ¬ r1 = 0 then F176_4 (h 1 (h 5 0)) h else (F178 (h 1 (h 5 0))).bind fun r2 => if ¬ r2 = 0 then F176_4 (h 1 (h 5 0)) h else if (h 1 (h 5 0)) = 59 then F176_5 (h 1 (h 5 0)) h else if (h 1 (h 5 0)) = 60 then F176_5 (h 1 (h 5 0)) h else if (h 1 (h 5 0)) = 61 then F176_5 (h 1 (h 5 0)) h else if (h 1 (h 5 0)) = 62 then F176_5 (h 1 (h 5 0)) h else if (h 1 (h 5 0)) = 40 then F176_5 (h 1 (h 5 0)) h else if ¬ (h 1 (h 5 0)) = 41 then F176_6 (h 1 (h 5 0)) 1 h else F176_5 (h 1 (h 5 0)) h) else some (mset h 7 0 0)
set_option maxRecDepth 100000 in
theorem T176_3 {spec : zRn zH2} {hc : zHC} {o : Int → Int} {d : Nat} (hd : 1 ≤ d) (h : zHM) (v : zHM) (e : F176_3 h = some v) : zFin 0 (fun _ => 0) (zRu2 spec d) 176 none (hc, v, o) (96, [some (22, 0), none, none, none, none], [], (hc, h, o)) := by
  unfold F176_3 at e
  rcases zI_s e with ⟨q1, e⟩ | ⟨q1, e⟩
  · refine zF_blk (m := []) (d := 1) (b := B176_19) (gs := [(h 5 0) < (h 3 0)]) (c' := (113, [some (22, 0), none, none, none, none], [], (hc, h, o))) K176_19 rfl ⟨q1, trivial⟩ ?_
    obtain ⟨q2, e⟩ := zG_s e
    obtain ⟨r1, q3, e⟩ := zB_s e
    refine zF_blk (m := []) (d := 0) (b := B176_7) (gs := [0 ≤ (h 5 0) ∧ (h 5 0) < 940]) (c' := (124, [some (22, 0), some (0, (h 1 (h 5 0))), none, none, none], [(0, (h 1 (h 5 0)))], (hc, h, o))) K176_7 rfl ⟨q2, trivial⟩ ?_
    refine zF_call (k := 177) (cl := 12) (n := 1) (i := .invokestatic 110) (args := [(0, (h 1 (h 5 0)))]) (rest := []) (g1 := (hc, h, o)) (r1 := some (0, r1)) (zCk1_w (by decide +kernel)) rfl rfl rfl (st' := [(0, r1)]) rfl (S177 (Nat.le_trans (by decide) hd) (h 1 (h 5 0)) h _ q3) ?_
    rcases zI_s e with ⟨q4, e⟩ | ⟨q4, e⟩
    · refine zF_blk (m := []) (d := 1) (b := B176_17) (gs := [¬ r1 = 0]) (c' := (198, [some (22, 0), some (0, (h 1 (h 5 0))), none, none, none], [], (hc, h, o))) K176_17 rfl ⟨q4, trivial⟩ ?_
      exact T176_4 hd (h 1 (h 5 0)) h _ e
    · refine zF_blk (m := []) (d := 0) (b := B176_17) (gs := [¬ (¬ r1 = 0)]) (c' := (130, [some (22, 0), some (0, (h 1 (h 5 0))), none, none, none], [], (hc, h, o))) K176_17 rfl ⟨q4, trivial⟩ ?_
      obtain ⟨r2, q5, e⟩ := zB_s e
      refine zF_blk (m := []) (d := 0) (b := B176_8) (gs := []) (c' := (131, [some (22, 0), some (0, (h 1 (h 5 0))), none, none, none], [(0, (h 1 (h 5 0)))], (hc, h, o))) K176_8 rfl trivial ?_
      refine zF_call (k := 178) (cl := 12) (n := 1) (i := .invokestatic 114) (args := [(0, (h 1 (h 5 0)))]) (rest := []) (g1 := (hc, h, o)) (r1 := some (0, r2)) (zCk1_w (by decide +kernel)) rfl rfl rfl (st' := [(0, r2)]) rfl (S178 (Nat.le_trans (by decide) hd) (h 1 (h 5 0)) h _ q5) ?_
      rcases zI_s e with ⟨q6, e⟩ | ⟨q6, e⟩
      · refine zF_blk (m := []) (d := 1) (b := B176_16) (gs := [¬ r2 = 0]) (c' := (198, [some (22, 0), some (0, (h 1 (h 5 0))), none, none, none], [], (hc, h, o))) K176_16 rfl ⟨q6, trivial⟩ ?_
        exact T176_4 hd (h 1 (h 5 0)) h _ e
      · refine zF_blk (m := []) (d := 0) (b := B176_16) (gs := [¬ (¬ r2 = 0)]) (c' := (137, [some (22, 0), some (0, (h 1 (h 5 0))), none, none, none], [], (hc, h, o))) K176_16 rfl ⟨q6, trivial⟩ ?_
        rcases zI_s e with ⟨q7, e⟩ | ⟨q7, e⟩
        · refine zF_blk (m := []) (d := 1) (b := B176_15) (gs := [(h 1 (h 5 0)) = 59]) (c' := (174, [some (22, 0), some (0, (h 1 (h 5 0))), none, none, none], [(22, 0)], (hc, h, o))) K176_15 rfl ⟨q7, trivial⟩ ?_
          exact T176_5 hd (h 1 (h 5 0)) h _ e
        · refine zF_blk (m := []) (d := 0) (b := B176_15) (gs := [¬ ((h 1 (h 5 0)) = 59)]) (c' := (144, [some (22, 0), some (0, (h 1 (h 5 0))), none, none, none], [(22, 0)], (hc, h, o))) K176_15 rfl ⟨q7, trivial⟩ ?_
          rcases zI_s e with ⟨q8, e⟩ | ⟨q8, e⟩
          · refine zF_blk (m := []) (d := 1) (b := B176_14) (gs := [(h 1 (h 5 0)) = 60]) (c' := (174, [some (22, 0), some (0, (h 1 (h 5 0))), none, none, none], [(22, 0)], (hc, h, o))) K176_14 rfl ⟨q8, trivial⟩ ?_
            exact T176_5 hd (h 1 (h 5 0)) h _ e
          · refine zF_blk (m := []) (d := 0) (b := B176_14) (gs := [¬ ((h 1 (h 5 0)) = 60)]) (c' := (150, [some (22, 0), some (0, (h 1 (h 5 0))), none, none, none], [(22, 0)], (hc, h, o))) K176_14 rfl ⟨q8, trivial⟩ ?_
            rcases zI_s e with ⟨q9, e⟩ | ⟨q9, e⟩
            · refine zF_blk (m := []) (d := 1) (b := B176_13) (gs := [(h 1 (h 5 0)) = 61]) (c' := (174, [some (22, 0), some (0, (h 1 (h 5 0))), none, none, none], [(22, 0)], (hc, h, o))) K176_13 rfl ⟨q9, trivial⟩ ?_
              exact T176_5 hd (h 1 (h 5 0)) h _ e
            · refine zF_blk (m := []) (d := 0) (b := B176_13) (gs := [¬ ((h 1 (h 5 0)) = 61)]) (c' := (156, [some (22, 0), some (0, (h 1 (h 5 0))), none, none, none], [(22, 0)], (hc, h, o))) K176_13 rfl ⟨q9, trivial⟩ ?_
              rcases zI_s e with ⟨q10, e⟩ | ⟨q10, e⟩
              · refine zF_blk (m := []) (d := 1) (b := B176_12) (gs := [(h 1 (h 5 0)) = 62]) (c' := (174, [some (22, 0), some (0, (h 1 (h 5 0))), none, none, none], [(22, 0)], (hc, h, o))) K176_12 rfl ⟨q10, trivial⟩ ?_
                exact T176_5 hd (h 1 (h 5 0)) h _ e
              · refine zF_blk (m := []) (d := 0) (b := B176_12) (gs := [¬ ((h 1 (h 5 0)) = 62)]) (c' := (162, [some (22, 0), some (0, (h 1 (h 5 0))), none, none, none], [(22, 0)], (hc, h, o))) K176_12 rfl ⟨q10, trivial⟩ ?_
                rcases zI_s e with ⟨q11, e⟩ | ⟨q11, e⟩
                · refine zF_blk (m := []) (d := 1) (b := B176_11) (gs := [(h 1 (h 5 0)) = 40]) (c' := (174, [some (22, 0), some (0, (h 1 (h 5 0))), none, none, none], [(22, 0)], (hc, h, o))) K176_11 rfl ⟨q11, trivial⟩ ?_
                  exact T176_5 hd (h 1 (h 5 0)) h _ e
                · refine zF_blk (m := []) (d := 0) (b := B176_11) (gs := [¬ ((h 1 (h 5 0)) = 40)]) (c' := (168, [some (22, 0), some (0, (h 1 (h 5 0))), none, none, none], [(22, 0)], (hc, h, o))) K176_11 rfl ⟨q11, trivial⟩ ?_
                  rcases zI_s e with ⟨q12, e⟩ | ⟨q12, e⟩
                  · refine zF_blk (m := []) (d := 1) (b := B176_10) (gs := [¬ (h 1 (h 5 0)) = 41]) (c' := (178, [some (22, 0), some (0, (h 1 (h 5 0))), none, none, none], [(22, 0)], (hc, h, o))) K176_10 rfl ⟨q12, trivial⟩ ?_
                    refine zF_blk (m := []) (d := 0) (b := B176_9) (gs := []) (c' := (179, [some (22, 0), some (0, (h 1 (h 5 0))), none, none, none], [(0, 1), (22, 0)], (hc, h, o))) K176_9 rfl trivial ?_
                    exact T176_6 hd (h 1 (h 5 0)) 1 h _ e
                  · refine zF_blk (m := []) (d := 0) (b := B176_10) (gs := [¬ (¬ (h 1 (h 5 0)) = 41)]) (c' := (174, [some (22, 0), some (0, (h 1 (h 5 0))), none, none, none], [(22, 0)], (hc, h, o))) K176_10 rfl ⟨q12, trivial⟩ ?_
                    exact T176_5 hd (h 1 (h 5 0)) h _ e
  · refine zF_blk (m := []) (d := 0) (b := B176_19) (gs := [¬ ((h 5 0) < (h 3 0))]) (c' := (107, [some (22, 0), none, none, none, none], [], (hc, h, o))) K176_19 rfl ⟨q1, trivial⟩ ?_
    refine zF_blk (m := []) (d := 0) (b := B176_18) (gs := []) (c' := (112, [some (22, 0), none, none, none, none], [], (hc, (mset h 7 0 0), o))) K176_18 rfl trivial ?_
    obtain rfl := Option.some.inj e
    exact zF_rv (zRe1_w (by decide +kernel))
def F176_1 (h : zHM) : Option zHM := if (h 3 0) ≤ (h 4 0) then F176_3 (mset h 6 0 (h 5 0)) else if (h 5 0) < (h 4 0) then F176_3 (mset h 6 0 (h 5 0)) else some (mset (mset (mset h 6 0 (h 5 0)) 6 0 (h 4 0)) 7 0 1)
set_option maxRecDepth 100000 in
theorem T176_1 {spec : zRn zH2} {hc : zHC} {o : Int → Int} {d : Nat} (hd : 1 ≤ d) (h : zHM) (v : zHM) (e : F176_1 h = some v) : zFin 0 (fun _ => 0) (zRu2 spec d) 176 none (hc, v, o) (52, [some (22, 0), none, none, none, none], [], (hc, h, o)) := by
  unfold F176_1 at e
  rcases zI_s e with ⟨q1, e⟩ | ⟨q1, e⟩
  · refine zF_blk (m := []) (d := 1) (b := B176_6) (gs := [(h 3 0) ≤ (h 4 0)]) (c' := (96, [some (22, 0), none, none, none, none], [], (hc, (mset h 6 0 (h 5 0)), o))) K176_6 rfl ⟨q1, trivial⟩ ?_
    exact T176_3 hd (mset h 6 0 (h 5 0)) _ e
  · refine zF_blk (m := []) (d := 0) (b := B176_6) (gs := [¬ ((h 3 0) ≤ (h 4 0))]) (c' := (71, [some (22, 0), none, none, none, none], [], (hc, (mset h 6 0 (h 5 0)), o))) K176_6 rfl ⟨q1, trivial⟩ ?_
    rcases zI_s e with ⟨q2, e⟩ | ⟨q2, e⟩
    · refine zF_blk (m := []) (d := 1) (b := B176_5) (gs := [(h 5 0) < (h 4 0)]) (c' := (96, [some (22, 0), none, none, none, none], [], (hc, (mset h 6 0 (h 5 0)), o))) K176_5 rfl ⟨q2, trivial⟩ ?_
      exact T176_3 hd (mset h 6 0 (h 5 0)) _ e
    · refine zF_blk (m := []) (d := 0) (b := B176_5) (gs := [¬ ((h 5 0) < (h 4 0))]) (c' := (82, [some (22, 0), none, none, none, none], [], (hc, (mset h 6 0 (h 5 0)), o))) K176_5 rfl ⟨q2, trivial⟩ ?_
      refine zF_blk (m := []) (d := 0) (b := B176_4) (gs := []) (c' := (95, [some (22, 0), none, none, none, none], [], (hc, (mset (mset (mset h 6 0 (h 5 0)) 6 0 (h 4 0)) 7 0 1), o))) K176_4 rfl trivial ?_
      obtain rfl := Option.some.inj e
      exact zF_rv (zRe1_w (by decide +kernel))
def F176_2 (k0 : zHM → Option zHM) (h : zHM) : Option zHM := k0 (mset h 5 0 (wadd (h 5 0) 1))
set_option maxRecDepth 100000 in
theorem T176_2 {spec : zRn zH2} {hc : zHC} {o : Int → Int} {d : Nat} (hd : 1 ≤ d) (k0 : zHM → Option zHM) (hk0 : ∀ (h : zHM) (v : zHM), k0 h = some v → zFin 0 (fun _ => 0) (zRu2 spec d) 176 none (hc, v, o) (0, [some (22, 0), none, none, none, none], [], (hc, h, o))) (h : zHM) (v : zHM) (e : F176_2 k0 h = some v) : zFin 0 (fun _ => 0) (zRu2 spec d) 176 none (hc, v, o) (39, [some (22, 0), none, none, none, none], [], (hc, h, o)) := by
  unfold F176_2 at e
  refine zF_blk (m := []) (d := 0) (b := B176_3) (gs := []) (c' := (0, [some (22, 0), none, none, none, none], [], (hc, (mset h 5 0 (wadd (h 5 0) 1)), o))) K176_3 rfl trivial ?_
  exact hk0 (mset h 5 0 (wadd (h 5 0) 1)) _ e
def F176_0 : Nat → zHM → Option zHM
  | 0, _ => none
  | n + 1, h => if (h 3 0) ≤ (h 5 0) then F176_1 h else zG (0 ≤ (h 5 0) ∧ (h 5 0) < 940) (if (h 1 (h 5 0)) = 32 then F176_2 (F176_0 n) h else zG (0 ≤ (h 5 0) ∧ (h 5 0) < 940) (if ¬ (h 1 (h 5 0)) = 10 then F176_1 h else F176_2 (F176_0 n) h))
set_option maxRecDepth 100000 in
theorem T176_0 {spec : zRn zH2} {hc : zHC} {o : Int → Int} {d : Nat} (hd : 1 ≤ d) : ∀ (n : Nat) (h : zHM) (v : zHM), F176_0 n h = some v → zFin 0 (fun _ => 0) (zRu2 spec d) 176 none (hc, v, o) (0, [some (22, 0), none, none, none, none], [], (hc, h, o)) := by
  intro n
  induction n with
  | zero => intro h v e; unfold F176_0 at e; cases e
  | succ n hk0 =>
    intro h v e
    unfold F176_0 at e
    rcases zI_s e with ⟨q1, e⟩ | ⟨q1, e⟩
    · refine zF_blk (m := []) (d := 1) (b := B176_2) (gs := [(h 3 0) ≤ (h 5 0)]) (c' := (52, [some (22, 0), none, none, none, none], [], (hc, h, o))) K176_2 rfl ⟨q1, trivial⟩ ?_
      exact T176_1 hd h _ e
    · refine zF_blk (m := []) (d := 0) (b := B176_2) (gs := [¬ ((h 3 0) ≤ (h 5 0))]) (c' := (11, [some (22, 0), none, none, none, none], [], (hc, h, o))) K176_2 rfl ⟨q1, trivial⟩ ?_
      obtain ⟨q2, e⟩ := zG_s e
      rcases zI_s e with ⟨q3, e⟩ | ⟨q3, e⟩
      · refine zF_blk (m := []) (d := 1) (b := B176_1) (gs := [0 ≤ (h 5 0) ∧ (h 5 0) < 940, (h 1 (h 5 0)) = 32]) (c' := (39, [some (22, 0), none, none, none, none], [], (hc, h, o))) K176_1 rfl ⟨q2, q3, trivial⟩ ?_
        exact T176_2 hd (F176_0 n) hk0 h _ e
      · refine zF_blk (m := []) (d := 0) (b := B176_1) (gs := [0 ≤ (h 5 0) ∧ (h 5 0) < 940, ¬ ((h 1 (h 5 0)) = 32)]) (c' := (25, [some (22, 0), none, none, none, none], [], (hc, h, o))) K176_1 rfl ⟨q2, q3, trivial⟩ ?_
        obtain ⟨q4, e⟩ := zG_s e
        rcases zI_s e with ⟨q5, e⟩ | ⟨q5, e⟩
        · refine zF_blk (m := []) (d := 1) (b := B176_0) (gs := [0 ≤ (h 5 0) ∧ (h 5 0) < 940, ¬ (h 1 (h 5 0)) = 10]) (c' := (52, [some (22, 0), none, none, none, none], [], (hc, h, o))) K176_0 rfl ⟨q4, q5, trivial⟩ ?_
          exact T176_1 hd h _ e
        · refine zF_blk (m := []) (d := 0) (b := B176_0) (gs := [0 ≤ (h 5 0) ∧ (h 5 0) < 940, ¬ (¬ (h 1 (h 5 0)) = 10)]) (c' := (39, [some (22, 0), none, none, none, none], [], (hc, h, o))) K176_0 rfl ⟨q4, q5, trivial⟩ ?_
          exact T176_2 hd (F176_0 n) hk0 h _ e
/-- EchoValeModel.go()V -/
def F176 (h : zHM) : Option zHM := F176_0 zFu h
set_option maxRecDepth 100000 in
theorem S176 {spec : zRn zH2} {hc : zHC} {o : Int → Int} {d : Nat} (hd : 2 ≤ d) (h : zHM) (v : zHM) (e : F176 h = some v) : zRu2 spec d 176 [(22, 0)] (hc, h, o) none (hc, v, o) := by
  refine zF_in (D := 1) (mx := 5) (L := [some (22, 0), none, none, none, none]) (by decide +kernel) rfl rfl hd (fun d hd => ?_)
  unfold F176 at e
  exact T176_0 hd zFu h _ e
