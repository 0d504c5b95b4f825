/-! Functions of the methods, by wip/gen/lift.py. -/
def B41_0 : List zRow := [(23, .aload_n 0, 1, (0, 0, 0)), (24, .getfield 18, 3, (10, 2, 23))]
theorem K41_0 : zRk 41 B41_0 = true := by decide +kernel
def B41_1 : List zRow := [(30, .aload_n 0, 1, (0, 0, 0))]
theorem K41_1 : zRk 41 B41_1 = true := by decide +kernel
def B41_2 : List zRow := [(39, .aload_n 0, 1, (0, 0, 0)), (40, .getfield 18, 3, (10, 2, 23)), (43, .getfield 95, 3, (5, 7, 1)), (46, .lstore_n 2, 1, (0, 0, 0)), (47, .aload_n 0, 1, (0, 0, 0)), (48, .getfield 18, 3, (10, 2, 23))]
theorem K41_2 : zRk 41 B41_2 = true := by decide +kernel
def B41_3 : List zRow := [(54, .aload_n 0, 1, (0, 0, 0))]
theorem K41_3 : zRk 41 B41_3 = true := by decide +kernel
def B41_4 : List zRow := [(68, .aload_n 0, 1, (0, 0, 0)), (69, .getfield 12, 3, (10, 0, 167)), (72, .getfield 123, 3, (9, 11, 5505050)), (75, .iload_n 1, 1, (0, 0, 0)), (76, .lload_n 2, 1, (0, 0, 0)), (77, .lastore, 1, (0, 0, 0)), (78, .aload_n 0, 1, (0, 0, 0)), (79, .getfield 12, 3, (10, 0, 167)), (82, .getfield 126, 3, (9, 12, 5242906)), (85, .iload_n 1, 1, (0, 0, 0)), (86, .iload 4, 2, (0, 0, 0)), (88, .iastore, 1, (0, 0, 0)), (89, .aload_n 0, 1, (0, 0, 0)), (90, .getfield 12, 3, (10, 0, 167)), (93, .getfield 129, 3, (9, 13, 5242906)), (96, .iload_n 1, 1, (0, 0, 0)), (97, .iconst (-1), 1, (0, 0, 0)), (98, .iastore, 1, (0, 0, 0)), (99, .aload_n 0, 1, (0, 0, 0)), (100, .getfield 12, 3, (10, 0, 167)), (103, .iload_n 1, 1, (0, 0, 0)), (104, .iconst 1, 1, (0, 0, 0)), (105, .iadd, 1, (0, 0, 0)), (106, .putfield 120, 3, (9, 3, 0)), (109, .aload_n 0, 1, (0, 0, 0)), (110, .getfield 18, 3, (10, 2, 23))]
theorem K41_4 : zRk 41 B41_4 = true := by decide +kernel
def B41_5 : List zRow := [(116, .iconst 1, 1, (0, 0, 0))]
theorem K41_5 : zRk 41 B41_5 = true := by decide +kernel
def B41_6 : List zRow := [(66, .iconst 0, 1, (0, 0, 0))]
theorem K41_6 : zRk 41 B41_6 = true := by decide +kernel
def B41_7 : List zRow := [(58, .istore 4, 2, (0, 0, 0)), (60, .iload 4, 2, (0, 0, 0)), (62, .iconst (-1), 1, (0, 0, 0)), (63, .if_icmp .ne 5, 3, (0, 0, 0))]
theorem K41_7 : zRk 41 B41_7 = true := by decide +kernel
def B41_8 : List zRow := [(37, .iconst 0, 1, (0, 0, 0))]
theorem K41_8 : zRk 41 B41_8 = true := by decide +kernel
def B41_9 : List zRow := [(34, .ifCond .ne 5, 3, (0, 0, 0))]
theorem K41_9 : zRk 41 B41_9 = true := by decide +kernel
def B41_10 : List zRow := [(14, .aload_n 0, 1, (0, 0, 0)), (15, .getfield 18, 3, (10, 2, 23)), (18, .iconst 4, 1, (0, 0, 0))]
theorem K41_10 : zRk 41 B41_10 = true := by decide +kernel
def B41_11 : List zRow := [(0, .aload_n 0, 1, (0, 0, 0)), (1, .getfield 12, 3, (10, 0, 167)), (4, .getfield 120, 3, (9, 3, 0)), (7, .istore_n 1, 1, (0, 0, 0)), (8, .iload_n 1, 1, (0, 0, 0)), (9, .bipush 6, 2, (0, 0, 0)), (11, .if_icmp .lt 12, 3, (0, 0, 0))]
theorem K41_11 : zRk 41 B41_11 = true := by decide +kernel
/-- EchoVale$ValleyText.readPerson()Z -/
def F41 (h : zHC) : Option (Int × zHC) := if (h 579 1 0) < 6 then (F21 h).bind fun r1 => (F35 r1).bind fun r2 => if ¬ r2.1 = 0 then (F21 r2.2).bind fun r3 => (F39 r3).bind fun r4 => if ¬ r4.1 = (-1) then zG (0 ≤ (h 579 1 0) ∧ (h 579 1 0) < 6) (zG (0 ≤ (h 579 1 0) ∧ (h 579 1 0) < 6) (zG (0 ≤ (h 579 1 0) ∧ (h 579 1 0) < 6) ((F21 (hset (hset (hset (hset r4.2 587 1 (h 579 1 0) (r2.2 327 0 0)) 588 1 (h 579 1 0) r4.1) 589 1 (h 579 1 0) (-1)) 579 1 0 (wadd (h 579 1 0) 1))).bind fun r5 => some (1, r5)))) else some (0, r4.2) else some (0, r2.2) else (F31 4 h).bind fun r6 => zG (r6.1 = 0 ∨ r6.1 = 1) (some (r6.1, r6.2))
set_option maxRecDepth 100000 in
theorem S41 {spec : zRn zH2} {hm : zHM} {o : Int → Int} {d : Nat} (hd : 5 ≤ d) (h : zHC) (v : (Int × zHC)) (e : F41 h = some v) : zRu2 spec d 41 [(20, 0)] (h, hm, o) (some (0, v.1)) (v.2, hm, o) := by
  refine zF_in (D := 4) (mx := 5) (L := [some (20, 0), none, none, none, none]) (by decide +kernel) rfl rfl hd (fun d hd => ?_)
  unfold F41 at e
  rcases zI_s e with ⟨q1, e⟩ | ⟨q1, e⟩
  · refine zF_blk (m := []) (d := 1) (b := B41_11) (gs := [(h 579 1 0) < 6]) (c' := (23, [some (20, 0), some (0, (h 579 1 0)), none, none, none], [], (h, hm, o))) K41_11 rfl ⟨q1, trivial⟩ ?_
    obtain ⟨r1, q2, e⟩ := zB_s e
    refine zF_blk (m := []) (d := 0) (b := B41_0) (gs := []) (c' := (27, [some (20, 0), some (0, (h 579 1 0)), none, none, none], [(15, 0)], (h, hm, o))) K41_0 rfl trivial ?_
    refine zF_call (k := 21) (cl := 5) (n := 1) (i := .invokevirtual 79) (args := [(15, 0)]) (rest := []) (g1 := (r1, hm, o)) (r1 := none) (by decide +kernel) rfl rfl rfl (st' := []) rfl (S21 (Nat.le_trans (by decide) hd)  h _ q2) ?_
    obtain ⟨r2, q3, e⟩ := zB_s e
    refine zF_blk (m := []) (d := 0) (b := B41_1) (gs := []) (c' := (31, [some (20, 0), some (0, (h 579 1 0)), none, none, none], [(20, 0)], (r1, hm, o))) K41_1 rfl trivial ?_
    refine zF_call (k := 35) (cl := 10) (n := 1) (i := .invokevirtual 92) (args := [(20, 0)]) (rest := []) (g1 := (r2.2, hm, o)) (r1 := some (0, r2.1)) (by decide +kernel) rfl rfl rfl (st' := [(0, r2.1)]) rfl (S35 (Nat.le_trans (by decide) hd)  r1 _ q3) ?_
    rcases zI_s e with ⟨q4, e⟩ | ⟨q4, e⟩
    · refine zF_blk (m := []) (d := 1) (b := B41_9) (gs := [¬ r2.1 = 0]) (c' := (39, [some (20, 0), some (0, (h 579 1 0)), none, none, none], [], (r2.2, hm, o))) K41_9 rfl ⟨q4, trivial⟩ ?_
      obtain ⟨r3, q5, e⟩ := zB_s e
      refine zF_blk (m := []) (d := 0) (b := B41_2) (gs := []) (c' := (51, [some (20, 0), some (0, (h 579 1 0)), some (1, (r2.2 327 0 0)), none, none], [(15, 0)], (r2.2, hm, o))) K41_2 rfl trivial ?_
      refine zF_call (k := 21) (cl := 5) (n := 1) (i := .invokevirtual 79) (args := [(15, 0)]) (rest := []) (g1 := (r3, hm, o)) (r1 := none) (by decide +kernel) rfl rfl rfl (st' := []) rfl (S21 (Nat.le_trans (by decide) hd)  r2.2 _ q5) ?_
      obtain ⟨r4, q6, e⟩ := zB_s e
      refine zF_blk (m := []) (d := 0) (b := B41_3) (gs := []) (c' := (55, [some (20, 0), some (0, (h 579 1 0)), some (1, (r2.2 327 0 0)), none, none], [(20, 0)], (r3, hm, o))) K41_3 rfl trivial ?_
      refine zF_call (k := 39) (cl := 10) (n := 1) (i := .invokevirtual 99) (args := [(20, 0)]) (rest := []) (g1 := (r4.2, hm, o)) (r1 := some (0, r4.1)) (by decide +kernel) rfl rfl rfl (st' := [(0, r4.1)]) rfl (S39 (Nat.le_trans (by decide) hd)  r3 _ q6) ?_
      rcases zI_s e with ⟨q7, e⟩ | ⟨q7, e⟩
      · refine zF_blk (m := []) (d := 1) (b := B41_7) (gs := [¬ r4.1 = (-1)]) (c' := (68, [some (20, 0), some (0, (h 579 1 0)), some (1, (r2.2 327 0 0)), none, some (0, r4.1)], [], (r4.2, hm, o))) K41_7 rfl ⟨q7, trivial⟩ ?_
        obtain ⟨q8, e⟩ := zG_s e
        obtain ⟨q8, e⟩ := zG_s e
        obtain ⟨q8, e⟩ := zG_s e
        obtain ⟨r5, q9, e⟩ := zB_s e
        refine zF_blk (m := []) (d := 0) (b := B41_4) (gs := [0 ≤ (h 579 1 0) ∧ (h 579 1 0) < 6, 0 ≤ (h 579 1 0) ∧ (h 579 1 0) < 6, 0 ≤ (h 579 1 0) ∧ (h 579 1 0) < 6]) (c' := (113, [some (20, 0), some (0, (h 579 1 0)), some (1, (r2.2 327 0 0)), none, some (0, r4.1)], [(15, 0)], ((hset (hset (hset (hset r4.2 587 1 (h 579 1 0) (r2.2 327 0 0)) 588 1 (h 579 1 0) r4.1) 589 1 (h 579 1 0) (-1)) 579 1 0 (wadd (h 579 1 0) 1)), hm, o))) K41_4 rfl ⟨q8, q8, q8, trivial⟩ ?_
        refine zF_call (k := 21) (cl := 5) (n := 1) (i := .invokevirtual 79) (args := [(15, 0)]) (rest := []) (g1 := (r5, hm, o)) (r1 := none) (by decide +kernel) rfl rfl rfl (st' := []) rfl (S21 (Nat.le_trans (by decide) hd)  (hset (hset (hset (hset r4.2 587 1 (h 579 1 0) (r2.2 327 0 0)) 588 1 (h 579 1 0) r4.1) 589 1 (h 579 1 0) (-1)) 579 1 0 (wadd (h 579 1 0) 1)) _ q9) ?_
        refine zF_blk (m := []) (d := 0) (b := B41_5) (gs := []) (c' := (117, [some (20, 0), some (0, (h 579 1 0)), some (1, (r2.2 327 0 0)), none, some (0, r4.1)], [(0, 1)], (r5, hm, o))) K41_5 rfl trivial ?_
        exact zF_rbC (by decide +kernel) (Or.inr rfl) e
      · refine zF_blk (m := []) (d := 0) (b := B41_7) (gs := [¬ (¬ r4.1 = (-1))]) (c' := (66, [some (20, 0), some (0, (h 579 1 0)), some (1, (r2.2 327 0 0)), none, some (0, r4.1)], [], (r4.2, hm, o))) K41_7 rfl ⟨q7, trivial⟩ ?_
        refine zF_blk (m := []) (d := 0) (b := B41_6) (gs := []) (c' := (67, [some (20, 0), some (0, (h 579 1 0)), some (1, (r2.2 327 0 0)), none, some (0, r4.1)], [(0, 0)], (r4.2, hm, o))) K41_6 rfl trivial ?_
        exact zF_rbC (by decide +kernel) (Or.inl rfl) e
    · refine zF_blk (m := []) (d := 0) (b := B41_9) (gs := [¬ (¬ r2.1 = 0)]) (c' := (37, [some (20, 0), some (0, (h 579 1 0)), none, none, none], [], (r2.2, hm, o))) K41_9 rfl ⟨q4, trivial⟩ ?_
      refine zF_blk (m := []) (d := 0) (b := B41_8) (gs := []) (c' := (38, [some (20, 0), some (0, (h 579 1 0)), none, none, none], [(0, 0)], (r2.2, hm, o))) K41_8 rfl trivial ?_
      exact zF_rbC (by decide +kernel) (Or.inl rfl) e
  · refine zF_blk (m := []) (d := 0) (b := B41_11) (gs := [¬ ((h 579 1 0) < 6)]) (c' := (14, [some (20, 0), some (0, (h 579 1 0)), none, none, none], [], (h, hm, o))) K41_11 rfl ⟨q1, trivial⟩ ?_
    obtain ⟨r6, q10, e⟩ := zB_s e
    refine zF_blk (m := []) (d := 0) (b := B41_10) (gs := []) (c' := (19, [some (20, 0), some (0, (h 579 1 0)), none, none, none], [(0, 4), (15, 0)], (h, hm, o))) K41_10 rfl trivial ?_
    refine zF_call (k := 31) (cl := 5) (n := 2) (i := .invokevirtual 49) (args := [(15, 0), (0, 4)]) (rest := []) (g1 := (r6.2, hm, o)) (r1 := some (0, r6.1)) (by decide +kernel) rfl rfl rfl (st' := [(0, r6.1)]) rfl (S31 (Nat.le_trans (by decide) hd) 4 h _ q10) ?_
    obtain ⟨q11, e⟩ := zG_s e
    exact zF_rbC (by decide +kernel) q11 e
def B43_0 : List zRow := [(16, .aload_n 1, 1, (0, 0, 0)), (17, .aload_n 0, 1, (0, 0, 0)), (18, .getfield 88, 3, (5, 7, 1))]
theorem K43_0 : zRk 43 B43_0 = true := by decide +kernel
def B43_1 : List zRow := [(36, .iload_n 2, 1, (0, 0, 0))]
theorem K43_1 : zRk 43 B43_1 = true := by decide +kernel
def B43_2 : List zRow := [(30, .aload_n 0, 1, (0, 0, 0)), (31, .iconst 3, 1, (0, 0, 0))]
theorem K43_2 : zRk 43 B43_2 = true := by decide +kernel
def B43_3 : List zRow := [(35, .pop, 1, (0, 0, 0)), (36, .iload_n 2, 1, (0, 0, 0))]
theorem K43_3 : zRk 43 B43_3 = true := by decide +kernel
def B43_4 : List zRow := [(24, .istore_n 2, 1, (0, 0, 0)), (25, .iload_n 2, 1, (0, 0, 0)), (26, .iconst (-1), 1, (0, 0, 0)), (27, .if_icmp .ne 9, 3, (0, 0, 0))]
theorem K43_4 : zRk 43 B43_4 = true := by decide +kernel
def B43_5 : List zRow := [(8, .aload_n 0, 1, (0, 0, 0)), (9, .iconst 1, 1, (0, 0, 0))]
theorem K43_5 : zRk 43 B43_5 = true := by decide +kernel
def B43_6 : List zRow := [(13, .pop, 1, (0, 0, 0)), (14, .iconst (-1), 1, (0, 0, 0))]
theorem K43_6 : zRk 43 B43_6 = true := by decide +kernel
def B43_7 : List zRow := [(0, .aload_n 0, 1, (0, 0, 0)), (1, .getfield 70, 3, (5, 4, 0)), (4, .iconst 2, 1, (0, 0, 0)), (5, .if_icmp .eq 11, 3, (0, 0, 0))]
theorem K43_7 : zRk 43 B43_7 = true := by decide +kernel
/-- EchoVale$Reader.personHere(LEchoVale$Valley;)I -/
def F43 (v1 : Int) (h : zHC) : Option (Int × zHC) := if (h 324 0 0) = 2 then (F38 v1 (h 327 0 0) h).bind fun r1 => if ¬ r1 = (-1) then some (r1, h) else (F31 3 h).bind fun r2 => some (r1, r2.2) else (F31 1 h).bind fun r3 => some ((-1), r3.2)
set_option maxRecDepth 100000 in
theorem S43 {spec : zRn zH2} {hm : zHM} {o : Int → Int} {d : Nat} (hd : 2 ≤ d) (v1 : Int) (h : zHC) (v : (Int × zHC)) (e : F43 v1 h = some v) : zRu2 spec d 43 [(15, 0), (19, v1)] (h, hm, o) (some (0, v.1)) (v.2, hm, o) := by
  refine zF_in (D := 1) (mx := 3) (L := [some (15, 0), some (19, v1), none]) (by decide +kernel) rfl rfl hd (fun d hd => ?_)
  unfold F43 at e
  rcases zI_s e with ⟨q1, e⟩ | ⟨q1, e⟩
  · refine zF_blk (m := []) (d := 1) (b := B43_7) (gs := [(h 324 0 0) = 2]) (c' := (16, [some (15, 0), some (19, v1), none], [], (h, hm, o))) K43_7 rfl ⟨q1, trivial⟩ ?_
    obtain ⟨r1, q2, e⟩ := zB_s e
    refine zF_blk (m := []) (d := 0) (b := B43_0) (gs := []) (c' := (21, [some (15, 0), some (19, v1), none], [(1, (h 327 0 0)), (19, v1)], (h, hm, o))) K43_0 rfl trivial ?_
    refine zF_call (k := 38) (cl := 9) (n := 2) (i := .invokevirtual 102) (args := [(19, v1), (1, (h 327 0 0))]) (rest := []) (g1 := (h, hm, o)) (r1 := some (0, r1)) (by decide +kernel) rfl rfl rfl (st' := [(0, r1)]) rfl (S38 (Nat.le_trans (by decide) hd) v1 (h 327 0 0) h _ q2) ?_
    rcases zI_s e with ⟨q3, e⟩ | ⟨q3, e⟩
    · refine zF_blk (m := []) (d := 1) (b := B43_4) (gs := [¬ r1 = (-1)]) (c' := (36, [some (15, 0), some (19, v1), some (0, r1)], [], (h, hm, o))) K43_4 rfl ⟨q3, trivial⟩ ?_
      refine zF_blk (m := []) (d := 0) (b := B43_1) (gs := []) (c' := (37, [some (15, 0), some (19, v1), some (0, r1)], [(0, r1)], (h, hm, o))) K43_1 rfl trivial ?_
      exact zF_riC (by decide +kernel) e
    · refine zF_blk (m := []) (d := 0) (b := B43_4) (gs := [¬ (¬ r1 = (-1))]) (c' := (30, [some (15, 0), some (19, v1), some (0, r1)], [], (h, hm, o))) K43_4 rfl ⟨q3, trivial⟩ ?_
      obtain ⟨r2, q4, e⟩ := zB_s e
      refine zF_blk (m := []) (d := 0) (b := B43_2) (gs := []) (c' := (32, [some (15, 0), some (19, v1), some (0, r1)], [(0, 3), (15, 0)], (h, hm, o))) K43_2 rfl trivial ?_
      refine zF_call (k := 31) (cl := 5) (n := 2) (i := .invokevirtual 96) (args := [(15, 0), (0, 3)]) (rest := []) (g1 := (r2.2, hm, o)) (r1 := some (0, r2.1)) (by decide +kernel) rfl rfl rfl (st' := [(0, r2.1)]) rfl (S31 (Nat.le_trans (by decide) hd) 3 h _ q4) ?_
      refine zF_blk (m := []) (d := 0) (b := B43_3) (gs := []) (c' := (37, [some (15, 0), some (19, v1), some (0, r1)], [(0, r1)], (r2.2, hm, o))) K43_3 rfl trivial ?_
      exact zF_riC (by decide +kernel) e
  · refine zF_blk (m := []) (d := 0) (b := B43_7) (gs := [¬ ((h 324 0 0) = 2)]) (c' := (8, [some (15, 0), some (19, v1), none], [], (h, hm, o))) K43_7 rfl ⟨q1, trivial⟩ ?_
    obtain ⟨r3, q5, e⟩ := zB_s e
    refine zF_blk (m := []) (d := 0) (b := B43_5) (gs := []) (c' := (10, [some (15, 0), some (19, v1), none], [(0, 1), (15, 0)], (h, hm, o))) K43_5 rfl trivial ?_
    refine zF_call (k := 31) (cl := 5) (n := 2) (i := .invokevirtual 96) (args := [(15, 0), (0, 1)]) (rest := []) (g1 := (r3.2, hm, o)) (r1 := some (0, r3.1)) (by decide +kernel) rfl rfl rfl (st' := [(0, r3.1)]) rfl (S31 (Nat.le_trans (by decide) hd) 1 h _ q5) ?_
    refine zF_blk (m := []) (d := 0) (b := B43_6) (gs := []) (c' := (15, [some (15, 0), some (19, v1), none], [(0, (-1))], (r3.2, hm, o))) K43_6 rfl trivial ?_
    exact zF_riC (by decide +kernel) e
def B44_0 : List zRow := [(0, .iconst 0, 1, (0, 0, 0)), (1, .istore_n 3, 1, (0, 0, 0))]
theorem K44_0 : zRk 44 B44_0 = true := by decide +kernel
def B44_1 : List zRow := [(38, .iconst 0, 1, (0, 0, 0))]
theorem K44_1 : zRk 44 B44_1 = true := by decide +kernel
def B44_2 : List zRow := [(30, .iconst 1, 1, (0, 0, 0))]
theorem K44_2 : zRk 44 B44_2 = true := by decide +kernel
def B44_3 : List zRow := [(20, .aload_n 0, 1, (0, 0, 0)), (21, .getfield 34, 3, (9, 14, 5242962)), (24, .iload_n 3, 1, (0, 0, 0)), (25, .iaload, 1, (0, 0, 0)), (26, .iload_n 2, 1, (0, 0, 0)), (27, .if_icmp .ne 5, 3, (0, 0, 0))]
theorem K44_3 : zRk 44 B44_3 = true := by decide +kernel
def B44_4 : List zRow := [(10, .aload_n 0, 1, (0, 0, 0)), (11, .getfield 37, 3, (9, 15, 5242962)), (14, .iload_n 3, 1, (0, 0, 0)), (15, .iaload, 1, (0, 0, 0)), (16, .iload_n 1, 1, (0, 0, 0)), (17, .if_icmp .ne 15, 3, (0, 0, 0))]
theorem K44_4 : zRk 44 B44_4 = true := by decide +kernel
def B44_5 : List zRow := [(2, .iload_n 3, 1, (0, 0, 0)), (3, .aload_n 0, 1, (0, 0, 0)), (4, .getfield 65, 3, (9, 4, 0)), (7, .if_icmp .ge 31, 3, (0, 0, 0))]
theorem K44_5 : zRk 44 B44_5 = true := by decide +kernel
def B44_6 : List zRow := [(32, .iinc 3 1, 3, (0, 0, 0)), (35, .goto (-33), 3, (0, 0, 0))]
theorem K44_6 : zRk 44 B44_6 = true := by decide +kernel
def F44_1 (k0 : Int → Int → Int → Int → Option Int) (h : zHC) (v0 : Int) (v1 : Int) (v2 : Int) (v3 : Int) : Option Int := k0 v0 v1 v2 (wadd v3 1)
set_option maxRecDepth 100000 in
theorem T44_1 {spec : zRn zH2} {hm : zHM} {o : Int → Int} {d : Nat} (hd : 0 ≤ d) (h : zHC) (k0 : Int → Int → Int → Int → Option Int) (hk0 : ∀ (v0 : Int) (v1 : Int) (v2 : Int) (v3 : Int) (v : Int), k0 v0 v1 v2 v3 = some v → zFin 0 (fun _ => 0) (zRu2 spec d) 44 (some (0, v)) (h, hm, o) (2, [some (19, v0), some (0, v1), some (0, v2), some (0, v3)], [], (h, hm, o))) (v0 : Int) (v1 : Int) (v2 : Int) (v3 : Int) (v : Int) (e : F44_1 k0 h v0 v1 v2 v3 = some v) : zFin 0 (fun _ => 0) (zRu2 spec d) 44 (some (0, v)) (h, hm, o) (32, [some (19, v0), some (0, v1), some (0, v2), some (0, v3)], [], (h, hm, o)) := by
  unfold F44_1 at e
  refine zF_blk (m := []) (d := 0) (b := B44_6) (gs := []) (c' := (2, [some (19, v0), some (0, v1), some (0, v2), some (0, (wadd v3 1))], [], (h, hm, o))) K44_6 rfl trivial ?_
  exact hk0 v0 v1 v2 (wadd v3 1) _ e
def F44_0 (h : zHC) : Nat → Int → Int → Int → Int → Option Int
  | 0, _, _, _, _ => none
  | n + 1, v0, v1, v2, v3 => if (h 580 v0 0) ≤ v3 then some 0 else zG (0 ≤ v3 ∧ v3 < 20) (if ¬ (h 591 v0 v3) = v1 then F44_1 (F44_0 h n) h v0 v1 v2 v3 else zG (0 ≤ v3 ∧ v3 < 20) (if ¬ (h 590 v0 v3) = v2 then F44_1 (F44_0 h n) h v0 v1 v2 v3 else some 1))
set_option maxRecDepth 100000 in
theorem T44_0 {spec : zRn zH2} {hm : zHM} {o : Int → Int} {d : Nat} (hd : 0 ≤ d) (h : zHC) : ∀ (n : Nat) (v0 : Int) (v1 : Int) (v2 : Int) (v3 : Int) (v : Int), F44_0 h n v0 v1 v2 v3 = some v → zFin 0 (fun _ => 0) (zRu2 spec d) 44 (some (0, v)) (h, hm, o) (2, [some (19, v0), some (0, v1), some (0, v2), some (0, v3)], [], (h, hm, o)) := by
  intro n
  induction n with
  | zero => intro v0 v1 v2 v3 v e; unfold F44_0 at e; cases e
  | succ n hk0 =>
    intro v0 v1 v2 v3 v e
    unfold F44_0 at e
    rcases zI_s e with ⟨q1, e⟩ | ⟨q1, e⟩
    · refine zF_blk (m := []) (d := 1) (b := B44_5) (gs := [(h 580 v0 0) ≤ v3]) (c' := (38, [some (19, v0), some (0, v1), some (0, v2), some (0, v3)], [], (h, hm, o))) K44_5 rfl ⟨q1, trivial⟩ ?_
      refine zF_blk (m := []) (d := 0) (b := B44_1) (gs := []) (c' := (39, [some (19, v0), some (0, v1), some (0, v2), some (0, v3)], [(0, 0)], (h, hm, o))) K44_1 rfl trivial ?_
      obtain rfl := Option.some.inj e
      exact zF_rb (by decide +kernel) (Or.inl rfl)
    · refine zF_blk (m := []) (d := 0) (b := B44_5) (gs := [¬ ((h 580 v0 0) ≤ v3)]) (c' := (10, [some (19, v0), some (0, v1), some (0, v2), some (0, v3)], [], (h, hm, o))) K44_5 rfl ⟨q1, trivial⟩ ?_
      obtain ⟨q2, e⟩ := zG_s e
      rcases zI_s e with ⟨q3, e⟩ | ⟨q3, e⟩
      · refine zF_blk (m := []) (d := 1) (b := B44_4) (gs := [0 ≤ v3 ∧ v3 < 20, ¬ (h 591 v0 v3) = v1]) (c' := (32, [some (19, v0), some (0, v1), some (0, v2), some (0, v3)], [], (h, hm, o))) K44_4 rfl ⟨q2, q3, trivial⟩ ?_
        exact T44_1 hd h (F44_0 h n) hk0 v0 v1 v2 v3 _ e
      · refine zF_blk (m := []) (d := 0) (b := B44_4) (gs := [0 ≤ v3 ∧ v3 < 20, ¬ (¬ (h 591 v0 v3) = v1)]) (c' := (20, [some (19, v0), some (0, v1), some (0, v2), some (0, v3)], [], (h, hm, o))) K44_4 rfl ⟨q2, q3, trivial⟩ ?_
        obtain ⟨q4, e⟩ := zG_s e
        rcases zI_s e with ⟨q5, e⟩ | ⟨q5, e⟩
        · refine zF_blk (m := []) (d := 1) (b := B44_3) (gs := [0 ≤ v3 ∧ v3 < 20, ¬ (h 590 v0 v3) = v2]) (c' := (32, [some (19, v0), some (0, v1), some (0, v2), some (0, v3)], [], (h, hm, o))) K44_3 rfl ⟨q4, q5, trivial⟩ ?_
          exact T44_1 hd h (F44_0 h n) hk0 v0 v1 v2 v3 _ e
        · refine zF_blk (m := []) (d := 0) (b := B44_3) (gs := [0 ≤ v3 ∧ v3 < 20, ¬ (¬ (h 590 v0 v3) = v2)]) (c' := (30, [some (19, v0), some (0, v1), some (0, v2), some (0, v3)], [], (h, hm, o))) K44_3 rfl ⟨q4, q5, trivial⟩ ?_
          refine zF_blk (m := []) (d := 0) (b := B44_2) (gs := []) (c' := (31, [some (19, v0), some (0, v1), some (0, v2), some (0, v3)], [(0, 1)], (h, hm, o))) K44_2 rfl trivial ?_
          obtain rfl := Option.some.inj e
          exact zF_rb (by decide +kernel) (Or.inr rfl)
/-- EchoVale$Valley.hasMove(II)Z -/
def F44 (v0 : Int) (v1 : Int) (v2 : Int) (h : zHC) : Option Int := F44_0 h zFu v0 v1 v2 0
set_option maxRecDepth 100000 in
theorem S44 {spec : zRn zH2} {hm : zHM} {o : Int → Int} {d : Nat} (hd : 1 ≤ d) (v0 : Int) (v1 : Int) (v2 : Int) (h : zHC) (v : Int) (e : F44 v0 v1 v2 h = some v) : zRu2 spec d 44 [(19, v0), (0, v1), (0, v2)] (h, hm, o) (some (0, v)) (h, hm, o) := by
  refine zF_in (D := 0) (mx := 4) (L := [some (19, v0), some (0, v1), some (0, v2), none]) (by decide +kernel) rfl rfl hd (fun d hd => ?_)
  unfold F44 at e
  refine zF_blk (m := []) (d := 0) (b := B44_0) (gs := []) (c' := (2, [some (19, v0), some (0, v1), some (0, v2), some (0, 0)], [], (h, hm, o))) K44_0 rfl trivial ?_
  exact T44_0 hd h zFu v0 v1 v2 0 _ e
def B42_0 : List zRow := [(23, .aload_n 0, 1, (0, 0, 0)), (24, .getfield 18, 3, (10, 2, 23))]
theorem K42_0 : zRk 42 B42_0 = true := by decide +kernel
def B42_1 : List zRow := [(30, .aload_n 0, 1, (0, 0, 0)), (31, .getfield 18, 3, (10, 2, 23)), (34, .aload_n 0, 1, (0, 0, 0)), (35, .getfield 12, 3, (10, 0, 167))]
theorem K42_1 : zRk 42 B42_1 = true := by decide +kernel
def B42_2 : List zRow := [(49, .aload_n 0, 1, (0, 0, 0)), (50, .getfield 18, 3, (10, 2, 23))]
theorem K42_2 : zRk 42 B42_2 = true := by decide +kernel
def B42_3 : List zRow := [(56, .aload_n 0, 1, (0, 0, 0)), (57, .getfield 18, 3, (10, 2, 23)), (60, .iconst 1, 1, (0, 0, 0)), (61, .sipush 200, 3, (0, 0, 0))]
theorem K42_3 : zRk 42 B42_3 = true := by decide +kernel
def B42_4 : List zRow := [(72, .aload_n 0, 1, (0, 0, 0)), (73, .getfield 18, 3, (10, 2, 23)), (76, .getfield 52, 3, (5, 6, 0)), (79, .istore_n 3, 1, (0, 0, 0)), (80, .aload_n 0, 1, (0, 0, 0)), (81, .getfield 12, 3, (10, 0, 167)), (84, .iload_n 2, 1, (0, 0, 0)), (85, .iload_n 3, 1, (0, 0, 0))]
theorem K42_4 : zRk 42 B42_4 = true := by decide +kernel
def B42_5 : List zRow := [(101, .aload_n 0, 1, (0, 0, 0)), (102, .getfield 18, 3, (10, 2, 23))]
theorem K42_5 : zRk 42 B42_5 = true := by decide +kernel
def B42_6 : List zRow := [(108, .aload_n 0, 1, (0, 0, 0))]
theorem K42_6 : zRk 42 B42_6 = true := by decide +kernel
def B42_7 : List zRow := [(122, .aload_n 0, 1, (0, 0, 0)), (123, .getfield 12, 3, (10, 0, 167)), (126, .getfield 142, 3, (9, 15, 5242962)), (129, .iload_n 1, 1, (0, 0, 0)), (130, .iload_n 2, 1, (0, 0, 0)), (131, .iastore, 1, (0, 0, 0)), (132, .aload_n 0, 1, (0, 0, 0)), (133, .getfield 12, 3, (10, 0, 167)), (136, .getfield 145, 3, (9, 14, 5242962)), (139, .iload_n 1, 1, (0, 0, 0)), (140, .iload_n 3, 1, (0, 0, 0)), (141, .iastore, 1, (0, 0, 0)), (142, .aload_n 0, 1, (0, 0, 0)), (143, .getfield 12, 3, (10, 0, 167)), (146, .getfield 148, 3, (9, 16, 5242962)), (149, .iload_n 1, 1, (0, 0, 0)), (150, .iload 4, 2, (0, 0, 0)), (152, .iastore, 1, (0, 0, 0)), (153, .aload_n 0, 1, (0, 0, 0)), (154, .getfield 12, 3, (10, 0, 167)), (157, .iload_n 1, 1, (0, 0, 0)), (158, .iconst 1, 1, (0, 0, 0)), (159, .iadd, 1, (0, 0, 0)), (160, .putfield 132, 3, (9, 4, 0)), (163, .aload_n 0, 1, (0, 0, 0)), (164, .getfield 18, 3, (10, 2, 23))]
theorem K42_7 : zRk 42 B42_7 = true := by decide +kernel
def B42_8 : List zRow := [(170, .iconst 1, 1, (0, 0, 0))]
theorem K42_8 : zRk 42 B42_8 = true := by decide +kernel
def B42_9 : List zRow := [(120, .iconst 0, 1, (0, 0, 0))]
theorem K42_9 : zRk 42 B42_9 = true := by decide +kernel
def B42_10 : List zRow := [(112, .istore 4, 2, (0, 0, 0)), (114, .iload 4, 2, (0, 0, 0)), (116, .iconst (-1), 1, (0, 0, 0)), (117, .if_icmp .ne 5, 3, (0, 0, 0))]
theorem K42_10 : zRk 42 B42_10 = true := by decide +kernel
def B42_11 : List zRow := [(92, .aload_n 0, 1, (0, 0, 0)), (93, .getfield 18, 3, (10, 2, 23)), (96, .iconst 3, 1, (0, 0, 0))]
theorem K42_11 : zRk 42 B42_11 = true := by decide +kernel
def B42_12 : List zRow := [(89, .ifCond .eq 12, 3, (0, 0, 0))]
theorem K42_12 : zRk 42 B42_12 = true := by decide +kernel
def B42_13 : List zRow := [(70, .iconst 0, 1, (0, 0, 0))]
theorem K42_13 : zRk 42 B42_13 = true := by decide +kernel
def B42_14 : List zRow := [(67, .ifCond .ne 5, 3, (0, 0, 0))]
theorem K42_14 : zRk 42 B42_14 = true := by decide +kernel
def B42_15 : List zRow := [(47, .iconst 0, 1, (0, 0, 0))]
theorem K42_15 : zRk 42 B42_15 = true := by decide +kernel
def B42_16 : List zRow := [(41, .istore_n 2, 1, (0, 0, 0)), (42, .iload_n 2, 1, (0, 0, 0)), (43, .iconst (-1), 1, (0, 0, 0)), (44, .if_icmp .ne 5, 3, (0, 0, 0))]
theorem K42_16 : zRk 42 B42_16 = true := by decide +kernel
def B42_17 : List zRow := [(14, .aload_n 0, 1, (0, 0, 0)), (15, .getfield 18, 3, (10, 2, 23)), (18, .iconst 4, 1, (0, 0, 0))]
theorem K42_17 : zRk 42 B42_17 = true := by decide +kernel
def B42_18 : List zRow := [(0, .aload_n 0, 1, (0, 0, 0)), (1, .getfield 12, 3, (10, 0, 167)), (4, .getfield 132, 3, (9, 4, 0)), (7, .istore_n 1, 1, (0, 0, 0)), (8, .iload_n 1, 1, (0, 0, 0)), (9, .bipush 20, 2, (0, 0, 0)), (11, .if_icmp .lt 12, 3, (0, 0, 0))]
theorem K42_18 : zRk 42 B42_18 = true := by decide +kernel
/-- EchoVale$ValleyText.readMove()Z -/
def F42 (h : zHC) : Option (Int × zHC) := if (h 580 1 0) < 20 then (F21 h).bind fun r1 => (F43 1 r1).bind fun r2 => if ¬ r2.1 = (-1) then (F21 r2.2).bind fun r3 => (F33 1 200 r3).bind fun r4 => if ¬ r4.1 = 0 then (F44 1 r2.1 (r4.2 326 0 0) r4.2).bind fun r5 => if r5 = 0 then (F21 r4.2).bind fun r6 => (F39 r6).bind fun r7 => if ¬ r7.1 = (-1) then zG (0 ≤ (h 580 1 0) ∧ (h 580 1 0) < 20) (zG (0 ≤ (h 580 1 0) ∧ (h 580 1 0) < 20) (zG (0 ≤ (h 580 1 0) ∧ (h 580 1 0) < 20) ((F21 (hset (hset (hset (hset r7.2 591 1 (h 580 1 0) r2.1) 590 1 (h 580 1 0) (r4.2 326 0 0)) 592 1 (h 580 1 0) r7.1) 580 1 0 (wadd (h 580 1 0) 1))).bind fun r8 => some (1, r8)))) else some (0, r7.2) else (F31 3 r4.2).bind fun r9 => zG (r9.1 = 0 ∨ r9.1 = 1) (some (r9.1, r9.2)) else some (0, r4.2) else some (0, r2.2) else (F31 4 h).bind fun r10 => zG (r10.1 = 0 ∨ r10.1 = 1) (some (r10.1, r10.2))
set_option maxRecDepth 100000 in
theorem S42 {spec : zRn zH2} {hm : zHM} {o : Int → Int} {d : Nat} (hd : 5 ≤ d) (h : zHC) (v : (Int × zHC)) (e : F42 h = some v) : zRu2 spec d 42 [(20, 0)] (h, hm, o) (some (0, v.1)) (v.2, hm, o) := by
  refine zF_in (D := 4) (mx := 5) (L := [some (20, 0), none, none, none, none]) (by decide +kernel) rfl rfl hd (fun d hd => ?_)
  unfold F42 at e
  rcases zI_s e with ⟨q1, e⟩ | ⟨q1, e⟩
  · refine zF_blk (m := []) (d := 1) (b := B42_18) (gs := [(h 580 1 0) < 20]) (c' := (23, [some (20, 0), some (0, (h 580 1 0)), none, none, none], [], (h, hm, o))) K42_18 rfl ⟨q1, trivial⟩ ?_
    obtain ⟨r1, q2, e⟩ := zB_s e
    refine zF_blk (m := []) (d := 0) (b := B42_0) (gs := []) (c' := (27, [some (20, 0), some (0, (h 580 1 0)), none, none, none], [(15, 0)], (h, hm, o))) K42_0 rfl trivial ?_
    refine zF_call (k := 21) (cl := 5) (n := 1) (i := .invokevirtual 79) (args := [(15, 0)]) (rest := []) (g1 := (r1, hm, o)) (r1 := none) (by decide +kernel) rfl rfl rfl (st' := []) rfl (S21 (Nat.le_trans (by decide) hd)  h _ q2) ?_
    obtain ⟨r2, q3, e⟩ := zB_s e
    refine zF_blk (m := []) (d := 0) (b := B42_1) (gs := []) (c' := (38, [some (20, 0), some (0, (h 580 1 0)), none, none, none], [(19, 1), (15, 0)], (r1, hm, o))) K42_1 rfl trivial ?_
    refine zF_call (k := 43) (cl := 5) (n := 2) (i := .invokevirtual 135) (args := [(15, 0), (19, 1)]) (rest := []) (g1 := (r2.2, hm, o)) (r1 := some (0, r2.1)) (by decide +kernel) rfl rfl rfl (st' := [(0, r2.1)]) rfl (S43 (Nat.le_trans (by decide) hd) 1 r1 _ q3) ?_
    rcases zI_s e with ⟨q4, e⟩ | ⟨q4, e⟩
    · refine zF_blk (m := []) (d := 1) (b := B42_16) (gs := [¬ r2.1 = (-1)]) (c' := (49, [some (20, 0), some (0, (h 580 1 0)), some (0, r2.1), none, none], [], (r2.2, hm, o))) K42_16 rfl ⟨q4, trivial⟩ ?_
      obtain ⟨r3, q5, e⟩ := zB_s e
      refine zF_blk (m := []) (d := 0) (b := B42_2) (gs := []) (c' := (53, [some (20, 0), some (0, (h 580 1 0)), some (0, r2.1), none, none], [(15, 0)], (r2.2, hm, o))) K42_2 rfl trivial ?_
      refine zF_call (k := 21) (cl := 5) (n := 1) (i := .invokevirtual 79) (args := [(15, 0)]) (rest := []) (g1 := (r3, hm, o)) (r1 := none) (by decide +kernel) rfl rfl rfl (st' := []) rfl (S21 (Nat.le_trans (by decide) hd)  r2.2 _ q5) ?_
      obtain ⟨r4, q6, e⟩ := zB_s e
      refine zF_blk (m := []) (d := 0) (b := B42_3) (gs := []) (c' := (64, [some (20, 0), some (0, (h 580 1 0)), some (0, r2.1), none, none], [(0, 200), (0, 1), (15, 0)], (r3, hm, o))) K42_3 rfl trivial ?_
      refine zF_call (k := 33) (cl := 5) (n := 3) (i := .invokevirtual 82) (args := [(15, 0), (0, 1), (0, 200)]) (rest := []) (g1 := (r4.2, hm, o)) (r1 := some (0, r4.1)) (by decide +kernel) rfl rfl rfl (st' := [(0, r4.1)]) rfl (S33 (Nat.le_trans (by decide) hd) 1 200 r3 _ q6) ?_
      rcases zI_s e with ⟨q7, e⟩ | ⟨q7, e⟩
      · refine zF_blk (m := []) (d := 1) (b := B42_14) (gs := [¬ r4.1 = 0]) (c' := (72, [some (20, 0), some (0, (h 580 1 0)), some (0, r2.1), none, none], [], (r4.2, hm, o))) K42_14 rfl ⟨q7, trivial⟩ ?_
        obtain ⟨r5, q8, e⟩ := zB_s e
        refine zF_blk (m := []) (d := 0) (b := B42_4) (gs := []) (c' := (86, [some (20, 0), some (0, (h 580 1 0)), some (0, r2.1), some (0, (r4.2 326 0 0)), none], [(0, (r4.2 326 0 0)), (0, r2.1), (19, 1)], (r4.2, hm, o))) K42_4 rfl trivial ?_
        refine zF_call (k := 44) (cl := 9) (n := 3) (i := .invokevirtual 139) (args := [(19, 1), (0, r2.1), (0, (r4.2 326 0 0))]) (rest := []) (g1 := (r4.2, hm, o)) (r1 := some (0, r5)) (by decide +kernel) rfl rfl rfl (st' := [(0, r5)]) rfl (S44 (Nat.le_trans (by decide) hd) 1 r2.1 (r4.2 326 0 0) r4.2 _ q8) ?_
        rcases zI_s e with ⟨q9, e⟩ | ⟨q9, e⟩
        · refine zF_blk (m := []) (d := 1) (b := B42_12) (gs := [r5 = 0]) (c' := (101, [some (20, 0), some (0, (h 580 1 0)), some (0, r2.1), some (0, (r4.2 326 0 0)), none], [], (r4.2, hm, o))) K42_12 rfl ⟨q9, trivial⟩ ?_
          obtain ⟨r6, q10, e⟩ := zB_s e
          refine zF_blk (m := []) (d := 0) (b := B42_5) (gs := []) (c' := (105, [some (20, 0), some (0, (h 580 1 0)), some (0, r2.1), some (0, (r4.2 326 0 0)), none], [(15, 0)], (r4.2, hm, o))) K42_5 rfl trivial ?_
          refine zF_call (k := 21) (cl := 5) (n := 1) (i := .invokevirtual 79) (args := [(15, 0)]) (rest := []) (g1 := (r6, hm, o)) (r1 := none) (by decide +kernel) rfl rfl rfl (st' := []) rfl (S21 (Nat.le_trans (by decide) hd)  r4.2 _ q10) ?_
          obtain ⟨r7, q11, e⟩ := zB_s e
          refine zF_blk (m := []) (d := 0) (b := B42_6) (gs := []) (c' := (109, [some (20, 0), some (0, (h 580 1 0)), some (0, r2.1), some (0, (r4.2 326 0 0)), none], [(20, 0)], (r6, hm, o))) K42_6 rfl trivial ?_
          refine zF_call (k := 39) (cl := 10) (n := 1) (i := .invokevirtual 99) (args := [(20, 0)]) (rest := []) (g1 := (r7.2, hm, o)) (r1 := some (0, r7.1)) (by decide +kernel) rfl rfl rfl (st' := [(0, r7.1)]) rfl (S39 (Nat.le_trans (by decide) hd)  r6 _ q11) ?_
          rcases zI_s e with ⟨q12, e⟩ | ⟨q12, e⟩
          · refine zF_blk (m := []) (d := 1) (b := B42_10) (gs := [¬ r7.1 = (-1)]) (c' := (122, [some (20, 0), some (0, (h 580 1 0)), some (0, r2.1), some (0, (r4.2 326 0 0)), some (0, r7.1)], [], (r7.2, hm, o))) K42_10 rfl ⟨q12, trivial⟩ ?_
            obtain ⟨q13, e⟩ := zG_s e
            obtain ⟨q13, e⟩ := zG_s e
            obtain ⟨q13, e⟩ := zG_s e
            obtain ⟨r8, q14, e⟩ := zB_s e
            refine zF_blk (m := []) (d := 0) (b := B42_7) (gs := [0 ≤ (h 580 1 0) ∧ (h 580 1 0) < 20, 0 ≤ (h 580 1 0) ∧ (h 580 1 0) < 20, 0 ≤ (h 580 1 0) ∧ (h 580 1 0) < 20]) (c' := (167, [some (20, 0), some (0, (h 580 1 0)), some (0, r2.1), some (0, (r4.2 326 0 0)), some (0, r7.1)], [(15, 0)], ((hset (hset (hset (hset r7.2 591 1 (h 580 1 0) r2.1) 590 1 (h 580 1 0) (r4.2 326 0 0)) 592 1 (h 580 1 0) r7.1) 580 1 0 (wadd (h 580 1 0) 1)), hm, o))) K42_7 rfl ⟨q13, q13, q13, trivial⟩ ?_
            refine zF_call (k := 21) (cl := 5) (n := 1) (i := .invokevirtual 79) (args := [(15, 0)]) (rest := []) (g1 := (r8, hm, o)) (r1 := none) (by decide +kernel) rfl rfl rfl (st' := []) rfl (S21 (Nat.le_trans (by decide) hd)  (hset (hset (hset (hset r7.2 591 1 (h 580 1 0) r2.1) 590 1 (h 580 1 0) (r4.2 326 0 0)) 592 1 (h 580 1 0) r7.1) 580 1 0 (wadd (h 580 1 0) 1)) _ q14) ?_
            refine zF_blk (m := []) (d := 0) (b := B42_8) (gs := []) (c' := (171, [some (20, 0), some (0, (h 580 1 0)), some (0, r2.1), some (0, (r4.2 326 0 0)), some (0, r7.1)], [(0, 1)], (r8, hm, o))) K42_8 rfl trivial ?_
            exact zF_rbC (by decide +kernel) (Or.inr rfl) e
          · refine zF_blk (m := []) (d := 0) (b := B42_10) (gs := [¬ (¬ r7.1 = (-1))]) (c' := (120, [some (20, 0), some (0, (h 580 1 0)), some (0, r2.1), some (0, (r4.2 326 0 0)), some (0, r7.1)], [], (r7.2, hm, o))) K42_10 rfl ⟨q12, trivial⟩ ?_
            refine zF_blk (m := []) (d := 0) (b := B42_9) (gs := []) (c' := (121, [some (20, 0), some (0, (h 580 1 0)), some (0, r2.1), some (0, (r4.2 326 0 0)), some (0, r7.1)], [(0, 0)], (r7.2, hm, o))) K42_9 rfl trivial ?_
            exact zF_rbC (by decide +kernel) (Or.inl rfl) e
        · refine zF_blk (m := []) (d := 0) (b := B42_12) (gs := [¬ (r5 = 0)]) (c' := (92, [some (20, 0), some (0, (h 580 1 0)), some (0, r2.1), some (0, (r4.2 326 0 0)), none], [], (r4.2, hm, o))) K42_12 rfl ⟨q9, trivial⟩ ?_
          obtain ⟨r9, q15, e⟩ := zB_s e
          refine zF_blk (m := []) (d := 0) (b := B42_11) (gs := []) (c' := (97, [some (20, 0), some (0, (h 580 1 0)), some (0, r2.1), some (0, (r4.2 326 0 0)), none], [(0, 3), (15, 0)], (r4.2, hm, o))) K42_11 rfl trivial ?_
          refine zF_call (k := 31) (cl := 5) (n := 2) (i := .invokevirtual 49) (args := [(15, 0), (0, 3)]) (rest := []) (g1 := (r9.2, hm, o)) (r1 := some (0, r9.1)) (by decide +kernel) rfl rfl rfl (st' := [(0, r9.1)]) rfl (S31 (Nat.le_trans (by decide) hd) 3 r4.2 _ q15) ?_
          obtain ⟨q16, e⟩ := zG_s e
          exact zF_rbC (by decide +kernel) q16 e
      · refine zF_blk (m := []) (d := 0) (b := B42_14) (gs := [¬ (¬ r4.1 = 0)]) (c' := (70, [some (20, 0), some (0, (h 580 1 0)), some (0, r2.1), none, none], [], (r4.2, hm, o))) K42_14 rfl ⟨q7, trivial⟩ ?_
        refine zF_blk (m := []) (d := 0) (b := B42_13) (gs := []) (c' := (71, [some (20, 0), some (0, (h 580 1 0)), some (0, r2.1), none, none], [(0, 0)], (r4.2, hm, o))) K42_13 rfl trivial ?_
        exact zF_rbC (by decide +kernel) (Or.inl rfl) e
    · refine zF_blk (m := []) (d := 0) (b := B42_16) (gs := [¬ (¬ r2.1 = (-1))]) (c' := (47, [some (20, 0), some (0, (h 580 1 0)), some (0, r2.1), none, none], [], (r2.2, hm, o))) K42_16 rfl ⟨q4, trivial⟩ ?_
      refine zF_blk (m := []) (d := 0) (b := B42_15) (gs := []) (c' := (48, [some (20, 0), some (0, (h 580 1 0)), some (0, r2.1), none, none], [(0, 0)], (r2.2, hm, o))) K42_15 rfl trivial ?_
      exact zF_rbC (by decide +kernel) (Or.inl rfl) e
  · refine zF_blk (m := []) (d := 0) (b := B42_18) (gs := [¬ ((h 580 1 0) < 20)]) (c' := (14, [some (20, 0), some (0, (h 580 1 0)), none, none, none], [], (h, hm, o))) K42_18 rfl ⟨q1, trivial⟩ ?_
    obtain ⟨r10, q17, e⟩ := zB_s e
    refine zF_blk (m := []) (d := 0) (b := B42_17) (gs := []) (c' := (19, [some (20, 0), some (0, (h 580 1 0)), none, none, none], [(0, 4), (15, 0)], (h, hm, o))) K42_17 rfl trivial ?_
    refine zF_call (k := 31) (cl := 5) (n := 2) (i := .invokevirtual 49) (args := [(15, 0), (0, 4)]) (rest := []) (g1 := (r10.2, hm, o)) (r1 := some (0, r10.1)) (by decide +kernel) rfl rfl rfl (st' := [(0, r10.1)]) rfl (S31 (Nat.le_trans (by decide) hd) 4 h _ q17) ?_
    obtain ⟨q18, e⟩ := zG_s e
    exact zF_rbC (by decide +kernel) q18 e
