/-! Functions of the methods, by wip/gen/lift.py. -/
noncomputable def B131_0 : List zRow := [(21, .iconst (-1), 1, (0, 0, 0))]
theorem K131_0 : zRk 131 B131_0 = true := zRw_ok (by decide +kernel)
noncomputable def B131_1 : List zRow := [(11, .aload_n 0, 1, (0, 0, 0)), (12, .getfield 9, 3, (0, 1, 23)), (15, .getfield 36, 3, (5, 6, 0)), (18, .goto 4, 3, (0, 0, 0))]
theorem K131_1 : zRk 131 B131_1 = true := zRw_ok (by decide +kernel)
noncomputable def B131_2 : List zRow := [(0, .aload_n 0, 1, (0, 0, 0)), (1, .getfield 9, 3, (0, 1, 23)), (4, .getfield 33, 3, (5, 4, 0)), (7, .iconst 3, 1, (0, 0, 0)), (8, .if_icmp .ne 13, 3, (0, 0, 0))]
theorem K131_2 : zRk 131 B131_2 = true := zRw_ok (by decide +kernel)
noncomputable def B131_3 : List zRow := [(45, .aload_n 0, 1, (0, 0, 0)), (46, .getfield 9, 3, (0, 1, 23)), (49, .iconst 1, 1, (0, 0, 0))]
theorem K131_3 : zRk 131 B131_3 = true := zRw_ok (by decide +kernel)
noncomputable def B131_4 : List zRow := [(38, .iload 4, 2, (0, 0, 0)), (40, .bipush 9, 2, (0, 0, 0)), (42, .if_icmp .eq 12, 3, (0, 0, 0))]
theorem K131_4 : zRk 131 B131_4 = true := zRw_ok (by decide +kernel)
noncomputable def B131_5 : List zRow := [(31, .iload 4, 2, (0, 0, 0)), (33, .bipush 8, 2, (0, 0, 0)), (35, .if_icmp .eq 19, 3, (0, 0, 0))]
theorem K131_5 : zRk 131 B131_5 = true := zRw_ok (by decide +kernel)
noncomputable def B131_6 : List zRow := [(22, .istore 4, 2, (0, 0, 0)), (24, .iload 4, 2, (0, 0, 0)), (26, .bipush 7, 2, (0, 0, 0)), (28, .if_icmp .eq 26, 3, (0, 0, 0))]
theorem K131_6 : zRk 131 B131_6 = true := zRw_ok (by decide +kernel)
noncomputable def B131_7 : List zRow := [(69, .aload_n 0, 1, (0, 0, 0)), (70, .getfield 9, 3, (0, 1, 23))]
theorem K131_7 : zRk 131 B131_7 = true := zRw_ok (by decide +kernel)
noncomputable def B131_8 : List zRow := [(76, .aload_n 0, 1, (0, 0, 0)), (77, .getfield 9, 3, (0, 1, 23)), (80, .aload_n 1, 1, (0, 0, 0))]
theorem K131_8 : zRk 131 B131_8 = true := zRw_ok (by decide +kernel)
noncomputable def B131_9 : List zRow := [(94, .aload_n 0, 1, (0, 0, 0)), (95, .getfield 9, 3, (0, 1, 23))]
theorem K131_9 : zRk 131 B131_9 = true := zRw_ok (by decide +kernel)
noncomputable def B131_10 : List zRow := [(101, .aload_n 0, 1, (0, 0, 0)), (102, .getfield 9, 3, (0, 1, 23)), (105, .iconst 0, 1, (0, 0, 0)), (106, .bipush 29, 2, (0, 0, 0))]
theorem K131_10 : zRk 131 B131_10 = true := zRw_ok (by decide +kernel)
noncomputable def B131_11 : List zRow := [(124, .aload_n 2, 1, (0, 0, 0)), (125, .iload 4, 2, (0, 0, 0)), (127, .iload 5, 2, (0, 0, 0)), (129, .aload_n 0, 1, (0, 0, 0)), (130, .getfield 9, 3, (0, 1, 23)), (133, .getfield 36, 3, (5, 6, 0))]
theorem K131_11 : zRk 131 B131_11 = true := zRw_ok (by decide +kernel)
noncomputable def B131_12 : List zRow := [(142, .aload_n 0, 1, (0, 0, 0)), (143, .iload_n 3, 1, (0, 0, 0)), (144, .putfield 15, 3, (0, 0, 0))]
theorem K131_12 : zRk 131 B131_12 = true := zRw_ok (by decide +kernel)
noncomputable def B131_13 : List zRow := [(139, .ifCond .ne 8, 3, (0, 0, 0))]
theorem K131_13 : zRk 131 B131_13 = true := zRw_ok (by decide +kernel)
noncomputable def B131_14 : List zRow := [(116, .aload_n 0, 1, (0, 0, 0)), (117, .getfield 15, 3, (0, 0, 0)), (120, .iconst (-1), 1, (0, 0, 0)), (121, .if_icmp .ne 26, 3, (0, 0, 0))]
theorem K131_14 : zRk 131 B131_14 = true := zRw_ok (by decide +kernel)
noncomputable def B131_15 : List zRow := [(114, .iconst 0, 1, (0, 0, 0))]
theorem K131_15 : zRk 131 B131_15 = true := zRw_ok (by decide +kernel)
noncomputable def B131_16 : List zRow := [(111, .ifCond .ne 5, 3, (0, 0, 0))]
theorem K131_16 : zRk 131 B131_16 = true := zRw_ok (by decide +kernel)
noncomputable def B131_17 : List zRow := [(92, .iconst 0, 1, (0, 0, 0))]
theorem K131_17 : zRk 131 B131_17 = true := zRw_ok (by decide +kernel)
noncomputable def B131_18 : List zRow := [(84, .istore 5, 2, (0, 0, 0)), (86, .iload 5, 2, (0, 0, 0)), (88, .iconst (-1), 1, (0, 0, 0)), (89, .if_icmp .ne 5, 3, (0, 0, 0))]
theorem K131_18 : zRk 131 B131_18 = true := zRw_ok (by decide +kernel)
noncomputable def B131_19 : List zRow := [(60, .aload_n 0, 1, (0, 0, 0)), (61, .getfield 9, 3, (0, 1, 23)), (64, .iconst 4, 1, (0, 0, 0))]
theorem K131_19 : zRk 131 B131_19 = true := zRw_ok (by decide +kernel)
noncomputable def B131_20 : List zRow := [(54, .iload_n 3, 1, (0, 0, 0)), (55, .bipush 30, 2, (0, 0, 0)), (57, .if_icmp .lt 12, 3, (0, 0, 0))]
theorem K131_20 : zRk 131 B131_20 = true := zRw_ok (by decide +kernel)
noncomputable def B131_21 : List zRow := [(147, .aload_n 0, 1, (0, 0, 0)), (148, .getfield 9, 3, (0, 1, 23))]
theorem K131_21 : zRk 131 B131_21 = true := zRw_ok (by decide +kernel)
noncomputable def B131_22 : List zRow := [(154, .aload_n 0, 1, (0, 0, 0)), (155, .getfield 9, 3, (0, 1, 23)), (158, .bipush 59, 2, (0, 0, 0))]
theorem K131_22 : zRk 131 B131_22 = true := zRw_ok (by decide +kernel)
def F131_2 (h : zHC) : Option (Int × zHC) := (F21 h).bind fun r1 => (F50 59 r1).bind fun r2 => zG (r2.1 = 0 ∨ r2.1 = 1) (some (r2.1, r2.2))
set_option maxRecDepth 100000 in
theorem T131_2 {spec : zRn zH2} {hm : zHM} {o : Int → Int} {d : Nat} (hd : 4 ≤ d) (h : zHC) (v : (Int × zHC)) (e : F131_2 h = some v) : zFin 0 (fun _ => 0) (zRu2 spec d) 131 (some (0, v.1)) (v.2, hm, o) (147, [some (10, 0), none, none, none, none, none], [], (h, hm, o)) := by
  unfold F131_2 at e
  obtain ⟨r1, q1, e⟩ := zB_s e
  refine zF_blk (m := []) (d := 0) (b := B131_21) (gs := []) (c' := (151, [some (10, 0), none, none, none, none, none], [(15, 0)], (h, hm, o))) K131_21 rfl trivial ?_
  refine zF_call (k := 21) (cl := 5) (n := 1) (i := .invokevirtual 43) (args := [(15, 0)]) (rest := []) (g1 := (r1, hm, o)) (r1 := none) (zCk1_w (by decide +kernel)) rfl rfl rfl (st' := []) rfl (S21 (Nat.le_trans (by decide) hd)  h _ q1) ?_
  obtain ⟨r2, q2, e⟩ := zB_s e
  refine zF_blk (m := []) (d := 0) (b := B131_22) (gs := []) (c' := (160, [some (10, 0), none, none, none, none, none], [(0, 59), (15, 0)], (r1, hm, o))) K131_22 rfl trivial ?_
  refine zF_call (k := 50) (cl := 5) (n := 2) (i := .invokevirtual 58) (args := [(15, 0), (0, 59)]) (rest := []) (g1 := (r2.2, hm, o)) (r1 := some (0, r2.1)) (zCk1_w (by decide +kernel)) rfl rfl rfl (st' := [(0, r2.1)]) rfl (S50 (Nat.le_trans (by decide) hd) 59 r1 _ q2) ?_
  obtain ⟨q3, e⟩ := zG_s e
  exact zF_rbC (zRe1_w (by decide +kernel)) q3 e
def F131_1 (v1 : Int) (v2 : Int) (v3 : Int) (v4 : Int) (h : zHC) : Option (Int × zHC) := if v3 < 30 then (F21 h).bind fun r1 => (F43 v1 r1).bind fun r2 => if ¬ r2.1 = (-1) then (F21 r2.2).bind fun r3 => (F33 0 29 r3).bind fun r4 => if ¬ r4.1 = 0 then if ¬ (r4.2 0 0 0) = (-1) then F131_2 r4.2 else (F132 v2 v4 r2.1 (r4.2 326 0 0) r4.2).bind fun r5 => if ¬ r5 = 0 then F131_2 r4.2 else F131_2 (hset r4.2 0 0 0 v3) else some (0, r4.2) else some (0, r2.2) else (F31 4 h).bind fun r6 => zG (r6.1 = 0 ∨ r6.1 = 1) (some (r6.1, r6.2))
set_option maxRecDepth 100000 in
theorem T131_1 {spec : zRn zH2} {hm : zHM} {o : Int → Int} {d : Nat} (hd : 4 ≤ d) (v1 : Int) (v2 : Int) (v3 : Int) (v4 : Int) (h : zHC) (v : (Int × zHC)) (e : F131_1 v1 v2 v3 v4 h = some v) : zFin 0 (fun _ => 0) (zRu2 spec d) 131 (some (0, v.1)) (v.2, hm, o) (54, [some (10, 0), some (19, v1), some (11, v2), some (0, v3), some (0, v4), none], [], (h, hm, o)) := by
  unfold F131_1 at e
  rcases zI_s e with ⟨q1, e⟩ | ⟨q1, e⟩
  · refine zF_blk (m := []) (d := 1) (b := B131_20) (gs := [v3 < 30]) (c' := (69, [some (10, 0), some (19, v1), some (11, v2), some (0, v3), some (0, v4), none], [], (h, hm, o))) K131_20 rfl ⟨q1, trivial⟩ ?_
    obtain ⟨r1, q2, e⟩ := zB_s e
    refine zF_blk (m := []) (d := 0) (b := B131_7) (gs := []) (c' := (73, [some (10, 0), some (19, v1), some (11, v2), some (0, v3), some (0, v4), none], [(15, 0)], (h, hm, o))) K131_7 rfl trivial ?_
    refine zF_call (k := 21) (cl := 5) (n := 1) (i := .invokevirtual 43) (args := [(15, 0)]) (rest := []) (g1 := (r1, hm, o)) (r1 := none) (zCk1_w (by decide +kernel)) rfl rfl rfl (st' := []) rfl (S21 (Nat.le_trans (by decide) hd)  h _ q2) ?_
    obtain ⟨r2, q3, e⟩ := zB_s e
    refine zF_blk (m := []) (d := 0) (b := B131_8) (gs := []) (c' := (81, [some (10, 0), some (19, v1), some (11, v2), some (0, v3), some (0, v4), none], [(19, v1), (15, 0)], (r1, hm, o))) K131_8 rfl trivial ?_
    refine zF_call (k := 43) (cl := 5) (n := 2) (i := .invokevirtual 46) (args := [(15, 0), (19, v1)]) (rest := []) (g1 := (r2.2, hm, o)) (r1 := some (0, r2.1)) (zCk1_w (by decide +kernel)) rfl rfl rfl (st' := [(0, r2.1)]) rfl (S43 (Nat.le_trans (by decide) hd) v1 r1 _ q3) ?_
    rcases zI_s e with ⟨q4, e⟩ | ⟨q4, e⟩
    · refine zF_blk (m := []) (d := 1) (b := B131_18) (gs := [¬ r2.1 = (-1)]) (c' := (94, [some (10, 0), some (19, v1), some (11, v2), some (0, v3), some (0, v4), some (0, r2.1)], [], (r2.2, hm, o))) K131_18 rfl ⟨q4, trivial⟩ ?_
      obtain ⟨r3, q5, e⟩ := zB_s e
      refine zF_blk (m := []) (d := 0) (b := B131_9) (gs := []) (c' := (98, [some (10, 0), some (19, v1), some (11, v2), some (0, v3), some (0, v4), some (0, r2.1)], [(15, 0)], (r2.2, hm, o))) K131_9 rfl trivial ?_
      refine zF_call (k := 21) (cl := 5) (n := 1) (i := .invokevirtual 43) (args := [(15, 0)]) (rest := []) (g1 := (r3, hm, o)) (r1 := none) (zCk1_w (by decide +kernel)) rfl rfl rfl (st' := []) rfl (S21 (Nat.le_trans (by decide) hd)  r2.2 _ q5) ?_
      obtain ⟨r4, q6, e⟩ := zB_s e
      refine zF_blk (m := []) (d := 0) (b := B131_10) (gs := []) (c' := (108, [some (10, 0), some (19, v1), some (11, v2), some (0, v3), some (0, v4), some (0, r2.1)], [(0, 29), (0, 0), (15, 0)], (r3, hm, o))) K131_10 rfl trivial ?_
      refine zF_call (k := 33) (cl := 5) (n := 3) (i := .invokevirtual 50) (args := [(15, 0), (0, 0), (0, 29)]) (rest := []) (g1 := (r4.2, hm, o)) (r1 := some (0, r4.1)) (zCk1_w (by decide +kernel)) rfl rfl rfl (st' := [(0, r4.1)]) rfl (S33 (Nat.le_trans (by decide) hd) 0 29 r3 _ q6) ?_
      rcases zI_s e with ⟨q7, e⟩ | ⟨q7, e⟩
      · refine zF_blk (m := []) (d := 1) (b := B131_16) (gs := [¬ r4.1 = 0]) (c' := (116, [some (10, 0), some (19, v1), some (11, v2), some (0, v3), some (0, v4), some (0, r2.1)], [], (r4.2, hm, o))) K131_16 rfl ⟨q7, trivial⟩ ?_
        rcases zI_s e with ⟨q8, e⟩ | ⟨q8, e⟩
        · refine zF_blk (m := []) (d := 1) (b := B131_14) (gs := [¬ (r4.2 0 0 0) = (-1)]) (c' := (147, [some (10, 0), some (19, v1), some (11, v2), some (0, v3), some (0, v4), some (0, r2.1)], [], (r4.2, hm, o))) K131_14 rfl ⟨q8, trivial⟩ ?_
          refine zF_blk (m := [true, false, false, false, false, false]) (d := 0) (b := []) (gs := []) (c' := (147, [some (10, 0), none, none, none, none, none], [], (r4.2, hm, o))) rfl rfl trivial ?_
          exact T131_2 hd r4.2 _ e
        · refine zF_blk (m := []) (d := 0) (b := B131_14) (gs := [¬ (¬ (r4.2 0 0 0) = (-1))]) (c' := (124, [some (10, 0), some (19, v1), some (11, v2), some (0, v3), some (0, v4), some (0, r2.1)], [], (r4.2, hm, o))) K131_14 rfl ⟨q8, trivial⟩ ?_
          obtain ⟨r5, q9, e⟩ := zB_s e
          refine zF_blk (m := []) (d := 0) (b := B131_11) (gs := []) (c' := (136, [some (10, 0), some (19, v1), some (11, v2), some (0, v3), some (0, v4), some (0, r2.1)], [(0, (r4.2 326 0 0)), (0, r2.1), (0, v4), (11, v2)], (r4.2, hm, o))) K131_11 rfl trivial ?_
          refine zF_call (k := 132) (cl := 0) (n := 4) (i := .invokestatic 54) (args := [(11, v2), (0, v4), (0, r2.1), (0, (r4.2 326 0 0))]) (rest := []) (g1 := (r4.2, hm, o)) (r1 := some (0, r5)) (zCk1_w (by decide +kernel)) rfl rfl rfl (st' := [(0, r5)]) rfl (S132 (Nat.le_trans (by decide) hd) v2 v4 r2.1 (r4.2 326 0 0) r4.2 _ q9) ?_
          rcases zI_s e with ⟨q10, e⟩ | ⟨q10, e⟩
          · refine zF_blk (m := []) (d := 1) (b := B131_13) (gs := [¬ r5 = 0]) (c' := (147, [some (10, 0), some (19, v1), some (11, v2), some (0, v3), some (0, v4), some (0, r2.1)], [], (r4.2, hm, o))) K131_13 rfl ⟨q10, trivial⟩ ?_
            refine zF_blk (m := [true, false, false, false, false, false]) (d := 0) (b := []) (gs := []) (c' := (147, [some (10, 0), none, none, none, none, none], [], (r4.2, hm, o))) rfl rfl trivial ?_
            exact T131_2 hd r4.2 _ e
          · refine zF_blk (m := []) (d := 0) (b := B131_13) (gs := [¬ (¬ r5 = 0)]) (c' := (142, [some (10, 0), some (19, v1), some (11, v2), some (0, v3), some (0, v4), some (0, r2.1)], [], (r4.2, hm, o))) K131_13 rfl ⟨q10, trivial⟩ ?_
            refine zF_blk (m := []) (d := 0) (b := B131_12) (gs := []) (c' := (147, [some (10, 0), some (19, v1), some (11, v2), some (0, v3), some (0, v4), some (0, r2.1)], [], ((hset r4.2 0 0 0 v3), hm, o))) K131_12 rfl trivial ?_
            refine zF_blk (m := [true, false, false, false, false, false]) (d := 0) (b := []) (gs := []) (c' := (147, [some (10, 0), none, none, none, none, none], [], ((hset r4.2 0 0 0 v3), hm, o))) rfl rfl trivial ?_
            exact T131_2 hd (hset r4.2 0 0 0 v3) _ e
      · refine zF_blk (m := []) (d := 0) (b := B131_16) (gs := [¬ (¬ r4.1 = 0)]) (c' := (114, [some (10, 0), some (19, v1), some (11, v2), some (0, v3), some (0, v4), some (0, r2.1)], [], (r4.2, hm, o))) K131_16 rfl ⟨q7, trivial⟩ ?_
        refine zF_blk (m := []) (d := 0) (b := B131_15) (gs := []) (c' := (115, [some (10, 0), some (19, v1), some (11, v2), some (0, v3), some (0, v4), some (0, r2.1)], [(0, 0)], (r4.2, hm, o))) K131_15 rfl trivial ?_
        exact zF_rbC (zRe1_w (by decide +kernel)) (Or.inl rfl) e
    · refine zF_blk (m := []) (d := 0) (b := B131_18) (gs := [¬ (¬ r2.1 = (-1))]) (c' := (92, [some (10, 0), some (19, v1), some (11, v2), some (0, v3), some (0, v4), some (0, r2.1)], [], (r2.2, hm, o))) K131_18 rfl ⟨q4, trivial⟩ ?_
      refine zF_blk (m := []) (d := 0) (b := B131_17) (gs := []) (c' := (93, [some (10, 0), some (19, v1), some (11, v2), some (0, v3), some (0, v4), some (0, r2.1)], [(0, 0)], (r2.2, hm, o))) K131_17 rfl trivial ?_
      exact zF_rbC (zRe1_w (by decide +kernel)) (Or.inl rfl) e
  · refine zF_blk (m := []) (d := 0) (b := B131_20) (gs := [¬ (v3 < 30)]) (c' := (60, [some (10, 0), some (19, v1), some (11, v2), some (0, v3), some (0, v4), none], [], (h, hm, o))) K131_20 rfl ⟨q1, trivial⟩ ?_
    obtain ⟨r6, q11, e⟩ := zB_s e
    refine zF_blk (m := []) (d := 0) (b := B131_19) (gs := []) (c' := (65, [some (10, 0), some (19, v1), some (11, v2), some (0, v3), some (0, v4), none], [(0, 4), (15, 0)], (h, hm, o))) K131_19 rfl trivial ?_
    refine zF_call (k := 31) (cl := 5) (n := 2) (i := .invokevirtual 39) (args := [(15, 0), (0, 4)]) (rest := []) (g1 := (r6.2, hm, o)) (r1 := some (0, r6.1)) (zCk1_w (by decide +kernel)) rfl rfl rfl (st' := [(0, r6.1)]) rfl (S31 (Nat.le_trans (by decide) hd) 4 h _ q11) ?_
    obtain ⟨q12, e⟩ := zG_s e
    exact zF_rbC (zRe1_w (by decide +kernel)) q12 e
def F131_0 (v1 : Int) (v2 : Int) (v3 : Int) (s0 : Int) (h : zHC) : Option (Int × zHC) := if s0 = 7 then F131_1 v1 v2 v3 s0 h else if s0 = 8 then F131_1 v1 v2 v3 s0 h else if s0 = 9 then F131_1 v1 v2 v3 s0 h else (F31 1 h).bind fun r1 => zG (r1.1 = 0 ∨ r1.1 = 1) (some (r1.1, r1.2))
set_option maxRecDepth 100000 in
theorem T131_0 {spec : zRn zH2} {hm : zHM} {o : Int → Int} {d : Nat} (hd : 4 ≤ d) (v1 : Int) (v2 : Int) (v3 : Int) (s0 : Int) (h : zHC) (v : (Int × zHC)) (e : F131_0 v1 v2 v3 s0 h = some v) : zFin 0 (fun _ => 0) (zRu2 spec d) 131 (some (0, v.1)) (v.2, hm, o) (22, [some (10, 0), some (19, v1), some (11, v2), some (0, v3), none, none], [(0, s0)], (h, hm, o)) := by
  unfold F131_0 at e
  rcases zI_s e with ⟨q1, e⟩ | ⟨q1, e⟩
  · refine zF_blk (m := []) (d := 1) (b := B131_6) (gs := [s0 = 7]) (c' := (54, [some (10, 0), some (19, v1), some (11, v2), some (0, v3), some (0, s0), none], [], (h, hm, o))) K131_6 rfl ⟨q1, trivial⟩ ?_
    exact T131_1 hd v1 v2 v3 s0 h _ e
  · refine zF_blk (m := []) (d := 0) (b := B131_6) (gs := [¬ (s0 = 7)]) (c' := (31, [some (10, 0), some (19, v1), some (11, v2), some (0, v3), some (0, s0), none], [], (h, hm, o))) K131_6 rfl ⟨q1, trivial⟩ ?_
    rcases zI_s e with ⟨q2, e⟩ | ⟨q2, e⟩
    · refine zF_blk (m := []) (d := 1) (b := B131_5) (gs := [s0 = 8]) (c' := (54, [some (10, 0), some (19, v1), some (11, v2), some (0, v3), some (0, s0), none], [], (h, hm, o))) K131_5 rfl ⟨q2, trivial⟩ ?_
      exact T131_1 hd v1 v2 v3 s0 h _ e
    · refine zF_blk (m := []) (d := 0) (b := B131_5) (gs := [¬ (s0 = 8)]) (c' := (38, [some (10, 0), some (19, v1), some (11, v2), some (0, v3), some (0, s0), none], [], (h, hm, o))) K131_5 rfl ⟨q2, trivial⟩ ?_
      rcases zI_s e with ⟨q3, e⟩ | ⟨q3, e⟩
      · refine zF_blk (m := []) (d := 1) (b := B131_4) (gs := [s0 = 9]) (c' := (54, [some (10, 0), some (19, v1), some (11, v2), some (0, v3), some (0, s0), none], [], (h, hm, o))) K131_4 rfl ⟨q3, trivial⟩ ?_
        exact T131_1 hd v1 v2 v3 s0 h _ e
      · refine zF_blk (m := []) (d := 0) (b := B131_4) (gs := [¬ (s0 = 9)]) (c' := (45, [some (10, 0), some (19, v1), some (11, v2), some (0, v3), some (0, s0), none], [], (h, hm, o))) K131_4 rfl ⟨q3, trivial⟩ ?_
        obtain ⟨r1, q4, e⟩ := zB_s e
        refine zF_blk (m := []) (d := 0) (b := B131_3) (gs := []) (c' := (50, [some (10, 0), some (19, v1), some (11, v2), some (0, v3), some (0, s0), none], [(0, 1), (15, 0)], (h, hm, o))) K131_3 rfl trivial ?_
        refine zF_call (k := 31) (cl := 5) (n := 2) (i := .invokevirtual 39) (args := [(15, 0), (0, 1)]) (rest := []) (g1 := (r1.2, hm, o)) (r1 := some (0, r1.1)) (zCk1_w (by decide +kernel)) rfl rfl rfl (st' := [(0, r1.1)]) rfl (S31 (Nat.le_trans (by decide) hd) 1 h _ q4) ?_
        obtain ⟨q5, e⟩ := zG_s e
        exact zF_rbC (zRe1_w (by decide +kernel)) q5 e
/-- EchoVale$ClaimsText.readLine(LEchoVale$Valley;LEchoVale$Course;I)Z -/
def F131 (v1 : Int) (v2 : Int) (v3 : Int) (h : zHC) : Option (Int × zHC) := if ¬ (h 324 0 0) = 3 then F131_0 v1 v2 v3 (-1) h else F131_0 v1 v2 v3 (h 326 0 0) h
set_option maxRecDepth 100000 in
theorem S131 {spec : zRn zH2} {hm : zHM} {o : Int → Int} {d : Nat} (hd : 5 ≤ d) (v1 : Int) (v2 : Int) (v3 : Int) (h : zHC) (v : (Int × zHC)) (e : F131 v1 v2 v3 h = some v) : zRu2 spec d 131 [(10, 0), (19, v1), (11, v2), (0, v3)] (h, hm, o) (some (0, v.1)) (v.2, hm, o) := by
  refine zF_in (D := 4) (mx := 6) (L := [some (10, 0), some (19, v1), some (11, v2), some (0, v3), none, none]) (by decide +kernel) rfl rfl hd (fun d hd => ?_)
  unfold F131 at e
  rcases zI_s e with ⟨q1, e⟩ | ⟨q1, e⟩
  · refine zF_blk (m := []) (d := 1) (b := B131_2) (gs := [¬ (h 324 0 0) = 3]) (c' := (21, [some (10, 0), some (19, v1), some (11, v2), some (0, v3), none, none], [], (h, hm, o))) K131_2 rfl ⟨q1, trivial⟩ ?_
    refine zF_blk (m := []) (d := 0) (b := B131_0) (gs := []) (c' := (22, [some (10, 0), some (19, v1), some (11, v2), some (0, v3), none, none], [(0, (-1))], (h, hm, o))) K131_0 rfl trivial ?_
    exact T131_0 hd v1 v2 v3 (-1) h _ e
  · refine zF_blk (m := []) (d := 0) (b := B131_2) (gs := [¬ (¬ (h 324 0 0) = 3)]) (c' := (11, [some (10, 0), some (19, v1), some (11, v2), some (0, v3), none, none], [], (h, hm, o))) K131_2 rfl ⟨q1, trivial⟩ ?_
    refine zF_blk (m := []) (d := 0) (b := B131_1) (gs := []) (c' := (22, [some (10, 0), some (19, v1), some (11, v2), some (0, v3), none, none], [(0, (h 326 0 0))], (h, hm, o))) K131_1 rfl trivial ?_
    exact T131_0 hd v1 v2 v3 (h 326 0 0) h _ e
noncomputable def B130_0 : List zRow := [(0, .aload_n 0, 1, (0, 0, 0)), (1, .iconst (-1), 1, (0, 0, 0)), (2, .putfield 15, 3, (0, 0, 0)), (5, .aload_n 0, 1, (0, 0, 0)), (6, .getfield 9, 3, (0, 1, 23)), (9, .sipush 300, 3, (0, 0, 0))]
theorem K130_0 : zRk 130 B130_0 = true := zRw_ok (by decide +kernel)
noncomputable def B130_1 : List zRow := [(15, .iconst 0, 1, (0, 0, 0)), (16, .istore_n 3, 1, (0, 0, 0))]
theorem K130_1 : zRk 130 B130_1 = true := zRw_ok (by decide +kernel)
noncomputable def B130_2 : List zRow := [(52, .iconst 1, 1, (0, 0, 0))]
theorem K130_2 : zRk 130 B130_2 = true := zRw_ok (by decide +kernel)
noncomputable def B130_3 : List zRow := [(24, .aload_n 0, 1, (0, 0, 0)), (25, .getfield 9, 3, (0, 1, 23))]
theorem K130_3 : zRk 130 B130_3 = true := zRw_ok (by decide +kernel)
noncomputable def B130_4 : List zRow := [(34, .aload_n 0, 1, (0, 0, 0)), (35, .aload_n 1, 1, (0, 0, 0)), (36, .aload_n 2, 1, (0, 0, 0)), (37, .iload_n 3, 1, (0, 0, 0))]
theorem K130_4 : zRk 130 B130_4 = true := zRw_ok (by decide +kernel)
noncomputable def B130_5 : List zRow := [(46, .iinc 3 1, 3, (0, 0, 0)), (49, .goto (-32), 3, (0, 0, 0))]
theorem K130_5 : zRk 130 B130_5 = true := zRw_ok (by decide +kernel)
noncomputable def B130_6 : List zRow := [(44, .iconst 0, 1, (0, 0, 0))]
theorem K130_6 : zRk 130 B130_6 = true := zRw_ok (by decide +kernel)
noncomputable def B130_7 : List zRow := [(41, .ifCond .ne 5, 3, (0, 0, 0))]
theorem K130_7 : zRk 130 B130_7 = true := zRw_ok (by decide +kernel)
noncomputable def B130_8 : List zRow := [(31, .ifCond .ne 21, 3, (0, 0, 0))]
theorem K130_8 : zRk 130 B130_8 = true := zRw_ok (by decide +kernel)
noncomputable def B130_9 : List zRow := [(17, .iload_n 3, 1, (0, 0, 0)), (18, .sipush 940, 3, (0, 0, 0)), (21, .if_icmp .ge 31, 3, (0, 0, 0))]
theorem K130_9 : zRk 130 B130_9 = true := zRw_ok (by decide +kernel)
def F130_0 : Nat → Int → Int → Int → zHC → Option (Int × zHC)
  | 0, _, _, _, _ => none
  | n + 1, v1, v2, v3, h => if 940 ≤ v3 then some (1, h) else (F29 h).bind fun r1 => if ¬ r1 = 0 then some (1, h) else (F131 v1 v2 v3 h).bind fun r2 => if ¬ r2.1 = 0 then (F130_0 n) v1 v2 (wadd v3 1) r2.2 else some (0, r2.2)
set_option maxRecDepth 100000 in
theorem T130_0 {spec : zRn zH2} {hm : zHM} {o : Int → Int} {d : Nat} (hd : 5 ≤ d) : ∀ (n : Nat) (v1 : Int) (v2 : Int) (v3 : Int) (h : zHC) (v : (Int × zHC)), F130_0 n v1 v2 v3 h = some v → zFin 0 (fun _ => 0) (zRu2 spec d) 130 (some (0, v.1)) (v.2, hm, o) (17, [some (10, 0), some (19, v1), some (11, v2), some (0, v3)], [], (h, hm, o)) := by
  intro n
  induction n with
  | zero => intro v1 v2 v3 h v e; unfold F130_0 at e; cases e
  | succ n hk0 =>
    intro v1 v2 v3 h v e
    unfold F130_0 at e
    rcases zI_s e with ⟨q1, e⟩ | ⟨q1, e⟩
    · refine zF_blk (m := []) (d := 1) (b := B130_9) (gs := [940 ≤ v3]) (c' := (52, [some (10, 0), some (19, v1), some (11, v2), some (0, v3)], [], (h, hm, o))) K130_9 rfl ⟨q1, trivial⟩ ?_
      refine zF_blk (m := []) (d := 0) (b := B130_2) (gs := []) (c' := (53, [some (10, 0), some (19, v1), some (11, v2), some (0, v3)], [(0, 1)], (h, hm, o))) K130_2 rfl trivial ?_
      exact zF_rbC (zRe1_w (by decide +kernel)) (Or.inr rfl) e
    · refine zF_blk (m := []) (d := 0) (b := B130_9) (gs := [¬ (940 ≤ v3)]) (c' := (24, [some (10, 0), some (19, v1), some (11, v2), some (0, v3)], [], (h, hm, o))) K130_9 rfl ⟨q1, trivial⟩ ?_
      obtain ⟨r1, q2, e⟩ := zB_s e
      refine zF_blk (m := []) (d := 0) (b := B130_3) (gs := []) (c' := (28, [some (10, 0), some (19, v1), some (11, v2), some (0, v3)], [(15, 0)], (h, hm, o))) K130_3 rfl trivial ?_
      refine zF_call (k := 29) (cl := 5) (n := 1) (i := .invokevirtual 25) (args := [(15, 0)]) (rest := []) (g1 := (h, hm, o)) (r1 := some (0, r1)) (zCk1_w (by decide +kernel)) rfl rfl rfl (st' := [(0, r1)]) rfl (S29 (Nat.le_trans (by decide) hd)  h _ q2) ?_
      rcases zI_s e with ⟨q3, e⟩ | ⟨q3, e⟩
      · refine zF_blk (m := []) (d := 1) (b := B130_8) (gs := [¬ r1 = 0]) (c' := (52, [some (10, 0), some (19, v1), some (11, v2), some (0, v3)], [], (h, hm, o))) K130_8 rfl ⟨q3, trivial⟩ ?_
        refine zF_blk (m := []) (d := 0) (b := B130_2) (gs := []) (c' := (53, [some (10, 0), some (19, v1), some (11, v2), some (0, v3)], [(0, 1)], (h, hm, o))) K130_2 rfl trivial ?_
        exact zF_rbC (zRe1_w (by decide +kernel)) (Or.inr rfl) e
      · refine zF_blk (m := []) (d := 0) (b := B130_8) (gs := [¬ (¬ r1 = 0)]) (c' := (34, [some (10, 0), some (19, v1), some (11, v2), some (0, v3)], [], (h, hm, o))) K130_8 rfl ⟨q3, trivial⟩ ?_
        obtain ⟨r2, q4, e⟩ := zB_s e
        refine zF_blk (m := []) (d := 0) (b := B130_4) (gs := []) (c' := (38, [some (10, 0), some (19, v1), some (11, v2), some (0, v3)], [(0, v3), (11, v2), (19, v1), (10, 0)], (h, hm, o))) K130_4 rfl trivial ?_
        refine zF_call (k := 131) (cl := 0) (n := 4) (i := .invokevirtual 29) (args := [(10, 0), (19, v1), (11, v2), (0, v3)]) (rest := []) (g1 := (r2.2, hm, o)) (r1 := some (0, r2.1)) (zCk1_w (by decide +kernel)) rfl rfl rfl (st' := [(0, r2.1)]) rfl (S131 (Nat.le_trans (by decide) hd) v1 v2 v3 h _ q4) ?_
        rcases zI_s e with ⟨q5, e⟩ | ⟨q5, e⟩
        · refine zF_blk (m := []) (d := 1) (b := B130_7) (gs := [¬ r2.1 = 0]) (c' := (46, [some (10, 0), some (19, v1), some (11, v2), some (0, v3)], [], (r2.2, hm, o))) K130_7 rfl ⟨q5, trivial⟩ ?_
          refine zF_blk (m := []) (d := 0) (b := B130_5) (gs := []) (c' := (17, [some (10, 0), some (19, v1), some (11, v2), some (0, (wadd v3 1))], [], (r2.2, hm, o))) K130_5 rfl trivial ?_
          exact hk0 v1 v2 (wadd v3 1) r2.2 _ e
        · refine zF_blk (m := []) (d := 0) (b := B130_7) (gs := [¬ (¬ r2.1 = 0)]) (c' := (44, [some (10, 0), some (19, v1), some (11, v2), some (0, v3)], [], (r2.2, hm, o))) K130_7 rfl ⟨q5, trivial⟩ ?_
          refine zF_blk (m := []) (d := 0) (b := B130_6) (gs := []) (c' := (45, [some (10, 0), some (19, v1), some (11, v2), some (0, v3)], [(0, 0)], (r2.2, hm, o))) K130_6 rfl trivial ?_
          exact zF_rbC (zRe1_w (by decide +kernel)) (Or.inl rfl) e
/-- EchoVale$ClaimsText.readText(LEchoVale$Valley;LEchoVale$Course;)Z -/
def F130 (v1 : Int) (v2 : Int) (h : zHC) : Option (Int × zHC) := (F20 300 (hset h 0 0 0 (-1))).bind fun r1 => F130_0 zFu v1 v2 0 r1
set_option maxRecDepth 100000 in
theorem S130 {spec : zRn zH2} {hm : zHM} {o : Int → Int} {d : Nat} (hd : 6 ≤ d) (v1 : Int) (v2 : Int) (h : zHC) (v : (Int × zHC)) (e : F130 v1 v2 h = some v) : zRu2 spec d 130 [(10, 0), (19, v1), (11, v2)] (h, hm, o) (some (0, v.1)) (v.2, hm, o) := by
  refine zF_in (D := 5) (mx := 4) (L := [some (10, 0), some (19, v1), some (11, v2), none]) (by decide +kernel) rfl rfl hd (fun d hd => ?_)
  unfold F130 at e
  obtain ⟨r1, q1, e⟩ := zB_s e
  refine zF_blk (m := []) (d := 0) (b := B130_0) (gs := []) (c' := (12, [some (10, 0), some (19, v1), some (11, v2), none], [(0, 300), (15, 0)], ((hset h 0 0 0 (-1)), hm, o))) K130_0 rfl trivial ?_
  refine zF_call (k := 20) (cl := 5) (n := 2) (i := .invokevirtual 19) (args := [(15, 0), (0, 300)]) (rest := []) (g1 := (r1, hm, o)) (r1 := none) (zCk1_w (by decide +kernel)) rfl rfl rfl (st' := []) rfl (S20 (Nat.le_trans (by decide) hd) 300 (hset h 0 0 0 (-1)) _ q1) ?_
  refine zF_blk (m := []) (d := 0) (b := B130_1) (gs := []) (c' := (17, [some (10, 0), some (19, v1), some (11, v2), some (0, 0)], [], (r1, hm, o))) K130_1 rfl trivial ?_
  exact T130_0 hd zFu v1 v2 0 r1 _ e
noncomputable def B129_0 : List zRow := [(0, .aload_n 0, 1, (0, 0, 0)), (1, .getfield 35, 3, (11, 3, 3)), (4, .aload_n 0, 1, (0, 0, 0)), (5, .getfield 19, 3, (11, 1, 39)), (8, .aload_n 0, 1, (0, 0, 0)), (9, .getfield 56, 3, (11, 6, 7))]
theorem K129_0 : zRk 129 B129_0 = true := zRw_ok (by decide +kernel)
noncomputable def B129_1 : List zRow := [(38, .bipush (-2), 2, (0, 0, 0)), (40, .aload_n 0, 1, (0, 0, 0)), (41, .getfield 12, 3, (11, 0, 23)), (44, .getfield 116, 3, (5, 3, 0))]
theorem K129_1 : zRk 129 B129_1 = true := zRw_ok (by decide +kernel)
noncomputable def B129_2 : List zRow := [(47, .isub, 1, (0, 0, 0))]
theorem K129_2 : zRk 129 B129_2 = true := zRw_ok (by decide +kernel)
noncomputable def B129_3 : List zRow := [(28, .aload_n 0, 1, (0, 0, 0)), (29, .getfield 35, 3, (11, 3, 3)), (32, .getfield 308, 3, (0, 0, 0)), (35, .goto 13, 3, (0, 0, 0))]
theorem K129_3 : zRk 129 B129_3 = true := zRw_ok (by decide +kernel)
noncomputable def B129_4 : List zRow := [(15, .istore_n 1, 1, (0, 0, 0)), (16, .aload_n 0, 1, (0, 0, 0)), (17, .getfield 12, 3, (11, 0, 23)), (20, .iconst 0, 1, (0, 0, 0)), (21, .putfield 105, 3, (5, 1, 0)), (24, .iload_n 1, 1, (0, 0, 0)), (25, .ifCond .eq 13, 3, (0, 0, 0))]
theorem K129_4 : zRk 129 B129_4 = true := zRw_ok (by decide +kernel)
/-- EchoVale.claims()I -/
def F129 (h : zHC) : Option (Int × zHC) := (F130 0 0 h).bind fun r1 => if r1.1 = 0 then some ((wsub (-2) (r1.2 323 0 0)), (hset r1.2 321 0 0 0)) else some ((r1.2 0 0 0), (hset r1.2 321 0 0 0))
set_option maxRecDepth 100000 in
theorem S129 {spec : zRn zH2} {hm : zHM} {o : Int → Int} {d : Nat} (hd : 7 ≤ d) (h : zHC) (v : (Int × zHC)) (e : F129 h = some v) : zRu2 spec d 129 [(21, 0)] (h, hm, o) (some (0, v.1)) (v.2, hm, o) := by
  refine zF_in (D := 6) (mx := 2) (L := [some (21, 0), none]) (by decide +kernel) rfl rfl hd (fun d hd => ?_)
  unfold F129 at e
  obtain ⟨r1, q1, e⟩ := zB_s e
  refine zF_blk (m := []) (d := 0) (b := B129_0) (gs := []) (c' := (12, [some (21, 0), none], [(11, 0), (19, 0), (10, 0)], (h, hm, o))) K129_0 rfl trivial ?_
  refine zF_call (k := 130) (cl := 0) (n := 3) (i := .invokevirtual 305) (args := [(10, 0), (19, 0), (11, 0)]) (rest := []) (g1 := (r1.2, hm, o)) (r1 := some (0, r1.1)) (zCk1_w (by decide +kernel)) rfl rfl rfl (st' := [(0, r1.1)]) rfl (S130 (Nat.le_trans (by decide) hd) 0 0 h _ q1) ?_
  rcases zI_s e with ⟨q2, e⟩ | ⟨q2, e⟩
  · refine zF_blk (m := []) (d := 1) (b := B129_4) (gs := [r1.1 = 0]) (c' := (38, [some (21, 0), some (0, r1.1)], [], ((hset r1.2 321 0 0 0), hm, o))) K129_4 rfl ⟨q2, trivial⟩ ?_
    refine zF_blk (m := []) (d := 0) (b := B129_1) (gs := []) (c' := (47, [some (21, 0), some (0, r1.1)], [(0, (r1.2 323 0 0)), (0, (-2))], ((hset r1.2 321 0 0 0), hm, o))) K129_1 rfl trivial ?_
    refine zF_blk (m := []) (d := 0) (b := B129_2) (gs := []) (c' := (48, [some (21, 0), some (0, r1.1)], [(0, (wsub (-2) (r1.2 323 0 0)))], ((hset r1.2 321 0 0 0), hm, o))) K129_2 rfl trivial ?_
    exact zF_riC (zRe1_w (by decide +kernel)) e
  · refine zF_blk (m := []) (d := 0) (b := B129_4) (gs := [¬ (r1.1 = 0)]) (c' := (28, [some (21, 0), some (0, r1.1)], [], ((hset r1.2 321 0 0 0), hm, o))) K129_4 rfl ⟨q2, trivial⟩ ?_
    refine zF_blk (m := []) (d := 0) (b := B129_3) (gs := []) (c' := (48, [some (21, 0), some (0, r1.1)], [(0, (r1.2 0 0 0))], ((hset r1.2 321 0 0 0), hm, o))) K129_3 rfl trivial ?_
    exact zF_riC (zRe1_w (by decide +kernel)) e
noncomputable def B192b_0 : List zRow := [(0, .iconst 0, 1, (0, 0, 0)), (1, .istore 5, 2, (0, 0, 0))]
theorem K192b_0 : zRk 192 B192b_0 = true := zRw_ok (by decide +kernel)
noncomputable def B192b_1 : List zRow := [(29, .iconst (-1), 1, (0, 0, 0))]
theorem K192b_1 : zRk 192 B192b_1 = true := zRw_ok (by decide +kernel)
noncomputable def B192b_2 : List zRow := [(23, .iinc 5 1, 3, (0, 0, 0)), (26, .goto (-23), 3, (0, 0, 0))]
theorem K192b_2 : zRk 192 B192b_2 = true := zRw_ok (by decide +kernel)
noncomputable def B192b_3 : List zRow := [(20, .iload 5, 2, (0, 0, 0))]
theorem K192b_3 : zRk 192 B192b_3 = true := zRw_ok (by decide +kernel)
noncomputable def B192b_4 : List zRow := [(9, .aload_n 0, 1, (0, 0, 0)), (10, .iload_n 1, 1, (0, 0, 0)), (11, .iload 5, 2, (0, 0, 0)), (13, .iadd, 1, (0, 0, 0)), (14, .laload, 1, (0, 0, 0)), (15, .lload_n 3, 1, (0, 0, 0)), (16, .lcmp, 1, (0, 0, 0)), (17, .ifCond .ne 6, 3, (0, 0, 0))]
theorem K192b_4 : zRk 192 B192b_4 = true := zRw_ok (by decide +kernel)
noncomputable def B192b_5 : List zRow := [(3, .iload 5, 2, (0, 0, 0)), (5, .iload_n 2, 1, (0, 0, 0)), (6, .if_icmp .ge 23, 3, (0, 0, 0))]
theorem K192b_5 : zRk 192 B192b_5 = true := zRw_ok (by decide +kernel)
def F192b_0 (h : zHM) : Nat → Int → Int → Int → Int → Option Int
  | 0, _, _, _, _ => none
  | n + 1, v1, v2, v3, v5 => if v2 ≤ v5 then some (-1) else zG (0 ≤ (wadd v1 v5) ∧ (wadd v1 v5) < 12) (if ¬ (qcmp (h 19 (wadd v1 v5)) v3) = 0 then (F192b_0 h n) v1 v2 v3 (wadd v5 1) else some v5)
set_option maxRecDepth 100000 in
theorem T192b_0 {spec : zRn zH2} {hc : zHC} {o : Int → Int} {d : Nat} (hd : 0 ≤ d) (h : zHM) : ∀ (n : Nat) (v1 : Int) (v2 : Int) (v3 : Int) (v5 : Int) (v : Int), F192b_0 h n v1 v2 v3 v5 = some v → zFin 0 (fun _ => 0) (zRu2 spec d) 192 (some (0, v)) (hc, h, o) (3, [some (1409300219, 0), some (0, v1), some (0, v2), some (1, v3), none, some (0, v5)], [], (hc, h, o)) := by
  intro n
  induction n with
  | zero => intro v1 v2 v3 v5 v e; unfold F192b_0 at e; cases e
  | succ n hk0 =>
    intro v1 v2 v3 v5 v e
    unfold F192b_0 at e
    rcases zI_s e with ⟨q1, e⟩ | ⟨q1, e⟩
    · refine zF_blk (m := []) (d := 1) (b := B192b_5) (gs := [v2 ≤ v5]) (c' := (29, [some (1409300219, 0), some (0, v1), some (0, v2), some (1, v3), none, some (0, v5)], [], (hc, h, o))) K192b_5 rfl ⟨q1, trivial⟩ ?_
      refine zF_blk (m := []) (d := 0) (b := B192b_1) (gs := []) (c' := (30, [some (1409300219, 0), some (0, v1), some (0, v2), some (1, v3), none, some (0, v5)], [(0, (-1))], (hc, h, o))) K192b_1 rfl trivial ?_
      obtain rfl := Option.some.inj e
      exact zF_ri (zRe1_w (by decide +kernel))
    · refine zF_blk (m := []) (d := 0) (b := B192b_5) (gs := [¬ (v2 ≤ v5)]) (c' := (9, [some (1409300219, 0), some (0, v1), some (0, v2), some (1, v3), none, some (0, v5)], [], (hc, h, o))) K192b_5 rfl ⟨q1, trivial⟩ ?_
      obtain ⟨q2, e⟩ := zG_s e
      rcases zI_s e with ⟨q3, e⟩ | ⟨q3, e⟩
      · refine zF_blk (m := []) (d := 1) (b := B192b_4) (gs := [0 ≤ (wadd v1 v5) ∧ (wadd v1 v5) < 12, ¬ (qcmp (h 19 (wadd v1 v5)) v3) = 0]) (c' := (23, [some (1409300219, 0), some (0, v1), some (0, v2), some (1, v3), none, some (0, v5)], [], (hc, h, o))) K192b_4 rfl ⟨q2, q3, trivial⟩ ?_
        refine zF_blk (m := []) (d := 0) (b := B192b_2) (gs := []) (c' := (3, [some (1409300219, 0), some (0, v1), some (0, v2), some (1, v3), none, some (0, (wadd v5 1))], [], (hc, h, o))) K192b_2 rfl trivial ?_
        exact hk0 v1 v2 v3 (wadd v5 1) _ e
      · refine zF_blk (m := []) (d := 0) (b := B192b_4) (gs := [0 ≤ (wadd v1 v5) ∧ (wadd v1 v5) < 12, ¬ (¬ (qcmp (h 19 (wadd v1 v5)) v3) = 0)]) (c' := (20, [some (1409300219, 0), some (0, v1), some (0, v2), some (1, v3), none, some (0, v5)], [], (hc, h, o))) K192b_4 rfl ⟨q2, q3, trivial⟩ ?_
        refine zF_blk (m := []) (d := 0) (b := B192b_3) (gs := []) (c' := (22, [some (1409300219, 0), some (0, v1), some (0, v2), some (1, v3), none, some (0, v5)], [(0, v5)], (hc, h, o))) K192b_3 rfl trivial ?_
        obtain rfl := Option.some.inj e
        exact zF_ri (zRe1_w (by decide +kernel))
/-- EchoValeModel.findIn([JIIJ)I -/
def F192b (v1 : Int) (v2 : Int) (v3 : Int) (h : zHM) : Option Int := F192b_0 h zFu v1 v2 v3 0
set_option maxRecDepth 100000 in
theorem S192b {spec : zRn zH2} {hc : zHC} {o : Int → Int} {d : Nat} (hd : 1 ≤ d) (v1 : Int) (v2 : Int) (v3 : Int) (h : zHM) (v : Int) (e : F192b v1 v2 v3 h = some v) : zRu2 spec d 192 [(1409300219, 0), (0, v1), (0, v2), (1, v3)] (hc, h, o) (some (0, v)) (hc, h, o) := by
  refine zF_in (D := 0) (mx := 6) (L := [some (1409300219, 0), some (0, v1), some (0, v2), some (1, v3), none, none]) (by decide +kernel) rfl rfl hd (fun d hd => ?_)
  unfold F192b at e
  refine zF_blk (m := []) (d := 0) (b := B192b_0) (gs := []) (c' := (3, [some (1409300219, 0), some (0, v1), some (0, v2), some (1, v3), none, some (0, 0)], [], (hc, h, o))) K192b_0 rfl trivial ?_
  exact T192b_0 hd h zFu v1 v2 v3 0 _ e
noncomputable def B269_0 : List zRow := [(0, .aload_n 0, 1, (0, 0, 0)), (1, .bipush 7, 2, (0, 0, 0))]
theorem K269_0 : zRk 269 B269_0 = true := zRw_ok (by decide +kernel)
noncomputable def B269_1 : List zRow := [(14, .aload_n 0, 1, (0, 0, 0)), (15, .bipush 8, 2, (0, 0, 0))]
theorem K269_1 : zRk 269 B269_1 = true := zRw_ok (by decide +kernel)
noncomputable def B269_2 : List zRow := [(28, .aload_n 0, 1, (0, 0, 0)), (29, .bipush 9, 2, (0, 0, 0))]
theorem K269_2 : zRk 269 B269_2 = true := zRw_ok (by decide +kernel)
noncomputable def B269_3 : List zRow := [(42, .iconst (-1), 1, (0, 0, 0))]
theorem K269_3 : zRk 269 B269_3 = true := zRw_ok (by decide +kernel)
noncomputable def B269_4 : List zRow := [(37, .bipush 9, 2, (0, 0, 0)), (39, .goto 4, 3, (0, 0, 0))]
theorem K269_4 : zRk 269 B269_4 = true := zRw_ok (by decide +kernel)
noncomputable def B269_5 : List zRow := [(34, .ifCond .eq 8, 3, (0, 0, 0))]
theorem K269_5 : zRk 269 B269_5 = true := zRw_ok (by decide +kernel)
noncomputable def B269_6 : List zRow := [(23, .bipush 8, 2, (0, 0, 0)), (25, .goto 18, 3, (0, 0, 0))]
theorem K269_6 : zRk 269 B269_6 = true := zRw_ok (by decide +kernel)
noncomputable def B269_7 : List zRow := [(20, .ifCond .eq 8, 3, (0, 0, 0))]
theorem K269_7 : zRk 269 B269_7 = true := zRw_ok (by decide +kernel)
noncomputable def B269_8 : List zRow := [(9, .bipush 7, 2, (0, 0, 0)), (11, .goto 32, 3, (0, 0, 0))]
theorem K269_8 : zRk 269 B269_8 = true := zRw_ok (by decide +kernel)
noncomputable def B269_9 : List zRow := [(6, .ifCond .eq 8, 3, (0, 0, 0))]
theorem K269_9 : zRk 269 B269_9 = true := zRw_ok (by decide +kernel)
noncomputable def B269_10 : List zRow := [(70, .aload_n 0, 1, (0, 0, 0))]
theorem K269_10 : zRk 269 B269_10 = true := zRw_ok (by decide +kernel)
noncomputable def B269_11 : List zRow := [(74, .aload_n 0, 1, (0, 0, 0))]
theorem K269_11 : zRk 269 B269_11 = true := zRw_ok (by decide +kernel)
noncomputable def B269_12 : List zRow := [(87, .aload_n 0, 1, (0, 0, 0)), (88, .getfield 28, 3, (12, 19, 5505074)), (91, .bipush 6, 2, (0, 0, 0)), (93, .aload_n 0, 1, (0, 0, 0)), (94, .getfield 13, 3, (12, 14, 5251442)), (97, .iconst 3, 1, (0, 0, 0)), (98, .iaload, 1, (0, 0, 0)), (99, .aload_n 0, 1, (0, 0, 0)), (100, .getfield 120, 3, (12, 12, 1))]
theorem K269_12 : zRk 269 B269_12 = true := zRw_ok (by decide +kernel)
noncomputable def B269_13 : List zRow := [(118, .aload_n 0, 1, (0, 0, 0))]
theorem K269_13 : zRk 269 B269_13 = true := zRw_ok (by decide +kernel)
noncomputable def B269_14 : List zRow := [(122, .aload_n 0, 1, (0, 0, 0)), (123, .iconst 0, 1, (0, 0, 0)), (124, .bipush 29, 2, (0, 0, 0))]
theorem K269_14 : zRk 269 B269_14 = true := zRw_ok (by decide +kernel)
noncomputable def B269_15 : List zRow := [(134, .aload_n 0, 1, (0, 0, 0)), (135, .getfield 155, 3, (12, 13, 0)), (138, .istore_n 3, 1, (0, 0, 0)), (139, .aload_n 0, 1, (0, 0, 0))]
theorem K269_15 : zRk 269 B269_15 = true := zRw_ok (by decide +kernel)
noncomputable def B269_16 : List zRow := [(148, .aload_n 0, 1, (0, 0, 0)), (149, .iload_n 3, 1, (0, 0, 0))]
theorem K269_16 : zRk 269 B269_16 = true := zRw_ok (by decide +kernel)
noncomputable def B269_17 : List zRow := [(197, .aload_n 0, 1, (0, 0, 0)), (198, .iload_n 3, 1, (0, 0, 0)), (199, .bipush 7, 2, (0, 0, 0))]
theorem K269_17 : zRk 269 B269_17 = true := zRw_ok (by decide +kernel)
noncomputable def B269_18 : List zRow := [(204, .iload_n 2, 1, (0, 0, 0))]
theorem K269_18 : zRk 269 B269_18 = true := zRw_ok (by decide +kernel)
noncomputable def B269_19 : List zRow := [(208, .ifCond .eq 7, 3, (0, 0, 0))]
theorem K269_19 : zRk 269 B269_19 = true := zRw_ok (by decide +kernel)
noncomputable def B269_20 : List zRow := [(184, .aload_n 0, 1, (0, 0, 0)), (185, .iload_n 3, 1, (0, 0, 0)), (186, .iconst 1, 1, (0, 0, 0))]
theorem K269_20 : zRk 269 B269_20 = true := zRw_ok (by decide +kernel)
noncomputable def B269_21 : List zRow := [(194, .goto 17, 3, (0, 0, 0))]
theorem K269_21 : zRk 269 B269_21 = true := zRw_ok (by decide +kernel)
noncomputable def B269_22 : List zRow := [(190, .iload_n 2, 1, (0, 0, 0)), (191, .if_icmp .ne 24, 3, (0, 0, 0))]
theorem K269_22 : zRk 269 B269_22 = true := zRw_ok (by decide +kernel)
noncomputable def B269_23 : List zRow := [(178, .iload_n 1, 1, (0, 0, 0)), (179, .bipush 8, 2, (0, 0, 0)), (181, .if_icmp .ne 16, 3, (0, 0, 0))]
theorem K269_23 : zRk 269 B269_23 = true := zRw_ok (by decide +kernel)
noncomputable def B269_24 : List zRow := [(162, .aload_n 0, 1, (0, 0, 0)), (163, .iload_n 3, 1, (0, 0, 0)), (164, .iconst 5, 1, (0, 0, 0))]
theorem K269_24 : zRk 269 B269_24 = true := zRw_ok (by decide +kernel)
noncomputable def B269_25 : List zRow := [(168, .iload_n 2, 1, (0, 0, 0))]
theorem K269_25 : zRk 269 B269_25 = true := zRw_ok (by decide +kernel)
noncomputable def B269_26 : List zRow := [(175, .goto 36, 3, (0, 0, 0))]
theorem K269_26 : zRk 269 B269_26 = true := zRw_ok (by decide +kernel)
noncomputable def B269_27 : List zRow := [(172, .ifCond .eq 43, 3, (0, 0, 0))]
theorem K269_27 : zRk 269 B269_27 = true := zRw_ok (by decide +kernel)
noncomputable def B269_28 : List zRow := [(156, .iload_n 1, 1, (0, 0, 0)), (157, .bipush 7, 2, (0, 0, 0)), (159, .if_icmp .ne 19, 3, (0, 0, 0))]
theorem K269_28 : zRk 269 B269_28 = true := zRw_ok (by decide +kernel)
noncomputable def B269_29 : List zRow := [(153, .ifCond .eq 62, 3, (0, 0, 0))]
theorem K269_29 : zRk 269 B269_29 = true := zRw_ok (by decide +kernel)
noncomputable def B269_30 : List zRow := [(146, .iconst 0, 1, (0, 0, 0))]
theorem K269_30 : zRk 269 B269_30 = true := zRw_ok (by decide +kernel)
noncomputable def B269_31 : List zRow := [(143, .ifCond .ne 5, 3, (0, 0, 0))]
theorem K269_31 : zRk 269 B269_31 = true := zRw_ok (by decide +kernel)
noncomputable def B269_32 : List zRow := [(132, .iconst 0, 1, (0, 0, 0))]
theorem K269_32 : zRk 269 B269_32 = true := zRw_ok (by decide +kernel)
noncomputable def B269_33 : List zRow := [(129, .ifCond .ne 5, 3, (0, 0, 0))]
theorem K269_33 : zRk 269 B269_33 = true := zRw_ok (by decide +kernel)
noncomputable def B269_34 : List zRow := [(112, .aload_n 0, 1, (0, 0, 0)), (113, .iconst 3, 1, (0, 0, 0))]
theorem K269_34 : zRk 269 B269_34 = true := zRw_ok (by decide +kernel)
noncomputable def B269_35 : List zRow := [(106, .istore_n 2, 1, (0, 0, 0)), (107, .iload_n 2, 1, (0, 0, 0)), (108, .iconst (-1), 1, (0, 0, 0)), (109, .if_icmp .ne 9, 3, (0, 0, 0))]
theorem K269_35 : zRk 269 B269_35 = true := zRw_ok (by decide +kernel)
noncomputable def B269_36 : List zRow := [(81, .aload_n 0, 1, (0, 0, 0)), (82, .iconst 1, 1, (0, 0, 0))]
theorem K269_36 : zRk 269 B269_36 = true := zRw_ok (by decide +kernel)
noncomputable def B269_37 : List zRow := [(78, .ifCond .ne 9, 3, (0, 0, 0))]
theorem K269_37 : zRk 269 B269_37 = true := zRw_ok (by decide +kernel)
noncomputable def B269_38 : List zRow := [(64, .aload_n 0, 1, (0, 0, 0)), (65, .iconst 4, 1, (0, 0, 0))]
theorem K269_38 : zRk 269 B269_38 = true := zRw_ok (by decide +kernel)
noncomputable def B269_39 : List zRow := [(55, .aload_n 0, 1, (0, 0, 0)), (56, .getfield 360, 3, (12, 36, 0)), (59, .bipush 30, 2, (0, 0, 0)), (61, .if_icmp .ne 9, 3, (0, 0, 0))]
theorem K269_39 : zRk 269 B269_39 = true := zRw_ok (by decide +kernel)
noncomputable def B269_40 : List zRow := [(49, .aload_n 0, 1, (0, 0, 0)), (50, .iconst 1, 1, (0, 0, 0))]
theorem K269_40 : zRk 269 B269_40 = true := zRw_ok (by decide +kernel)
noncomputable def B269_41 : List zRow := [(43, .istore_n 1, 1, (0, 0, 0)), (44, .iload_n 1, 1, (0, 0, 0)), (45, .iconst (-1), 1, (0, 0, 0)), (46, .if_icmp .ne 9, 3, (0, 0, 0))]
theorem K269_41 : zRk 269 B269_41 = true := zRw_ok (by decide +kernel)
noncomputable def B269_42 : List zRow := [(211, .iconst 1, 1, (0, 0, 0)), (212, .goto 4, 3, (0, 0, 0))]
theorem K269_42 : zRk 269 B269_42 = true := zRw_ok (by decide +kernel)
noncomputable def B269_43 : List zRow := [(231, .aload_n 0, 1, (0, 0, 0)), (232, .aload_n 0, 1, (0, 0, 0)), (233, .getfield 360, 3, (12, 36, 0)), (236, .putfield 363, 3, (12, 37, 0))]
theorem K269_43 : zRk 269 B269_43 = true := zRw_ok (by decide +kernel)
noncomputable def B269_44 : List zRow := [(223, .aload_n 0, 1, (0, 0, 0)), (224, .getfield 363, 3, (12, 37, 0)), (227, .iconst (-1), 1, (0, 0, 0)), (228, .if_icmp .ne 11, 3, (0, 0, 0))]
theorem K269_44 : zRk 269 B269_44 = true := zRw_ok (by decide +kernel)
noncomputable def B269_45 : List zRow := [(216, .istore 4, 2, (0, 0, 0)), (218, .iload 4, 2, (0, 0, 0)), (220, .ifCond .ne 19, 3, (0, 0, 0))]
theorem K269_45 : zRk 269 B269_45 = true := zRw_ok (by decide +kernel)
noncomputable def B269_46 : List zRow := [(239, .aload_n 0, 1, (0, 0, 0)), (240, .dup, 1, (0, 0, 0)), (241, .getfield 360, 3, (12, 36, 0)), (244, .iconst 1, 1, (0, 0, 0)), (245, .iadd, 1, (0, 0, 0)), (246, .putfield 360, 3, (12, 36, 0)), (249, .iconst 1, 1, (0, 0, 0))]
theorem K269_46 : zRk 269 B269_46 = true := zRw_ok (by decide +kernel)
noncomputable def B269_47 : List zRow := [(215, .iconst 0, 1, (0, 0, 0))]
theorem K269_47 : zRk 269 B269_47 = true := zRw_ok (by decide +kernel)
def F269_4 (h : zHM) : Option (Int × zHM) := some (1, (mset h 36 0 (wadd (h 36 0) 1)))
set_option maxRecDepth 100000 in
theorem T269_4 {spec : zRn zH2} {hc : zHC} {o : Int → Int} {d : Nat} (hd : 3 ≤ d) (h : zHM) (v : (Int × zHM)) (e : F269_4 h = some v) : zFin 0 (fun _ => 0) (zRu2 spec d) 269 (some (0, v.1)) (hc, v.2, o) (239, [some (22, 0), none, none, none, none], [], (hc, h, o)) := by
  unfold F269_4 at e
  refine zF_blk (m := []) (d := 0) (b := B269_46) (gs := []) (c' := (250, [some (22, 0), none, none, none, none], [(0, 1)], (hc, (mset h 36 0 (wadd (h 36 0) 1)), o))) K269_46 rfl trivial ?_
  exact zF_rbM (zRe1_w (by decide +kernel)) (Or.inr rfl) e
def F269_3 (s0 : Int) (h : zHM) : Option (Int × zHM) := if ¬ s0 = 0 then F269_4 h else if ¬ (h 37 0) = (-1) then F269_4 h else F269_4 (mset h 37 0 (h 36 0))
set_option maxRecDepth 100000 in
theorem T269_3 {spec : zRn zH2} {hc : zHC} {o : Int → Int} {d : Nat} (hd : 3 ≤ d) (s0 : Int) (h : zHM) (v : (Int × zHM)) (e : F269_3 s0 h = some v) : zFin 0 (fun _ => 0) (zRu2 spec d) 269 (some (0, v.1)) (hc, v.2, o) (216, [some (22, 0), none, none, none, none], [(0, s0)], (hc, h, o)) := by
  unfold F269_3 at e
  rcases zI_s e with ⟨q1, e⟩ | ⟨q1, e⟩
  · refine zF_blk (m := []) (d := 1) (b := B269_45) (gs := [¬ s0 = 0]) (c' := (239, [some (22, 0), none, none, none, some (0, s0)], [], (hc, h, o))) K269_45 rfl ⟨q1, trivial⟩ ?_
    refine zF_blk (m := [true, false, false, false, false]) (d := 0) (b := []) (gs := []) (c' := (239, [some (22, 0), none, none, none, none], [], (hc, h, o))) rfl rfl trivial ?_
    exact T269_4 hd h _ e
  · refine zF_blk (m := []) (d := 0) (b := B269_45) (gs := [¬ (¬ s0 = 0)]) (c' := (223, [some (22, 0), none, none, none, some (0, s0)], [], (hc, h, o))) K269_45 rfl ⟨q1, trivial⟩ ?_
    rcases zI_s e with ⟨q2, e⟩ | ⟨q2, e⟩
    · refine zF_blk (m := []) (d := 1) (b := B269_44) (gs := [¬ (h 37 0) = (-1)]) (c' := (239, [some (22, 0), none, none, none, some (0, s0)], [], (hc, h, o))) K269_44 rfl ⟨q2, trivial⟩ ?_
      refine zF_blk (m := [true, false, false, false, false]) (d := 0) (b := []) (gs := []) (c' := (239, [some (22, 0), none, none, none, none], [], (hc, h, o))) rfl rfl trivial ?_
      exact T269_4 hd h _ e
    · refine zF_blk (m := []) (d := 0) (b := B269_44) (gs := [¬ (¬ (h 37 0) = (-1))]) (c' := (231, [some (22, 0), none, none, none, some (0, s0)], [], (hc, h, o))) K269_44 rfl ⟨q2, trivial⟩ ?_
      refine zF_blk (m := []) (d := 0) (b := B269_43) (gs := []) (c' := (239, [some (22, 0), none, none, none, some (0, s0)], [], (hc, (mset h 37 0 (h 36 0)), o))) K269_43 rfl trivial ?_
      refine zF_blk (m := [true, false, false, false, false]) (d := 0) (b := []) (gs := []) (c' := (239, [some (22, 0), none, none, none, none], [], (hc, (mset h 37 0 (h 36 0)), o))) rfl rfl trivial ?_
      exact T269_4 hd (mset h 37 0 (h 36 0)) _ e
def F269_1 (h : zHM) : Option (Int × zHM) := F269_3 0 h
set_option maxRecDepth 100000 in
theorem T269_1 {spec : zRn zH2} {hc : zHC} {o : Int → Int} {d : Nat} (hd : 3 ≤ d) (h : zHM) (v : (Int × zHM)) (e : F269_1 h = some v) : zFin 0 (fun _ => 0) (zRu2 spec d) 269 (some (0, v.1)) (hc, v.2, o) (215, [some (22, 0), none, none, none, none], [], (hc, h, o)) := by
  unfold F269_1 at e
  refine zF_blk (m := []) (d := 0) (b := B269_47) (gs := []) (c' := (216, [some (22, 0), none, none, none, none], [(0, 0)], (hc, h, o))) K269_47 rfl trivial ?_
  exact T269_3 hd 0 h _ e
def F269_2 (h : zHM) : Option (Int × zHM) := F269_3 1 h
set_option maxRecDepth 100000 in
theorem T269_2 {spec : zRn zH2} {hc : zHC} {o : Int → Int} {d : Nat} (hd : 3 ≤ d) (h : zHM) (v : (Int × zHM)) (e : F269_2 h = some v) : zFin 0 (fun _ => 0) (zRu2 spec d) 269 (some (0, v.1)) (hc, v.2, o) (211, [some (22, 0), none, none, none, none], [], (hc, h, o)) := by
  unfold F269_2 at e
  refine zF_blk (m := []) (d := 0) (b := B269_42) (gs := []) (c' := (216, [some (22, 0), none, none, none, none], [(0, 1)], (hc, h, o))) K269_42 rfl trivial ?_
  exact T269_3 hd 1 h _ e
def F269_0 (s0 : Int) (h : zHM) : Option (Int × zHM) := if ¬ s0 = (-1) then if ¬ (h 36 0) = 30 then (F176 h).bind fun r1 => (F191 r1).bind fun r2 => if ¬ r2 = 0 then (F192b 6 (r1 14 3) (r1 12 0) r1).bind fun r3 => if ¬ r3 = (-1) then (F176 r1).bind fun r4 => (F186 0 29 r4).bind fun r5 => if ¬ r5.1 = 0 then (F201 r5.2).bind fun r6 => if ¬ r6.1 = 0 then (F217 (r5.2 13 0) r6.2).bind fun r7 => if r7 = 0 then F269_1 r6.2 else if ¬ s0 = 7 then if ¬ s0 = 8 then (F213 (r5.2 13 0) 7 r6.2).bind fun r8 => (F214 r8 r3).bind fun r9 => if r9 = 0 then F269_1 r6.2 else F269_2 r6.2 else (F213 (r5.2 13 0) 1 r6.2).bind fun r10 => if ¬ r10 = r3 then F269_1 r6.2 else F269_2 r6.2 else (F213 (r5.2 13 0) 5 r6.2).bind fun r11 => (F214 r11 r3).bind fun r12 => if r12 = 0 then F269_1 r6.2 else F269_2 r6.2 else some (0, r6.2) else some (0, r5.2) else (F185 3 r1).bind fun r13 => zG (r13.1 = 0 ∨ r13.1 = 1) (some (r13.1, r13.2)) else (F185 1 r1).bind fun r14 => zG (r14.1 = 0 ∨ r14.1 = 1) (some (r14.1, r14.2)) else (F185 4 h).bind fun r15 => zG (r15.1 = 0 ∨ r15.1 = 1) (some (r15.1, r15.2)) else (F185 1 h).bind fun r16 => zG (r16.1 = 0 ∨ r16.1 = 1) (some (r16.1, r16.2))
set_option maxRecDepth 100000 in
theorem T269_0 {spec : zRn zH2} {hc : zHC} {o : Int → Int} {d : Nat} (hd : 3 ≤ d) (s0 : Int) (h : zHM) (v : (Int × zHM)) (e : F269_0 s0 h = some v) : zFin 0 (fun _ => 0) (zRu2 spec d) 269 (some (0, v.1)) (hc, v.2, o) (43, [some (22, 0), none, none, none, none], [(0, s0)], (hc, h, o)) := by
  unfold F269_0 at e
  rcases zI_s e with ⟨q1, e⟩ | ⟨q1, e⟩
  · refine zF_blk (m := []) (d := 1) (b := B269_41) (gs := [¬ s0 = (-1)]) (c' := (55, [some (22, 0), some (0, s0), none, none, none], [], (hc, h, o))) K269_41 rfl ⟨q1, trivial⟩ ?_
    rcases zI_s e with ⟨q2, e⟩ | ⟨q2, e⟩
    · refine zF_blk (m := []) (d := 1) (b := B269_39) (gs := [¬ (h 36 0) = 30]) (c' := (70, [some (22, 0), some (0, s0), none, none, none], [], (hc, h, o))) K269_39 rfl ⟨q2, trivial⟩ ?_
      obtain ⟨r1, q3, e⟩ := zB_s e
      refine zF_blk (m := []) (d := 0) (b := B269_10) (gs := []) (c' := (71, [some (22, 0), some (0, s0), none, none, none], [(22, 0)], (hc, h, o))) K269_10 rfl trivial ?_
      refine zF_call (k := 176) (cl := 12) (n := 1) (i := .invokevirtual 162) (args := [(22, 0)]) (rest := []) (g1 := (hc, r1, o)) (r1 := none) (zCk1_w (by decide +kernel)) rfl rfl rfl (st' := []) rfl (S176 (Nat.le_trans (by decide) hd)  h _ q3) ?_
      obtain ⟨r2, q4, e⟩ := zB_s e
      refine zF_blk (m := []) (d := 0) (b := B269_11) (gs := []) (c' := (75, [some (22, 0), some (0, s0), none, none, none], [(22, 0)], (hc, r1, o))) K269_11 rfl trivial ?_
      refine zF_call (k := 191) (cl := 12) (n := 1) (i := .invokevirtual 172) (args := [(22, 0)]) (rest := []) (g1 := (hc, r1, o)) (r1 := some (0, r2)) (zCk1_w (by decide +kernel)) rfl rfl rfl (st' := [(0, r2)]) rfl (S191 (Nat.le_trans (by decide) hd)  r1 _ q4) ?_
      rcases zI_s e with ⟨q5, e⟩ | ⟨q5, e⟩
      · refine zF_blk (m := []) (d := 1) (b := B269_37) (gs := [¬ r2 = 0]) (c' := (87, [some (22, 0), some (0, s0), none, none, none], [], (hc, r1, o))) K269_37 rfl ⟨q5, trivial⟩ ?_
        obtain ⟨r3, q6, e⟩ := zB_s e
        refine zF_blk (m := []) (d := 0) (b := B269_12) (gs := [0 ≤ 3 ∧ 3 < 2140]) (c' := (103, [some (22, 0), some (0, s0), none, none, none], [(1, (r1 12 0)), (0, (r1 14 3)), (0, 6), (1409300219, 0)], (hc, r1, o))) K269_12 rfl ⟨by decide, trivial⟩ ?_
        refine zF_call (k := 192) (cl := 12) (n := 4) (i := .invokestatic 176) (args := [(1409300219, 0), (0, 6), (0, (r1 14 3)), (1, (r1 12 0))]) (rest := []) (g1 := (hc, r1, o)) (r1 := some (0, r3)) (zCk1_w (by decide +kernel)) rfl rfl rfl (st' := [(0, r3)]) rfl (S192b (Nat.le_trans (by decide) hd) 6 (r1 14 3) (r1 12 0) r1 _ q6) ?_
        rcases zI_s e with ⟨q7, e⟩ | ⟨q7, e⟩
        · refine zF_blk (m := []) (d := 1) (b := B269_35) (gs := [¬ r3 = (-1)]) (c' := (118, [some (22, 0), some (0, s0), some (0, r3), none, none], [], (hc, r1, o))) K269_35 rfl ⟨q7, trivial⟩ ?_
          obtain ⟨r4, q8, e⟩ := zB_s e
          refine zF_blk (m := []) (d := 0) (b := B269_13) (gs := []) (c' := (119, [some (22, 0), some (0, s0), some (0, r3), none, none], [(22, 0)], (hc, r1, o))) K269_13 rfl trivial ?_
          refine zF_call (k := 176) (cl := 12) (n := 1) (i := .invokevirtual 162) (args := [(22, 0)]) (rest := []) (g1 := (hc, r4, o)) (r1 := none) (zCk1_w (by decide +kernel)) rfl rfl rfl (st' := []) rfl (S176 (Nat.le_trans (by decide) hd)  r1 _ q8) ?_
          obtain ⟨r5, q9, e⟩ := zB_s e
          refine zF_blk (m := []) (d := 0) (b := B269_14) (gs := []) (c' := (126, [some (22, 0), some (0, s0), some (0, r3), none, none], [(0, 29), (0, 0), (22, 0)], (hc, r4, o))) K269_14 rfl trivial ?_
          refine zF_call (k := 186) (cl := 12) (n := 3) (i := .invokevirtual 180) (args := [(22, 0), (0, 0), (0, 29)]) (rest := []) (g1 := (hc, r5.2, o)) (r1 := some (0, r5.1)) (zCk1_w (by decide +kernel)) rfl rfl rfl (st' := [(0, r5.1)]) rfl (S186 (Nat.le_trans (by decide) hd) 0 29 r4 _ q9) ?_
          rcases zI_s e with ⟨q10, e⟩ | ⟨q10, e⟩
          · refine zF_blk (m := []) (d := 1) (b := B269_33) (gs := [¬ r5.1 = 0]) (c' := (134, [some (22, 0), some (0, s0), some (0, r3), none, none], [], (hc, r5.2, o))) K269_33 rfl ⟨q10, trivial⟩ ?_
            obtain ⟨r6, q11, e⟩ := zB_s e
            refine zF_blk (m := []) (d := 0) (b := B269_15) (gs := []) (c' := (140, [some (22, 0), some (0, s0), some (0, r3), some (0, (r5.2 13 0)), none], [(22, 0)], (hc, r5.2, o))) K269_15 rfl trivial ?_
            refine zF_call (k := 201) (cl := 12) (n := 1) (i := .invokevirtual 223) (args := [(22, 0)]) (rest := []) (g1 := (hc, r6.2, o)) (r1 := some (0, r6.1)) (zCk1_w (by decide +kernel)) rfl rfl rfl (st' := [(0, r6.1)]) rfl (S201 (Nat.le_trans (by decide) hd)  r5.2 _ q11) ?_
            rcases zI_s e with ⟨q12, e⟩ | ⟨q12, e⟩
            · refine zF_blk (m := []) (d := 1) (b := B269_31) (gs := [¬ r6.1 = 0]) (c' := (148, [some (22, 0), some (0, s0), some (0, r3), some (0, (r5.2 13 0)), none], [], (hc, r6.2, o))) K269_31 rfl ⟨q12, trivial⟩ ?_
              obtain ⟨r7, q13, e⟩ := zB_s e
              refine zF_blk (m := []) (d := 0) (b := B269_16) (gs := []) (c' := (150, [some (22, 0), some (0, s0), some (0, r3), some (0, (r5.2 13 0)), none], [(0, (r5.2 13 0)), (22, 0)], (hc, r6.2, o))) K269_16 rfl trivial ?_
              refine zF_call (k := 217) (cl := 12) (n := 2) (i := .invokevirtual 266) (args := [(22, 0), (0, (r5.2 13 0))]) (rest := []) (g1 := (hc, r6.2, o)) (r1 := some (0, r7)) (zCk1_w (by decide +kernel)) rfl rfl rfl (st' := [(0, r7)]) rfl (S217 (Nat.le_trans (by decide) hd) (r5.2 13 0) r6.2 _ q13) ?_
              rcases zI_s e with ⟨q14, e⟩ | ⟨q14, e⟩
              · refine zF_blk (m := []) (d := 1) (b := B269_29) (gs := [r7 = 0]) (c' := (215, [some (22, 0), some (0, s0), some (0, r3), some (0, (r5.2 13 0)), none], [], (hc, r6.2, o))) K269_29 rfl ⟨q14, trivial⟩ ?_
                refine zF_blk (m := [true, false, false, false, false]) (d := 0) (b := []) (gs := []) (c' := (215, [some (22, 0), none, none, none, none], [], (hc, r6.2, o))) rfl rfl trivial ?_
                exact T269_1 hd r6.2 _ e
              · refine zF_blk (m := []) (d := 0) (b := B269_29) (gs := [¬ (r7 = 0)]) (c' := (156, [some (22, 0), some (0, s0), some (0, r3), some (0, (r5.2 13 0)), none], [], (hc, r6.2, o))) K269_29 rfl ⟨q14, trivial⟩ ?_
                rcases zI_s e with ⟨q15, e⟩ | ⟨q15, e⟩
                · refine zF_blk (m := []) (d := 1) (b := B269_28) (gs := [¬ s0 = 7]) (c' := (178, [some (22, 0), some (0, s0), some (0, r3), some (0, (r5.2 13 0)), none], [], (hc, r6.2, o))) K269_28 rfl ⟨q15, trivial⟩ ?_
                  rcases zI_s e with ⟨q16, e⟩ | ⟨q16, e⟩
                  · refine zF_blk (m := []) (d := 1) (b := B269_23) (gs := [¬ s0 = 8]) (c' := (197, [some (22, 0), some (0, s0), some (0, r3), some (0, (r5.2 13 0)), none], [], (hc, r6.2, o))) K269_23 rfl ⟨q16, trivial⟩ ?_
                    obtain ⟨r8, q17, e⟩ := zB_s e
                    refine zF_blk (m := []) (d := 0) (b := B269_17) (gs := []) (c' := (201, [some (22, 0), some (0, s0), some (0, r3), some (0, (r5.2 13 0)), none], [(0, 7), (0, (r5.2 13 0)), (22, 0)], (hc, r6.2, o))) K269_17 rfl trivial ?_
                    refine zF_call (k := 213) (cl := 12) (n := 3) (i := .invokevirtual 247) (args := [(22, 0), (0, (r5.2 13 0)), (0, 7)]) (rest := []) (g1 := (hc, r6.2, o)) (r1 := some (0, r8)) (zCk1_w (by decide +kernel)) rfl rfl rfl (st' := [(0, r8)]) rfl (S213 (Nat.le_trans (by decide) hd) (r5.2 13 0) 7 r6.2 _ q17) ?_
                    obtain ⟨r9, q18, e⟩ := zB_s e
                    refine zF_blk (m := []) (d := 0) (b := B269_18) (gs := []) (c' := (205, [some (22, 0), some (0, s0), some (0, r3), some (0, (r5.2 13 0)), none], [(0, r3), (0, r8)], (hc, r6.2, o))) K269_18 rfl trivial ?_
                    refine zF_call (k := 214) (cl := 12) (n := 2) (i := .invokestatic 251) (args := [(0, r8), (0, r3)]) (rest := []) (g1 := (hc, r6.2, o)) (r1 := some (0, r9)) (zCk1_w (by decide +kernel)) rfl rfl rfl (st' := [(0, r9)]) rfl (S214 (Nat.le_trans (by decide) hd) r8 r3 r6.2 _ q18) ?_
                    rcases zI_s e with ⟨q19, e⟩ | ⟨q19, e⟩
                    · refine zF_blk (m := []) (d := 1) (b := B269_19) (gs := [r9 = 0]) (c' := (215, [some (22, 0), some (0, s0), some (0, r3), some (0, (r5.2 13 0)), none], [], (hc, r6.2, o))) K269_19 rfl ⟨q19, trivial⟩ ?_
                      refine zF_blk (m := [true, false, false, false, false]) (d := 0) (b := []) (gs := []) (c' := (215, [some (22, 0), none, none, none, none], [], (hc, r6.2, o))) rfl rfl trivial ?_
                      exact T269_1 hd r6.2 _ e
                    · refine zF_blk (m := []) (d := 0) (b := B269_19) (gs := [¬ (r9 = 0)]) (c' := (211, [some (22, 0), some (0, s0), some (0, r3), some (0, (r5.2 13 0)), none], [], (hc, r6.2, o))) K269_19 rfl ⟨q19, trivial⟩ ?_
                      refine zF_blk (m := [true, false, false, false, false]) (d := 0) (b := []) (gs := []) (c' := (211, [some (22, 0), none, none, none, none], [], (hc, r6.2, o))) rfl rfl trivial ?_
                      exact T269_2 hd r6.2 _ e
                  · refine zF_blk (m := []) (d := 0) (b := B269_23) (gs := [¬ (¬ s0 = 8)]) (c' := (184, [some (22, 0), some (0, s0), some (0, r3), some (0, (r5.2 13 0)), none], [], (hc, r6.2, o))) K269_23 rfl ⟨q16, trivial⟩ ?_
                    obtain ⟨r10, q20, e⟩ := zB_s e
                    refine zF_blk (m := []) (d := 0) (b := B269_20) (gs := []) (c' := (187, [some (22, 0), some (0, s0), some (0, r3), some (0, (r5.2 13 0)), none], [(0, 1), (0, (r5.2 13 0)), (22, 0)], (hc, r6.2, o))) K269_20 rfl trivial ?_
                    refine zF_call (k := 213) (cl := 12) (n := 3) (i := .invokevirtual 247) (args := [(22, 0), (0, (r5.2 13 0)), (0, 1)]) (rest := []) (g1 := (hc, r6.2, o)) (r1 := some (0, r10)) (zCk1_w (by decide +kernel)) rfl rfl rfl (st' := [(0, r10)]) rfl (S213 (Nat.le_trans (by decide) hd) (r5.2 13 0) 1 r6.2 _ q20) ?_
                    rcases zI_s e with ⟨q21, e⟩ | ⟨q21, e⟩
                    · refine zF_blk (m := []) (d := 1) (b := B269_22) (gs := [¬ r10 = r3]) (c' := (215, [some (22, 0), some (0, s0), some (0, r3), some (0, (r5.2 13 0)), none], [], (hc, r6.2, o))) K269_22 rfl ⟨q21, trivial⟩ ?_
                      refine zF_blk (m := [true, false, false, false, false]) (d := 0) (b := []) (gs := []) (c' := (215, [some (22, 0), none, none, none, none], [], (hc, r6.2, o))) rfl rfl trivial ?_
                      exact T269_1 hd r6.2 _ e
                    · refine zF_blk (m := []) (d := 0) (b := B269_22) (gs := [¬ (¬ r10 = r3)]) (c' := (194, [some (22, 0), some (0, s0), some (0, r3), some (0, (r5.2 13 0)), none], [], (hc, r6.2, o))) K269_22 rfl ⟨q21, trivial⟩ ?_
                      refine zF_blk (m := []) (d := 0) (b := B269_21) (gs := []) (c' := (211, [some (22, 0), some (0, s0), some (0, r3), some (0, (r5.2 13 0)), none], [], (hc, r6.2, o))) K269_21 rfl trivial ?_
                      refine zF_blk (m := [true, false, false, false, false]) (d := 0) (b := []) (gs := []) (c' := (211, [some (22, 0), none, none, none, none], [], (hc, r6.2, o))) rfl rfl trivial ?_
                      exact T269_2 hd r6.2 _ e
                · refine zF_blk (m := []) (d := 0) (b := B269_28) (gs := [¬ (¬ s0 = 7)]) (c' := (162, [some (22, 0), some (0, s0), some (0, r3), some (0, (r5.2 13 0)), none], [], (hc, r6.2, o))) K269_28 rfl ⟨q15, trivial⟩ ?_
                  obtain ⟨r11, q22, e⟩ := zB_s e
                  refine zF_blk (m := []) (d := 0) (b := B269_24) (gs := []) (c' := (165, [some (22, 0), some (0, s0), some (0, r3), some (0, (r5.2 13 0)), none], [(0, 5), (0, (r5.2 13 0)), (22, 0)], (hc, r6.2, o))) K269_24 rfl trivial ?_
                  refine zF_call (k := 213) (cl := 12) (n := 3) (i := .invokevirtual 247) (args := [(22, 0), (0, (r5.2 13 0)), (0, 5)]) (rest := []) (g1 := (hc, r6.2, o)) (r1 := some (0, r11)) (zCk1_w (by decide +kernel)) rfl rfl rfl (st' := [(0, r11)]) rfl (S213 (Nat.le_trans (by decide) hd) (r5.2 13 0) 5 r6.2 _ q22) ?_
                  obtain ⟨r12, q23, e⟩ := zB_s e
                  refine zF_blk (m := []) (d := 0) (b := B269_25) (gs := []) (c' := (169, [some (22, 0), some (0, s0), some (0, r3), some (0, (r5.2 13 0)), none], [(0, r3), (0, r11)], (hc, r6.2, o))) K269_25 rfl trivial ?_
                  refine zF_call (k := 214) (cl := 12) (n := 2) (i := .invokestatic 251) (args := [(0, r11), (0, r3)]) (rest := []) (g1 := (hc, r6.2, o)) (r1 := some (0, r12)) (zCk1_w (by decide +kernel)) rfl rfl rfl (st' := [(0, r12)]) rfl (S214 (Nat.le_trans (by decide) hd) r11 r3 r6.2 _ q23) ?_
                  rcases zI_s e with ⟨q24, e⟩ | ⟨q24, e⟩
                  · refine zF_blk (m := []) (d := 1) (b := B269_27) (gs := [r12 = 0]) (c' := (215, [some (22, 0), some (0, s0), some (0, r3), some (0, (r5.2 13 0)), none], [], (hc, r6.2, o))) K269_27 rfl ⟨q24, trivial⟩ ?_
                    refine zF_blk (m := [true, false, false, false, false]) (d := 0) (b := []) (gs := []) (c' := (215, [some (22, 0), none, none, none, none], [], (hc, r6.2, o))) rfl rfl trivial ?_
                    exact T269_1 hd r6.2 _ e
                  · refine zF_blk (m := []) (d := 0) (b := B269_27) (gs := [¬ (r12 = 0)]) (c' := (175, [some (22, 0), some (0, s0), some (0, r3), some (0, (r5.2 13 0)), none], [], (hc, r6.2, o))) K269_27 rfl ⟨q24, trivial⟩ ?_
                    refine zF_blk (m := []) (d := 0) (b := B269_26) (gs := []) (c' := (211, [some (22, 0), some (0, s0), some (0, r3), some (0, (r5.2 13 0)), none], [], (hc, r6.2, o))) K269_26 rfl trivial ?_
                    refine zF_blk (m := [true, false, false, false, false]) (d := 0) (b := []) (gs := []) (c' := (211, [some (22, 0), none, none, none, none], [], (hc, r6.2, o))) rfl rfl trivial ?_
                    exact T269_2 hd r6.2 _ e
            · refine zF_blk (m := []) (d := 0) (b := B269_31) (gs := [¬ (¬ r6.1 = 0)]) (c' := (146, [some (22, 0), some (0, s0), some (0, r3), some (0, (r5.2 13 0)), none], [], (hc, r6.2, o))) K269_31 rfl ⟨q12, trivial⟩ ?_
              refine zF_blk (m := []) (d := 0) (b := B269_30) (gs := []) (c' := (147, [some (22, 0), some (0, s0), some (0, r3), some (0, (r5.2 13 0)), none], [(0, 0)], (hc, r6.2, o))) K269_30 rfl trivial ?_
              exact zF_rbM (zRe1_w (by decide +kernel)) (Or.inl rfl) e
          · refine zF_blk (m := []) (d := 0) (b := B269_33) (gs := [¬ (¬ r5.1 = 0)]) (c' := (132, [some (22, 0), some (0, s0), some (0, r3), none, none], [], (hc, r5.2, o))) K269_33 rfl ⟨q10, trivial⟩ ?_
            refine zF_blk (m := []) (d := 0) (b := B269_32) (gs := []) (c' := (133, [some (22, 0), some (0, s0), some (0, r3), none, none], [(0, 0)], (hc, r5.2, o))) K269_32 rfl trivial ?_
            exact zF_rbM (zRe1_w (by decide +kernel)) (Or.inl rfl) e
        · refine zF_blk (m := []) (d := 0) (b := B269_35) (gs := [¬ (¬ r3 = (-1))]) (c' := (112, [some (22, 0), some (0, s0), some (0, r3), none, none], [], (hc, r1, o))) K269_35 rfl ⟨q7, trivial⟩ ?_
          obtain ⟨r13, q25, e⟩ := zB_s e
          refine zF_blk (m := []) (d := 0) (b := B269_34) (gs := []) (c' := (114, [some (22, 0), some (0, s0), some (0, r3), none, none], [(0, 3), (22, 0)], (hc, r1, o))) K269_34 rfl trivial ?_
          refine zF_call (k := 185) (cl := 12) (n := 2) (i := .invokevirtual 148) (args := [(22, 0), (0, 3)]) (rest := []) (g1 := (hc, r13.2, o)) (r1 := some (0, r13.1)) (zCk1_w (by decide +kernel)) rfl rfl rfl (st' := [(0, r13.1)]) rfl (S185 (Nat.le_trans (by decide) hd) 3 r1 _ q25) ?_
          obtain ⟨q26, e⟩ := zG_s e
          exact zF_rbM (zRe1_w (by decide +kernel)) q26 e
      · refine zF_blk (m := []) (d := 0) (b := B269_37) (gs := [¬ (¬ r2 = 0)]) (c' := (81, [some (22, 0), some (0, s0), none, none, none], [], (hc, r1, o))) K269_37 rfl ⟨q5, trivial⟩ ?_
        obtain ⟨r14, q27, e⟩ := zB_s e
        refine zF_blk (m := []) (d := 0) (b := B269_36) (gs := []) (c' := (83, [some (22, 0), some (0, s0), none, none, none], [(0, 1), (22, 0)], (hc, r1, o))) K269_36 rfl trivial ?_
        refine zF_call (k := 185) (cl := 12) (n := 2) (i := .invokevirtual 148) (args := [(22, 0), (0, 1)]) (rest := []) (g1 := (hc, r14.2, o)) (r1 := some (0, r14.1)) (zCk1_w (by decide +kernel)) rfl rfl rfl (st' := [(0, r14.1)]) rfl (S185 (Nat.le_trans (by decide) hd) 1 r1 _ q27) ?_
        obtain ⟨q28, e⟩ := zG_s e
        exact zF_rbM (zRe1_w (by decide +kernel)) q28 e
    · refine zF_blk (m := []) (d := 0) (b := B269_39) (gs := [¬ (¬ (h 36 0) = 30)]) (c' := (64, [some (22, 0), some (0, s0), none, none, none], [], (hc, h, o))) K269_39 rfl ⟨q2, trivial⟩ ?_
      obtain ⟨r15, q29, e⟩ := zB_s e
      refine zF_blk (m := []) (d := 0) (b := B269_38) (gs := []) (c' := (66, [some (22, 0), some (0, s0), none, none, none], [(0, 4), (22, 0)], (hc, h, o))) K269_38 rfl trivial ?_
      refine zF_call (k := 185) (cl := 12) (n := 2) (i := .invokevirtual 148) (args := [(22, 0), (0, 4)]) (rest := []) (g1 := (hc, r15.2, o)) (r1 := some (0, r15.1)) (zCk1_w (by decide +kernel)) rfl rfl rfl (st' := [(0, r15.1)]) rfl (S185 (Nat.le_trans (by decide) hd) 4 h _ q29) ?_
      obtain ⟨q30, e⟩ := zG_s e
      exact zF_rbM (zRe1_w (by decide +kernel)) q30 e
  · refine zF_blk (m := []) (d := 0) (b := B269_41) (gs := [¬ (¬ s0 = (-1))]) (c' := (49, [some (22, 0), some (0, s0), none, none, none], [], (hc, h, o))) K269_41 rfl ⟨q1, trivial⟩ ?_
    obtain ⟨r16, q31, e⟩ := zB_s e
    refine zF_blk (m := []) (d := 0) (b := B269_40) (gs := []) (c' := (51, [some (22, 0), some (0, s0), none, none, none], [(0, 1), (22, 0)], (hc, h, o))) K269_40 rfl trivial ?_
    refine zF_call (k := 185) (cl := 12) (n := 2) (i := .invokevirtual 148) (args := [(22, 0), (0, 1)]) (rest := []) (g1 := (hc, r16.2, o)) (r1 := some (0, r16.1)) (zCk1_w (by decide +kernel)) rfl rfl rfl (st' := [(0, r16.1)]) rfl (S185 (Nat.le_trans (by decide) hd) 1 h _ q31) ?_
    obtain ⟨q32, e⟩ := zG_s e
    exact zF_rbM (zRe1_w (by decide +kernel)) q32 e
/-- EchoValeModel.readClaim()Z -/
def F269 (h : zHM) : Option (Int × zHM) := (F181 7 h).bind fun r1 => if r1 = 0 then (F181 8 h).bind fun r2 => if r2 = 0 then (F181 9 h).bind fun r3 => if r3 = 0 then F269_0 (-1) h else F269_0 9 h else F269_0 8 h else F269_0 7 h
set_option maxRecDepth 100000 in
theorem S269 {spec : zRn zH2} {hc : zHC} {o : Int → Int} {d : Nat} (hd : 4 ≤ d) (h : zHM) (v : (Int × zHM)) (e : F269 h = some v) : zRu2 spec d 269 [(22, 0)] (hc, h, o) (some (0, v.1)) (hc, v.2, o) := by
  refine zF_in (D := 3) (mx := 5) (L := [some (22, 0), none, none, none, none]) (by decide +kernel) rfl rfl hd (fun d hd => ?_)
  unfold F269 at e
  obtain ⟨r1, q1, e⟩ := zB_s e
  refine zF_blk (m := []) (d := 0) (b := B269_0) (gs := []) (c' := (3, [some (22, 0), none, none, none, none], [(0, 7), (22, 0)], (hc, h, o))) K269_0 rfl trivial ?_
  refine zF_call (k := 181) (cl := 12) (n := 2) (i := .invokevirtual 199) (args := [(22, 0), (0, 7)]) (rest := []) (g1 := (hc, h, o)) (r1 := some (0, r1)) (zCk1_w (by decide +kernel)) rfl rfl rfl (st' := [(0, r1)]) rfl (S181 (Nat.le_trans (by decide) hd) 7 h _ q1) ?_
  rcases zI_s e with ⟨q2, e⟩ | ⟨q2, e⟩
  · refine zF_blk (m := []) (d := 1) (b := B269_9) (gs := [r1 = 0]) (c' := (14, [some (22, 0), none, none, none, none], [], (hc, h, o))) K269_9 rfl ⟨q2, trivial⟩ ?_
    obtain ⟨r2, q3, e⟩ := zB_s e
    refine zF_blk (m := []) (d := 0) (b := B269_1) (gs := []) (c' := (17, [some (22, 0), none, none, none, none], [(0, 8), (22, 0)], (hc, h, o))) K269_1 rfl trivial ?_
    refine zF_call (k := 181) (cl := 12) (n := 2) (i := .invokevirtual 199) (args := [(22, 0), (0, 8)]) (rest := []) (g1 := (hc, h, o)) (r1 := some (0, r2)) (zCk1_w (by decide +kernel)) rfl rfl rfl (st' := [(0, r2)]) rfl (S181 (Nat.le_trans (by decide) hd) 8 h _ q3) ?_
    rcases zI_s e with ⟨q4, e⟩ | ⟨q4, e⟩
    · refine zF_blk (m := []) (d := 1) (b := B269_7) (gs := [r2 = 0]) (c' := (28, [some (22, 0), none, none, none, none], [], (hc, h, o))) K269_7 rfl ⟨q4, trivial⟩ ?_
      obtain ⟨r3, q5, e⟩ := zB_s e
      refine zF_blk (m := []) (d := 0) (b := B269_2) (gs := []) (c' := (31, [some (22, 0), none, none, none, none], [(0, 9), (22, 0)], (hc, h, o))) K269_2 rfl trivial ?_
      refine zF_call (k := 181) (cl := 12) (n := 2) (i := .invokevirtual 199) (args := [(22, 0), (0, 9)]) (rest := []) (g1 := (hc, h, o)) (r1 := some (0, r3)) (zCk1_w (by decide +kernel)) rfl rfl rfl (st' := [(0, r3)]) rfl (S181 (Nat.le_trans (by decide) hd) 9 h _ q5) ?_
      rcases zI_s e with ⟨q6, e⟩ | ⟨q6, e⟩
      · refine zF_blk (m := []) (d := 1) (b := B269_5) (gs := [r3 = 0]) (c' := (42, [some (22, 0), none, none, none, none], [], (hc, h, o))) K269_5 rfl ⟨q6, trivial⟩ ?_
        refine zF_blk (m := []) (d := 0) (b := B269_3) (gs := []) (c' := (43, [some (22, 0), none, none, none, none], [(0, (-1))], (hc, h, o))) K269_3 rfl trivial ?_
        exact T269_0 hd (-1) h _ e
      · refine zF_blk (m := []) (d := 0) (b := B269_5) (gs := [¬ (r3 = 0)]) (c' := (37, [some (22, 0), none, none, none, none], [], (hc, h, o))) K269_5 rfl ⟨q6, trivial⟩ ?_
        refine zF_blk (m := []) (d := 0) (b := B269_4) (gs := []) (c' := (43, [some (22, 0), none, none, none, none], [(0, 9)], (hc, h, o))) K269_4 rfl trivial ?_
        exact T269_0 hd 9 h _ e
    · refine zF_blk (m := []) (d := 0) (b := B269_7) (gs := [¬ (r2 = 0)]) (c' := (23, [some (22, 0), none, none, none, none], [], (hc, h, o))) K269_7 rfl ⟨q4, trivial⟩ ?_
      refine zF_blk (m := []) (d := 0) (b := B269_6) (gs := []) (c' := (43, [some (22, 0), none, none, none, none], [(0, 8)], (hc, h, o))) K269_6 rfl trivial ?_
      exact T269_0 hd 8 h _ e
  · refine zF_blk (m := []) (d := 0) (b := B269_9) (gs := [¬ (r1 = 0)]) (c' := (9, [some (22, 0), none, none, none, none], [], (hc, h, o))) K269_9 rfl ⟨q2, trivial⟩ ?_
    refine zF_blk (m := []) (d := 0) (b := B269_8) (gs := []) (c' := (43, [some (22, 0), none, none, none, none], [(0, 7)], (hc, h, o))) K269_8 rfl trivial ?_
    exact T269_0 hd 7 h _ e
noncomputable def B268_0 : List zRow := [(0, .aload_n 0, 1, (0, 0, 0)), (1, .sipush 300, 3, (0, 0, 0))]
theorem K268_0 : zRk 268 B268_0 = true := zRw_ok (by decide +kernel)
noncomputable def B268_1 : List zRow := [(7, .aload_n 0, 1, (0, 0, 0)), (8, .iconst 0, 1, (0, 0, 0)), (9, .putfield 360, 3, (12, 36, 0)), (12, .aload_n 0, 1, (0, 0, 0)), (13, .iconst (-1), 1, (0, 0, 0)), (14, .putfield 363, 3, (12, 37, 0))]
theorem K268_1 : zRk 268 B268_1 = true := zRw_ok (by decide +kernel)
noncomputable def B268_2 : List zRow := [(39, .aload_n 0, 1, (0, 0, 0)), (40, .getfield 363, 3, (12, 37, 0))]
theorem K268_2 : zRk 268 B268_2 = true := zRw_ok (by decide +kernel)
noncomputable def B268_3 : List zRow := [(24, .aload_n 0, 1, (0, 0, 0))]
theorem K268_3 : zRk 268 B268_3 = true := zRw_ok (by decide +kernel)
noncomputable def B268_4 : List zRow := [(31, .bipush (-2), 2, (0, 0, 0)), (33, .aload_n 0, 1, (0, 0, 0)), (34, .getfield 145, 3, (12, 11, 0))]
theorem K268_4 : zRk 268 B268_4 = true := zRw_ok (by decide +kernel)
noncomputable def B268_5 : List zRow := [(37, .isub, 1, (0, 0, 0))]
theorem K268_5 : zRk 268 B268_5 = true := zRw_ok (by decide +kernel)
noncomputable def B268_6 : List zRow := [(28, .ifCond .ne (-11), 3, (0, 0, 0))]
theorem K268_6 : zRk 268 B268_6 = true := zRw_ok (by decide +kernel)
noncomputable def B268_7 : List zRow := [(17, .aload_n 0, 1, (0, 0, 0)), (18, .getfield 107, 3, (12, 7, 0)), (21, .ifCond .eq 18, 3, (0, 0, 0))]
theorem K268_7 : zRk 268 B268_7 = true := zRw_ok (by decide +kernel)
def F268_0 : Nat → zHM → Option (Int × zHM)
  | 0, _ => none
  | n + 1, h => if (h 7 0) = 0 then some ((h 37 0), h) else (F269 h).bind fun r1 => if ¬ r1.1 = 0 then (F268_0 n) r1.2 else some ((wsub (-2) (r1.2 11 0)), r1.2)
set_option maxRecDepth 100000 in
theorem T268_0 {spec : zRn zH2} {hc : zHC} {o : Int → Int} {d : Nat} (hd : 4 ≤ d) : ∀ (n : Nat) (h : zHM) (v : (Int × zHM)), F268_0 n h = some v → zFin 0 (fun _ => 0) (zRu2 spec d) 268 (some (0, v.1)) (hc, v.2, o) (17, [some (22, 0)], [], (hc, h, o)) := by
  intro n
  induction n with
  | zero => intro h v e; unfold F268_0 at e; cases e
  | succ n hk0 =>
    intro h v e
    unfold F268_0 at e
    rcases zI_s e with ⟨q1, e⟩ | ⟨q1, e⟩
    · refine zF_blk (m := []) (d := 1) (b := B268_7) (gs := [(h 7 0) = 0]) (c' := (39, [some (22, 0)], [], (hc, h, o))) K268_7 rfl ⟨q1, trivial⟩ ?_
      refine zF_blk (m := []) (d := 0) (b := B268_2) (gs := []) (c' := (43, [some (22, 0)], [(0, (h 37 0))], (hc, h, o))) K268_2 rfl trivial ?_
      exact zF_riM (zRe1_w (by decide +kernel)) e
    · refine zF_blk (m := []) (d := 0) (b := B268_7) (gs := [¬ ((h 7 0) = 0)]) (c' := (24, [some (22, 0)], [], (hc, h, o))) K268_7 rfl ⟨q1, trivial⟩ ?_
      obtain ⟨r1, q2, e⟩ := zB_s e
      refine zF_blk (m := []) (d := 0) (b := B268_3) (gs := []) (c' := (25, [some (22, 0)], [(22, 0)], (hc, h, o))) K268_3 rfl trivial ?_
      refine zF_call (k := 269) (cl := 12) (n := 1) (i := .invokevirtual 366) (args := [(22, 0)]) (rest := []) (g1 := (hc, r1.2, o)) (r1 := some (0, r1.1)) (zCk1_w (by decide +kernel)) rfl rfl rfl (st' := [(0, r1.1)]) rfl (S269 (Nat.le_trans (by decide) hd)  h _ q2) ?_
      rcases zI_s e with ⟨q3, e⟩ | ⟨q3, e⟩
      · refine zF_blk (m := []) (d := 1) (b := B268_6) (gs := [¬ r1.1 = 0]) (c' := (17, [some (22, 0)], [], (hc, r1.2, o))) K268_6 rfl ⟨q3, trivial⟩ ?_
        exact hk0 r1.2 _ e
      · refine zF_blk (m := []) (d := 0) (b := B268_6) (gs := [¬ (¬ r1.1 = 0)]) (c' := (31, [some (22, 0)], [], (hc, r1.2, o))) K268_6 rfl ⟨q3, trivial⟩ ?_
        refine zF_blk (m := []) (d := 0) (b := B268_4) (gs := []) (c' := (37, [some (22, 0)], [(0, (r1.2 11 0)), (0, (-2))], (hc, r1.2, o))) K268_4 rfl trivial ?_
        refine zF_blk (m := []) (d := 0) (b := B268_5) (gs := []) (c' := (38, [some (22, 0)], [(0, (wsub (-2) (r1.2 11 0)))], (hc, r1.2, o))) K268_5 rfl trivial ?_
        exact zF_riM (zRe1_w (by decide +kernel)) e
/-- EchoValeModel.claims()I -/
def F268 (h : zHM) : Option (Int × zHM) := (F174 300 h).bind fun r1 => F268_0 zFu (mset (mset r1 36 0 0) 37 0 (-1))
set_option maxRecDepth 100000 in
theorem S268 {spec : zRn zH2} {hc : zHC} {o : Int → Int} {d : Nat} (hd : 5 ≤ d) (h : zHM) (v : (Int × zHM)) (e : F268 h = some v) : zRu2 spec d 268 [(22, 0)] (hc, h, o) (some (0, v.1)) (hc, v.2, o) := by
  refine zF_in (D := 4) (mx := 1) (L := [some (22, 0)]) (by decide +kernel) rfl rfl hd (fun d hd => ?_)
  unfold F268 at e
  obtain ⟨r1, q1, e⟩ := zB_s e
  refine zF_blk (m := []) (d := 0) (b := B268_0) (gs := []) (c' := (4, [some (22, 0)], [(0, 300), (22, 0)], (hc, h, o))) K268_0 rfl trivial ?_
  refine zF_call (k := 174) (cl := 12) (n := 2) (i := .invokevirtual 226) (args := [(22, 0), (0, 300)]) (rest := []) (g1 := (hc, r1, o)) (r1 := none) (zCk1_w (by decide +kernel)) rfl rfl rfl (st' := []) rfl (S174 (Nat.le_trans (by decide) hd) 300 h _ q1) ?_
  refine zF_blk (m := []) (d := 0) (b := B268_1) (gs := []) (c' := (17, [some (22, 0)], [], (hc, (mset (mset r1 36 0 0) 37 0 (-1)), o))) K268_1 rfl trivial ?_
  exact T268_0 hd zFu (mset (mset r1 36 0 0) 37 0 (-1)) _ e
noncomputable def B135_0 : List zRow := [(24, .aload_n 0, 1, (0, 0, 0))]
theorem K135_0 : zRk 135 B135_0 = true := zRw_ok (by decide +kernel)
noncomputable def B135_1 : List zRow := [(25, .getfield 9, 3, (2, 2, 0)), (28, .bipush 8, 2, (0, 0, 0)), (30, .iushr, 1, (0, 0, 0)), (31, .iload_n 1, 1, (0, 0, 0)), (32, .irem, 1, (0, 0, 0))]
theorem K135_1 : zRk 135 B135_1 = true := zRw_ok (by decide +kernel)
noncomputable def B135_2 : List zRow := [(20, .iconst 0, 1, (0, 0, 0)), (21, .goto 12, 3, (0, 0, 0))]
theorem K135_2 : zRk 135 B135_2 = true := zRw_ok (by decide +kernel)
noncomputable def B135_3a : List zRow := [(0, .aload_n 0, 1, (0, 0, 0)), (1, .aload_n 0, 1, (0, 0, 0)), (2, .getfield 9, 3, (2, 2, 0)), (5, .ldc 15, 2, (0, 0, 1103515245)), (7, .imul, 1, (0, 0, 0)), (8, .sipush 12345, 3, (0, 0, 0)), (11, .iadd, 1, (0, 0, 0))]
theorem K135_3a : zRk 135 B135_3a = true := zRw_ok (by decide +kernel)
noncomputable def B135_3b : List zRow := [(12, .putfield 9, 3, (2, 2, 0)), (15, .iload_n 1, 1, (0, 0, 0)), (16, .iconst 1, 1, (0, 0, 0)), (17, .if_icmp .ge 7, 3, (0, 0, 0))]
theorem K135_3b : zRk 135 B135_3b = true := zRw_ok (by decide +kernel)
/-- EchoVale$Draws.draw(I)I -/
def F135 (v1 : Int) (h : zHC) : Option (Int × zHC) := if 1 ≤ v1 then zG (¬ v1 = 0) (some ((wrem (wushr ((hset h 130 0 0 (wadd (wmul (h 130 0 0) 1103515245) 12345)) 130 0 0) 8) v1), (hset h 130 0 0 (wadd (wmul (h 130 0 0) 1103515245) 12345)))) else some (0, (hset h 130 0 0 (wadd (wmul (h 130 0 0) 1103515245) 12345)))
set_option maxRecDepth 100000 in
theorem S135 {spec : zRn zH2} {hm : zHM} {o : Int → Int} {d : Nat} (hd : 1 ≤ d) (v1 : Int) (h : zHC) (v : (Int × zHC)) (e : F135 v1 h = some v) : zRu2 spec d 135 [(12, 0), (0, v1)] (h, hm, o) (some (0, v.1)) (v.2, hm, o) := by
  refine zF_in (D := 0) (mx := 2) (L := [some (12, 0), some (0, v1)]) (by decide +kernel) rfl rfl hd (fun d hd => ?_)
  unfold F135 at e
  rcases zI_s e with ⟨q1, e⟩ | ⟨q1, e⟩
  · refine zF_blk (m := []) (d := 0) (b := B135_3a) (gs := []) (c' := (12, [some (12, 0), some (0, v1)], [(0, (wadd (wmul (h 130 0 0) 1103515245) 12345)), (12, 0)], (h, hm, o))) K135_3a rfl trivial ?_
    generalize (wadd (wmul (h 130 0 0) 1103515245) 12345) = V at e ⊢
    refine zF_blk (m := []) (d := 1) (b := B135_3b) (gs := [1 ≤ v1]) (c' := (24, [some (12, 0), some (0, v1)], [], ((hset h 130 0 0 V), hm, o))) K135_3b rfl ⟨q1, trivial⟩ ?_
    obtain ⟨q2, e⟩ := zG_s e
    refine zF_blk (m := []) (d := 0) (b := B135_0) (gs := []) (c' := (25, [some (12, 0), some (0, v1)], [(12, 0)], ((hset h 130 0 0 V), hm, o))) K135_0 rfl trivial ?_
    refine zF_blk (m := []) (d := 0) (b := B135_1) (gs := [¬ v1 = 0]) (c' := (33, [some (12, 0), some (0, v1)], [(0, (wrem (wushr ((hset h 130 0 0 V) 130 0 0) 8) v1))], ((hset h 130 0 0 V), hm, o))) K135_1 rfl ⟨q2, trivial⟩ ?_
    exact zF_riC (zRe1_w (by decide +kernel)) e
  · refine zF_blk (m := []) (d := 0) (b := B135_3a) (gs := []) (c' := (12, [some (12, 0), some (0, v1)], [(0, (wadd (wmul (h 130 0 0) 1103515245) 12345)), (12, 0)], (h, hm, o))) K135_3a rfl trivial ?_
    generalize (wadd (wmul (h 130 0 0) 1103515245) 12345) = V at e ⊢
    refine zF_blk (m := []) (d := 0) (b := B135_3b) (gs := [¬ (1 ≤ v1)]) (c' := (20, [some (12, 0), some (0, v1)], [], ((hset h 130 0 0 V), hm, o))) K135_3b rfl ⟨q1, trivial⟩ ?_
    refine zF_blk (m := []) (d := 0) (b := B135_2) (gs := []) (c' := (33, [some (12, 0), some (0, v1)], [(0, 0)], ((hset h 130 0 0 V), hm, o))) K135_2 rfl trivial ?_
    exact zF_riC (zRe1_w (by decide +kernel)) e
noncomputable def B136_0 : List zRow := [(0, .aload_n 0, 1, (0, 0, 0)), (1, .aload_n 1, 1, (0, 0, 0)), (2, .getfield 39, 3, (9, 3, 0))]
theorem K136_0 : zRk 136 B136_0 = true := zRw_ok (by decide +kernel)
noncomputable def B136_1 : List zRow := [(8, .istore_n 3, 1, (0, 0, 0)), (9, .aload_n 0, 1, (0, 0, 0)), (10, .bipush 99, 2, (0, 0, 0))]
theorem K136_1 : zRk 136 B136_1 = true := zRw_ok (by decide +kernel)
noncomputable def B136_2 : List zRow := [(15, .iconst 1, 1, (0, 0, 0)), (16, .iadd, 1, (0, 0, 0)), (17, .istore 4, 2, (0, 0, 0)), (19, .aload_n 0, 1, (0, 0, 0)), (20, .bipush 9, 2, (0, 0, 0))]
theorem K136_2 : zRk 136 B136_2 = true := zRw_ok (by decide +kernel)
noncomputable def B136_3 : List zRow := [(37, .aload_n 2, 1, (0, 0, 0))]
theorem K136_3 : zRk 136 B136_3 = true := zRw_ok (by decide +kernel)
noncomputable def B136_4 : List zRow := [(44, .aload_n 2, 1, (0, 0, 0)), (45, .aload_n 1, 1, (0, 0, 0)), (46, .iload_n 3, 1, (0, 0, 0)), (47, .iload 4, 2, (0, 0, 0)), (49, .iload 5, 2, (0, 0, 0))]
theorem K136_4 : zRk 136 B136_4 = true := zRw_ok (by decide +kernel)
noncomputable def B136_5 : List zRow := [(54, .pop, 1, (0, 0, 0)), (55, .aload_n 0, 1, (0, 0, 0)), (56, .dup, 1, (0, 0, 0)), (57, .getfield 19, 3, (2, 1, 0)), (60, .iconst 1, 1, (0, 0, 0)), (61, .iadd, 1, (0, 0, 0)), (62, .putfield 19, 3, (2, 1, 0))]
theorem K136_5 : zRk 136 B136_5 = true := zRw_ok (by decide +kernel)
noncomputable def B136_6 : List zRow := [(41, .ifCond .ne 24, 3, (0, 0, 0))]
theorem K136_6 : zRk 136 B136_6 = true := zRw_ok (by decide +kernel)
noncomputable def B136_7 : List zRow := [(25, .iconst 1, 1, (0, 0, 0)), (26, .iadd, 1, (0, 0, 0)), (27, .istore 5, 2, (0, 0, 0)), (29, .iload_n 3, 1, (0, 0, 0)), (30, .aload_n 1, 1, (0, 0, 0)), (31, .getfield 39, 3, (9, 3, 0)), (34, .if_icmp .ge 31, 3, (0, 0, 0))]
theorem K136_7 : zRk 136 B136_7 = true := zRw_ok (by decide +kernel)
/-- EchoVale$Draws.speak(LEchoVale$Valley;LEchoVale$Course;)V -/
def F136 (v1 : Int) (v2 : Int) (h : zHC) : Option zHC := (F135 (h 579 v1 0) h).bind fun r1 => (F135 99 r1.2).bind fun r2 => (F135 9 r2.2).bind fun r3 => if (r3.2 579 v1 0) ≤ r1.1 then some r3.2 else (F75 v2 r3.2).bind fun r4 => if ¬ r4 = 0 then some r3.2 else (F76 v2 v1 r1.1 (wadd r2.1 1) (wadd r3.1 1) r3.2).bind fun r5 => some (hset r5.2 129 0 0 (wadd (r5.2 129 0 0) 1))
set_option maxRecDepth 100000 in
theorem S136 {spec : zRn zH2} {hm : zHM} {o : Int → Int} {d : Nat} (hd : 5 ≤ d) (v1 : Int) (v2 : Int) (h : zHC) (v : zHC) (e : F136 v1 v2 h = some v) : zRu2 spec d 136 [(12, 0), (19, v1), (11, v2)] (h, hm, o) none (v, hm, o) := by
  refine zF_in (D := 4) (mx := 6) (L := [some (12, 0), some (19, v1), some (11, v2), none, none, none]) (by decide +kernel) rfl rfl hd (fun d hd => ?_)
  unfold F136 at e
  obtain ⟨r1, q1, e⟩ := zB_s e
  refine zF_blk (m := []) (d := 0) (b := B136_0) (gs := []) (c' := (5, [some (12, 0), some (19, v1), some (11, v2), none, none, none], [(0, (h 579 v1 0)), (12, 0)], (h, hm, o))) K136_0 rfl trivial ?_
  refine zF_call (k := 135) (cl := 2) (n := 2) (i := .invokevirtual 27) (args := [(12, 0), (0, (h 579 v1 0))]) (rest := []) (g1 := (r1.2, hm, o)) (r1 := some (0, r1.1)) (zCk1_w (by decide +kernel)) rfl rfl rfl (st' := [(0, r1.1)]) rfl (S135 (Nat.le_trans (by decide) hd) (h 579 v1 0) h _ q1) ?_
  obtain ⟨r2, q2, e⟩ := zB_s e
  refine zF_blk (m := []) (d := 0) (b := B136_1) (gs := []) (c' := (12, [some (12, 0), some (19, v1), some (11, v2), some (0, r1.1), none, none], [(0, 99), (12, 0)], (r1.2, hm, o))) K136_1 rfl trivial ?_
  refine zF_call (k := 135) (cl := 2) (n := 2) (i := .invokevirtual 27) (args := [(12, 0), (0, 99)]) (rest := []) (g1 := (r2.2, hm, o)) (r1 := some (0, r2.1)) (zCk1_w (by decide +kernel)) rfl rfl rfl (st' := [(0, r2.1)]) rfl (S135 (Nat.le_trans (by decide) hd) 99 r1.2 _ q2) ?_
  obtain ⟨r3, q3, e⟩ := zB_s e
  refine zF_blk (m := []) (d := 0) (b := B136_2) (gs := []) (c' := (22, [some (12, 0), some (19, v1), some (11, v2), some (0, r1.1), some (0, (wadd r2.1 1)), none], [(0, 9), (12, 0)], (r2.2, hm, o))) K136_2 rfl trivial ?_
  refine zF_call (k := 135) (cl := 2) (n := 2) (i := .invokevirtual 27) (args := [(12, 0), (0, 9)]) (rest := []) (g1 := (r3.2, hm, o)) (r1 := some (0, r3.1)) (zCk1_w (by decide +kernel)) rfl rfl rfl (st' := [(0, r3.1)]) rfl (S135 (Nat.le_trans (by decide) hd) 9 r2.2 _ q3) ?_
  rcases zI_s e with ⟨q4, e⟩ | ⟨q4, e⟩
  · refine zF_blk (m := []) (d := 1) (b := B136_7) (gs := [(r3.2 579 v1 0) ≤ r1.1]) (c' := (65, [some (12, 0), some (19, v1), some (11, v2), some (0, r1.1), some (0, (wadd r2.1 1)), some (0, (wadd r3.1 1))], [], (r3.2, hm, o))) K136_7 rfl ⟨q4, trivial⟩ ?_
    obtain rfl := Option.some.inj e
    exact zF_rv (zRe1_w (by decide +kernel))
  · refine zF_blk (m := []) (d := 0) (b := B136_7) (gs := [¬ ((r3.2 579 v1 0) ≤ r1.1)]) (c' := (37, [some (12, 0), some (19, v1), some (11, v2), some (0, r1.1), some (0, (wadd r2.1 1)), some (0, (wadd r3.1 1))], [], (r3.2, hm, o))) K136_7 rfl ⟨q4, trivial⟩ ?_
    obtain ⟨r4, q5, e⟩ := zB_s e
    refine zF_blk (m := []) (d := 0) (b := B136_3) (gs := []) (c' := (38, [some (12, 0), some (19, v1), some (11, v2), some (0, r1.1), some (0, (wadd r2.1 1)), some (0, (wadd r3.1 1))], [(11, v2)], (r3.2, hm, o))) K136_3 rfl trivial ?_
    refine zF_call (k := 75) (cl := 1) (n := 1) (i := .invokevirtual 44) (args := [(11, v2)]) (rest := []) (g1 := (r3.2, hm, o)) (r1 := some (0, r4)) (zCk1_w (by decide +kernel)) rfl rfl rfl (st' := [(0, r4)]) rfl (S75 (Nat.le_trans (by decide) hd) v2 r3.2 _ q5) ?_
    rcases zI_s e with ⟨q6, e⟩ | ⟨q6, e⟩
    · refine zF_blk (m := []) (d := 1) (b := B136_6) (gs := [¬ r4 = 0]) (c' := (65, [some (12, 0), some (19, v1), some (11, v2), some (0, r1.1), some (0, (wadd r2.1 1)), some (0, (wadd r3.1 1))], [], (r3.2, hm, o))) K136_6 rfl ⟨q6, trivial⟩ ?_
      obtain rfl := Option.some.inj e
      exact zF_rv (zRe1_w (by decide +kernel))
    · refine zF_blk (m := []) (d := 0) (b := B136_6) (gs := [¬ (¬ r4 = 0)]) (c' := (44, [some (12, 0), some (19, v1), some (11, v2), some (0, r1.1), some (0, (wadd r2.1 1)), some (0, (wadd r3.1 1))], [], (r3.2, hm, o))) K136_6 rfl ⟨q6, trivial⟩ ?_
      obtain ⟨r5, q7, e⟩ := zB_s e
      refine zF_blk (m := []) (d := 0) (b := B136_4) (gs := []) (c' := (51, [some (12, 0), some (19, v1), some (11, v2), some (0, r1.1), some (0, (wadd r2.1 1)), some (0, (wadd r3.1 1))], [(0, (wadd r3.1 1)), (0, (wadd r2.1 1)), (0, r1.1), (19, v1), (11, v2)], (r3.2, hm, o))) K136_4 rfl trivial ?_
      refine zF_call (k := 76) (cl := 1) (n := 5) (i := .invokevirtual 48) (args := [(11, v2), (19, v1), (0, r1.1), (0, (wadd r2.1 1)), (0, (wadd r3.1 1))]) (rest := []) (g1 := (r5.2, hm, o)) (r1 := some (0, r5.1)) (zCk1_w (by decide +kernel)) rfl rfl rfl (st' := [(0, r5.1)]) rfl (S76 (Nat.le_trans (by decide) hd) v2 v1 r1.1 (wadd r2.1 1) (wadd r3.1 1) r3.2 _ q7) ?_
      refine zF_blk (m := []) (d := 0) (b := B136_5) (gs := []) (c' := (65, [some (12, 0), some (19, v1), some (11, v2), some (0, r1.1), some (0, (wadd r2.1 1)), some (0, (wadd r3.1 1))], [], ((hset r5.2 129 0 0 (wadd (r5.2 129 0 0) 1)), hm, o))) K136_5 rfl trivial ?_
      obtain rfl := Option.some.inj e
      exact zF_rv (zRe1_w (by decide +kernel))
noncomputable def B134_0 : List zRow := [(0, .aload_n 0, 1, (0, 0, 0)), (1, .iload 4, 2, (0, 0, 0)), (3, .putfield 9, 3, (2, 2, 0)), (6, .aload_n 0, 1, (0, 0, 0)), (7, .iconst 0, 1, (0, 0, 0)), (8, .putfield 16, 3, (2, 0, 0)), (11, .aload_n 0, 1, (0, 0, 0)), (12, .iconst 0, 1, (0, 0, 0)), (13, .putfield 19, 3, (2, 1, 0)), (16, .iconst 0, 1, (0, 0, 0)), (17, .istore 5, 2, (0, 0, 0))]
theorem K134_0 : zRk 134 B134_0 = true := zRw_ok (by decide +kernel)
noncomputable def B134_1 : List zRow := [(90, .iload 5, 2, (0, 0, 0))]
theorem K134_1 : zRk 134 B134_1 = true := zRw_ok (by decide +kernel)
noncomputable def B134_2 : List zRow := [(35, .iconst 0, 1, (0, 0, 0)), (36, .istore 6, 2, (0, 0, 0)), (38, .aload_n 0, 1, (0, 0, 0)), (39, .iconst 4, 1, (0, 0, 0))]
theorem K134_2 : zRk 134 B134_2 = true := zRw_ok (by decide +kernel)
noncomputable def B134_3 : List zRow := [(46, .aload_n 0, 1, (0, 0, 0)), (47, .iconst 5, 1, (0, 0, 0))]
theorem K134_3 : zRk 134 B134_3 = true := zRw_ok (by decide +kernel)
noncomputable def B134_4 : List zRow := [(51, .istore 6, 2, (0, 0, 0)), (53, .aload_n 0, 1, (0, 0, 0)), (54, .dup, 1, (0, 0, 0)), (55, .getfield 16, 3, (2, 0, 0)), (58, .iconst 1, 1, (0, 0, 0)), (59, .iadd, 1, (0, 0, 0)), (60, .putfield 16, 3, (2, 0, 0))]
theorem K134_4 : zRk 134 B134_4 = true := zRw_ok (by decide +kernel)
noncomputable def B134_5 : List zRow := [(43, .ifCond .ne 20, 3, (0, 0, 0))]
theorem K134_5 : zRk 134 B134_5 = true := zRw_ok (by decide +kernel)
noncomputable def B134_6 : List zRow := [(25, .aload_n 2, 1, (0, 0, 0)), (26, .getfield 22, 3, (1, 0, 0)), (29, .sipush 400, 3, (0, 0, 0)), (32, .if_icmp .ge 58, 3, (0, 0, 0))]
theorem K134_6 : zRk 134 B134_6 = true := zRw_ok (by decide +kernel)
noncomputable def B134_7 : List zRow := [(19, .iload 5, 2, (0, 0, 0)), (21, .iload_n 3, 1, (0, 0, 0)), (22, .if_icmp .ge 68, 3, (0, 0, 0))]
theorem K134_7 : zRk 134 B134_7 = true := zRw_ok (by decide +kernel)
noncomputable def B134_8 : List zRow := [(63, .aload_n 2, 1, (0, 0, 0)), (64, .aload_n 1, 1, (0, 0, 0)), (65, .iload 6, 2, (0, 0, 0))]
theorem K134_8 : zRk 134 B134_8 = true := zRw_ok (by decide +kernel)
noncomputable def B134_9 : List zRow := [(70, .aload_n 0, 1, (0, 0, 0)), (71, .iconst 3, 1, (0, 0, 0))]
theorem K134_9 : zRk 134 B134_9 = true := zRw_ok (by decide +kernel)
noncomputable def B134_10 : List zRow := [(78, .aload_n 0, 1, (0, 0, 0)), (79, .aload_n 1, 1, (0, 0, 0)), (80, .aload_n 2, 1, (0, 0, 0))]
theorem K134_10 : zRk 134 B134_10 = true := zRw_ok (by decide +kernel)
noncomputable def B134_11 : List zRow := [(75, .ifCond .ne 9, 3, (0, 0, 0))]
theorem K134_11 : zRk 134 B134_11 = true := zRw_ok (by decide +kernel)
noncomputable def B134_12 : List zRow := [(84, .iinc 5 1, 3, (0, 0, 0)), (87, .goto (-68), 3, (0, 0, 0))]
theorem K134_12 : zRk 134 B134_12 = true := zRw_ok (by decide +kernel)
def F134_2 (k0 : Int → Int → Int → Int → zHC → Option (Int × zHC)) (v1 : Int) (v2 : Int) (v3 : Int) (v5 : Int) (h : zHC) : Option (Int × zHC) := k0 v1 v2 v3 (wadd v5 1) h
set_option maxRecDepth 100000 in
theorem T134_2 {spec : zRn zH2} {hm : zHM} {o : Int → Int} {d : Nat} (hd : 5 ≤ d) (k0 : Int → Int → Int → Int → zHC → Option (Int × zHC)) (hk0 : ∀ (v1 : Int) (v2 : Int) (v3 : Int) (v5 : Int) (h : zHC) (v : (Int × zHC)), k0 v1 v2 v3 v5 h = some v → zFin 0 (fun _ => 0) (zRu2 spec d) 134 (some (0, v.1)) (v.2, hm, o) (19, [some (12, 0), some (19, v1), some (11, v2), some (0, v3), none, some (0, v5), none], [], (h, hm, o))) (v1 : Int) (v2 : Int) (v3 : Int) (v5 : Int) (h : zHC) (v : (Int × zHC)) (e : F134_2 k0 v1 v2 v3 v5 h = some v) : zFin 0 (fun _ => 0) (zRu2 spec d) 134 (some (0, v.1)) (v.2, hm, o) (84, [some (12, 0), some (19, v1), some (11, v2), some (0, v3), none, some (0, v5), none], [], (h, hm, o)) := by
  unfold F134_2 at e
  refine zF_blk (m := []) (d := 0) (b := B134_12) (gs := []) (c' := (19, [some (12, 0), some (19, v1), some (11, v2), some (0, v3), none, some (0, (wadd v5 1)), none], [], (h, hm, o))) K134_12 rfl trivial ?_
  exact hk0 v1 v2 v3 (wadd v5 1) h _ e
def F134_1 (k0 : Int → Int → Int → Int → zHC → Option (Int × zHC)) (v1 : Int) (v2 : Int) (v3 : Int) (v5 : Int) (v6 : Int) (h : zHC) : Option (Int × zHC) := (F89 v2 v1 v6 h).bind fun r1 => (F135 3 r1).bind fun r2 => if ¬ r2.1 = 0 then F134_2 k0 v1 v2 v3 v5 r2.2 else (F136 v1 v2 r2.2).bind fun r3 => F134_2 k0 v1 v2 v3 v5 r3
set_option maxRecDepth 100000 in
theorem T134_1 {spec : zRn zH2} {hm : zHM} {o : Int → Int} {d : Nat} (hd : 5 ≤ d) (k0 : Int → Int → Int → Int → zHC → Option (Int × zHC)) (hk0 : ∀ (v1 : Int) (v2 : Int) (v3 : Int) (v5 : Int) (h : zHC) (v : (Int × zHC)), k0 v1 v2 v3 v5 h = some v → zFin 0 (fun _ => 0) (zRu2 spec d) 134 (some (0, v.1)) (v.2, hm, o) (19, [some (12, 0), some (19, v1), some (11, v2), some (0, v3), none, some (0, v5), none], [], (h, hm, o))) (v1 : Int) (v2 : Int) (v3 : Int) (v5 : Int) (v6 : Int) (h : zHC) (v : (Int × zHC)) (e : F134_1 k0 v1 v2 v3 v5 v6 h = some v) : zFin 0 (fun _ => 0) (zRu2 spec d) 134 (some (0, v.1)) (v.2, hm, o) (63, [some (12, 0), some (19, v1), some (11, v2), some (0, v3), none, some (0, v5), some (0, v6)], [], (h, hm, o)) := by
  unfold F134_1 at e
  obtain ⟨r1, q1, e⟩ := zB_s e
  refine zF_blk (m := []) (d := 0) (b := B134_8) (gs := []) (c' := (67, [some (12, 0), some (19, v1), some (11, v2), some (0, v3), none, some (0, v5), some (0, v6)], [(0, v6), (19, v1), (11, v2)], (h, hm, o))) K134_8 rfl trivial ?_
  refine zF_call (k := 89) (cl := 1) (n := 3) (i := .invokevirtual 31) (args := [(11, v2), (19, v1), (0, v6)]) (rest := []) (g1 := (r1, hm, o)) (r1 := none) (zCk1_w (by decide +kernel)) rfl rfl rfl (st' := []) rfl (S89 (Nat.le_trans (by decide) hd) v2 v1 v6 h _ q1) ?_
  obtain ⟨r2, q2, e⟩ := zB_s e
  refine zF_blk (m := []) (d := 0) (b := B134_9) (gs := []) (c' := (72, [some (12, 0), some (19, v1), some (11, v2), some (0, v3), none, some (0, v5), some (0, v6)], [(0, 3), (12, 0)], (r1, hm, o))) K134_9 rfl trivial ?_
  refine zF_call (k := 135) (cl := 2) (n := 2) (i := .invokevirtual 27) (args := [(12, 0), (0, 3)]) (rest := []) (g1 := (r2.2, hm, o)) (r1 := some (0, r2.1)) (zCk1_w (by decide +kernel)) rfl rfl rfl (st' := [(0, r2.1)]) rfl (S135 (Nat.le_trans (by decide) hd) 3 r1 _ q2) ?_
  rcases zI_s e with ⟨q3, e⟩ | ⟨q3, e⟩
  · refine zF_blk (m := []) (d := 1) (b := B134_11) (gs := [¬ r2.1 = 0]) (c' := (84, [some (12, 0), some (19, v1), some (11, v2), some (0, v3), none, some (0, v5), some (0, v6)], [], (r2.2, hm, o))) K134_11 rfl ⟨q3, trivial⟩ ?_
    refine zF_blk (m := [true, true, true, true, false, true, false]) (d := 0) (b := []) (gs := []) (c' := (84, [some (12, 0), some (19, v1), some (11, v2), some (0, v3), none, some (0, v5), none], [], (r2.2, hm, o))) rfl rfl trivial ?_
    exact T134_2 hd k0 hk0 v1 v2 v3 v5 r2.2 _ e
  · refine zF_blk (m := []) (d := 0) (b := B134_11) (gs := [¬ (¬ r2.1 = 0)]) (c' := (78, [some (12, 0), some (19, v1), some (11, v2), some (0, v3), none, some (0, v5), some (0, v6)], [], (r2.2, hm, o))) K134_11 rfl ⟨q3, trivial⟩ ?_
    obtain ⟨r3, q4, e⟩ := zB_s e
    refine zF_blk (m := []) (d := 0) (b := B134_10) (gs := []) (c' := (81, [some (12, 0), some (19, v1), some (11, v2), some (0, v3), none, some (0, v5), some (0, v6)], [(11, v2), (19, v1), (12, 0)], (r2.2, hm, o))) K134_10 rfl trivial ?_
    refine zF_call (k := 136) (cl := 2) (n := 3) (i := .invokevirtual 35) (args := [(12, 0), (19, v1), (11, v2)]) (rest := []) (g1 := (r3, hm, o)) (r1 := none) (zCk1_w (by decide +kernel)) rfl rfl rfl (st' := []) rfl (S136 (Nat.le_trans (by decide) hd) v1 v2 r2.2 _ q4) ?_
    refine zF_blk (m := [true, true, true, true, false, true, false]) (d := 0) (b := []) (gs := []) (c' := (84, [some (12, 0), some (19, v1), some (11, v2), some (0, v3), none, some (0, v5), none], [], (r3, hm, o))) rfl rfl trivial ?_
    exact T134_2 hd k0 hk0 v1 v2 v3 v5 r3 _ e
def F134_0 : Nat → Int → Int → Int → Int → zHC → Option (Int × zHC)
  | 0, _, _, _, _, _ => none
  | n + 1, v1, v2, v3, v5, h => if v3 ≤ v5 then some (v5, h) else if 400 ≤ (h 64 v2 0) then some (v5, h) else (F135 4 h).bind fun r1 => if ¬ r1.1 = 0 then F134_1 (F134_0 n) v1 v2 v3 v5 0 r1.2 else (F135 5 r1.2).bind fun r2 => F134_1 (F134_0 n) v1 v2 v3 v5 r2.1 (hset r2.2 128 0 0 (wadd (r2.2 128 0 0) 1))
set_option maxRecDepth 100000 in
theorem T134_0 {spec : zRn zH2} {hm : zHM} {o : Int → Int} {d : Nat} (hd : 5 ≤ d) : ∀ (n : Nat) (v1 : Int) (v2 : Int) (v3 : Int) (v5 : Int) (h : zHC) (v : (Int × zHC)), F134_0 n v1 v2 v3 v5 h = some v → zFin 0 (fun _ => 0) (zRu2 spec d) 134 (some (0, v.1)) (v.2, hm, o) (19, [some (12, 0), some (19, v1), some (11, v2), some (0, v3), none, some (0, v5), none], [], (h, hm, o)) := by
  intro n
  induction n with
  | zero => intro v1 v2 v3 v5 h v e; unfold F134_0 at e; cases e
  | succ n hk0 =>
    intro v1 v2 v3 v5 h v e
    unfold F134_0 at e
    rcases zI_s e with ⟨q1, e⟩ | ⟨q1, e⟩
    · refine zF_blk (m := []) (d := 1) (b := B134_7) (gs := [v3 ≤ v5]) (c' := (90, [some (12, 0), some (19, v1), some (11, v2), some (0, v3), none, some (0, v5), none], [], (h, hm, o))) K134_7 rfl ⟨q1, trivial⟩ ?_
      refine zF_blk (m := []) (d := 0) (b := B134_1) (gs := []) (c' := (92, [some (12, 0), some (19, v1), some (11, v2), some (0, v3), none, some (0, v5), none], [(0, v5)], (h, hm, o))) K134_1 rfl trivial ?_
      exact zF_riC (zRe1_w (by decide +kernel)) e
    · refine zF_blk (m := []) (d := 0) (b := B134_7) (gs := [¬ (v3 ≤ v5)]) (c' := (25, [some (12, 0), some (19, v1), some (11, v2), some (0, v3), none, some (0, v5), none], [], (h, hm, o))) K134_7 rfl ⟨q1, trivial⟩ ?_
      rcases zI_s e with ⟨q2, e⟩ | ⟨q2, e⟩
      · refine zF_blk (m := []) (d := 1) (b := B134_6) (gs := [400 ≤ (h 64 v2 0)]) (c' := (90, [some (12, 0), some (19, v1), some (11, v2), some (0, v3), none, some (0, v5), none], [], (h, hm, o))) K134_6 rfl ⟨q2, trivial⟩ ?_
        refine zF_blk (m := []) (d := 0) (b := B134_1) (gs := []) (c' := (92, [some (12, 0), some (19, v1), some (11, v2), some (0, v3), none, some (0, v5), none], [(0, v5)], (h, hm, o))) K134_1 rfl trivial ?_
        exact zF_riC (zRe1_w (by decide +kernel)) e
      · refine zF_blk (m := []) (d := 0) (b := B134_6) (gs := [¬ (400 ≤ (h 64 v2 0))]) (c' := (35, [some (12, 0), some (19, v1), some (11, v2), some (0, v3), none, some (0, v5), none], [], (h, hm, o))) K134_6 rfl ⟨q2, trivial⟩ ?_
        obtain ⟨r1, q3, e⟩ := zB_s e
        refine zF_blk (m := []) (d := 0) (b := B134_2) (gs := []) (c' := (40, [some (12, 0), some (19, v1), some (11, v2), some (0, v3), none, some (0, v5), some (0, 0)], [(0, 4), (12, 0)], (h, hm, o))) K134_2 rfl trivial ?_
        refine zF_call (k := 135) (cl := 2) (n := 2) (i := .invokevirtual 27) (args := [(12, 0), (0, 4)]) (rest := []) (g1 := (r1.2, hm, o)) (r1 := some (0, r1.1)) (zCk1_w (by decide +kernel)) rfl rfl rfl (st' := [(0, r1.1)]) rfl (S135 (Nat.le_trans (by decide) hd) 4 h _ q3) ?_
        rcases zI_s e with ⟨q4, e⟩ | ⟨q4, e⟩
        · refine zF_blk (m := []) (d := 1) (b := B134_5) (gs := [¬ r1.1 = 0]) (c' := (63, [some (12, 0), some (19, v1), some (11, v2), some (0, v3), none, some (0, v5), some (0, 0)], [], (r1.2, hm, o))) K134_5 rfl ⟨q4, trivial⟩ ?_
          exact T134_1 hd (F134_0 n) hk0 v1 v2 v3 v5 0 r1.2 _ e
        · refine zF_blk (m := []) (d := 0) (b := B134_5) (gs := [¬ (¬ r1.1 = 0)]) (c' := (46, [some (12, 0), some (19, v1), some (11, v2), some (0, v3), none, some (0, v5), some (0, 0)], [], (r1.2, hm, o))) K134_5 rfl ⟨q4, trivial⟩ ?_
          obtain ⟨r2, q5, e⟩ := zB_s e
          refine zF_blk (m := []) (d := 0) (b := B134_3) (gs := []) (c' := (48, [some (12, 0), some (19, v1), some (11, v2), some (0, v3), none, some (0, v5), some (0, 0)], [(0, 5), (12, 0)], (r1.2, hm, o))) K134_3 rfl trivial ?_
          refine zF_call (k := 135) (cl := 2) (n := 2) (i := .invokevirtual 27) (args := [(12, 0), (0, 5)]) (rest := []) (g1 := (r2.2, hm, o)) (r1 := some (0, r2.1)) (zCk1_w (by decide +kernel)) rfl rfl rfl (st' := [(0, r2.1)]) rfl (S135 (Nat.le_trans (by decide) hd) 5 r1.2 _ q5) ?_
          refine zF_blk (m := []) (d := 0) (b := B134_4) (gs := []) (c' := (63, [some (12, 0), some (19, v1), some (11, v2), some (0, v3), none, some (0, v5), some (0, r2.1)], [], ((hset r2.2 128 0 0 (wadd (r2.2 128 0 0) 1)), hm, o))) K134_4 rfl trivial ?_
          exact T134_1 hd (F134_0 n) hk0 v1 v2 v3 v5 r2.1 (hset r2.2 128 0 0 (wadd (r2.2 128 0 0) 1)) _ e
/-- EchoVale$Draws.passHours(LEchoVale$Valley;LEchoVale$Course;II)I -/
def F134 (v1 : Int) (v2 : Int) (v3 : Int) (v4 : Int) (h : zHC) : Option (Int × zHC) := F134_0 zFu v1 v2 v3 0 (hset (hset (hset h 130 0 0 v4) 128 0 0 0) 129 0 0 0)
set_option maxRecDepth 100000 in
theorem S134 {spec : zRn zH2} {hm : zHM} {o : Int → Int} {d : Nat} (hd : 6 ≤ d) (v1 : Int) (v2 : Int) (v3 : Int) (v4 : Int) (h : zHC) (v : (Int × zHC)) (e : F134 v1 v2 v3 v4 h = some v) : zRu2 spec d 134 [(12, 0), (19, v1), (11, v2), (0, v3), (0, v4)] (h, hm, o) (some (0, v.1)) (v.2, hm, o) := by
  refine zF_in (D := 5) (mx := 7) (L := [some (12, 0), some (19, v1), some (11, v2), some (0, v3), some (0, v4), none, none]) (by decide +kernel) rfl rfl hd (fun d hd => ?_)
  unfold F134 at e
  refine zF_blk (m := []) (d := 0) (b := B134_0) (gs := []) (c' := (19, [some (12, 0), some (19, v1), some (11, v2), some (0, v3), some (0, v4), some (0, 0), none], [], ((hset (hset (hset h 130 0 0 v4) 128 0 0 0) 129 0 0 0), hm, o))) K134_0 rfl trivial ?_
  refine zF_blk (m := [true, true, true, true, false, true, false]) (d := 0) (b := []) (gs := []) (c' := (19, [some (12, 0), some (19, v1), some (11, v2), some (0, v3), none, some (0, 0), none], [], ((hset (hset (hset h 130 0 0 v4) 128 0 0 0) 129 0 0 0), hm, o))) rfl rfl trivial ?_
  exact T134_0 hd zFu v1 v2 v3 0 (hset (hset (hset h 130 0 0 v4) 128 0 0 0) 129 0 0 0) _ e
noncomputable def B133_0 : List zRow := [(21, .iconst (-1), 1, (0, 0, 0))]
theorem K133_0 : zRk 133 B133_0 = true := zRw_ok (by decide +kernel)
noncomputable def B133_1 : List zRow := [(36, .aload_n 0, 1, (0, 0, 0)), (37, .getfield 66, 3, (11, 8, 35)), (40, .aload_n 0, 1, (0, 0, 0)), (41, .getfield 56, 3, (11, 6, 7))]
theorem K133_1 : zRk 133 B133_1 = true := zRw_ok (by decide +kernel)
noncomputable def B133_2 : List zRow := [(23, .aload_n 0, 1, (0, 0, 0)), (24, .getfield 56, 3, (11, 6, 7)), (27, .getfield 159, 3, (1, 0, 0)), (30, .sipush 400, 3, (0, 0, 0)), (33, .if_icmp .ge 14, 3, (0, 0, 0))]
theorem K133_2 : zRk 133 B133_2 = true := zRw_ok (by decide +kernel)
noncomputable def B133_3 : List zRow := [(11, .aload_n 0, 1, (0, 0, 0)), (12, .getfield 19, 3, (11, 1, 39)), (15, .getfield 311, 3, (9, 3, 0)), (18, .ifCond .ne 5, 3, (0, 0, 0))]
theorem K133_3 : zRk 133 B133_3 = true := zRw_ok (by decide +kernel)
noncomputable def B133_4 : List zRow := [(5, .iload_n 1, 1, (0, 0, 0)), (6, .bipush 100, 2, (0, 0, 0)), (8, .if_icmp .gt 13, 3, (0, 0, 0))]
theorem K133_4 : zRk 133 B133_4 = true := zRw_ok (by decide +kernel)
noncomputable def B133_5 : List zRow := [(0, .iload_n 1, 1, (0, 0, 0)), (1, .iconst 1, 1, (0, 0, 0)), (2, .if_icmp .lt 19, 3, (0, 0, 0))]
theorem K133_5 : zRk 133 B133_5 = true := zRw_ok (by decide +kernel)
noncomputable def B133_6 : List zRow := [(47, .aload_n 0, 1, (0, 0, 0)), (48, .getfield 87, 3, (11, 11, 11)), (51, .aload_n 0, 1, (0, 0, 0)), (52, .getfield 19, 3, (11, 1, 39)), (55, .aload_n 0, 1, (0, 0, 0)), (56, .getfield 56, 3, (11, 6, 7)), (59, .iload_n 1, 1, (0, 0, 0)), (60, .iload_n 2, 1, (0, 0, 0))]
theorem K133_6 : zRk 133 B133_6 = true := zRw_ok (by decide +kernel)
noncomputable def B133_7 : List zRow := [(64, .istore_n 3, 1, (0, 0, 0)), (65, .aload_n 0, 1, (0, 0, 0)), (66, .aload_n 0, 1, (0, 0, 0)), (67, .getfield 87, 3, (11, 11, 11)), (70, .getfield 317, 3, (2, 0, 0)), (73, .putfield 98, 3, (11, 15, 0)), (76, .aload_n 0, 1, (0, 0, 0)), (77, .aload_n 0, 1, (0, 0, 0)), (78, .getfield 87, 3, (11, 11, 11)), (81, .getfield 320, 3, (2, 1, 0)), (84, .putfield 102, 3, (11, 16, 0)), (87, .iload_n 3, 1, (0, 0, 0))]
theorem K133_7 : zRk 133 B133_7 = true := zRw_ok (by decide +kernel)
def F133_0 (v1 : Int) (v2 : Int) (h : zHC) : Option (Int × zHC) := (F134 0 0 v1 v2 h).bind fun r1 => some (r1.1, (hset (hset r1.2 719 0 0 (r1.2 128 0 0)) 720 0 0 (r1.2 129 0 0)))
set_option maxRecDepth 100000 in
theorem T133_0 {spec : zRn zH2} {hm : zHM} {o : Int → Int} {d : Nat} (hd : 6 ≤ d) (v1 : Int) (v2 : Int) (h : zHC) (v : (Int × zHC)) (e : F133_0 v1 v2 h = some v) : zFin 0 (fun _ => 0) (zRu2 spec d) 133 (some (0, v.1)) (v.2, hm, o) (47, [some (21, 0), some (0, v1), some (0, v2), none], [], (h, hm, o)) := by
  unfold F133_0 at e
  obtain ⟨r1, q1, e⟩ := zB_s e
  refine zF_blk (m := []) (d := 0) (b := B133_6) (gs := []) (c' := (61, [some (21, 0), some (0, v1), some (0, v2), none], [(0, v2), (0, v1), (11, 0), (19, 0), (12, 0)], (h, hm, o))) K133_6 rfl trivial ?_
  refine zF_call (k := 134) (cl := 2) (n := 5) (i := .invokevirtual 314) (args := [(12, 0), (19, 0), (11, 0), (0, v1), (0, v2)]) (rest := []) (g1 := (r1.2, hm, o)) (r1 := some (0, r1.1)) (zCk1_w (by decide +kernel)) rfl rfl rfl (st' := [(0, r1.1)]) rfl (S134 (Nat.le_trans (by decide) hd) 0 0 v1 v2 h _ q1) ?_
  refine zF_blk (m := []) (d := 0) (b := B133_7) (gs := []) (c' := (88, [some (21, 0), some (0, v1), some (0, v2), some (0, r1.1)], [(0, r1.1)], ((hset (hset r1.2 719 0 0 (r1.2 128 0 0)) 720 0 0 (r1.2 129 0 0)), hm, o))) K133_7 rfl trivial ?_
  exact zF_riC (zRe1_w (by decide +kernel)) e
/-- EchoVale.drawn(II)I -/
def F133 (v1 : Int) (v2 : Int) (h : zHC) : Option (Int × zHC) := if v1 < 1 then some ((-1), h) else if 100 < v1 then some ((-1), h) else if ¬ (h 579 0 0) = 0 then if 400 ≤ (h 64 0 0) then F133_0 v1 v2 h else (F70 0 h).bind fun r1 => F133_0 v1 v2 r1 else some ((-1), h)
set_option maxRecDepth 100000 in
theorem S133 {spec : zRn zH2} {hm : zHM} {o : Int → Int} {d : Nat} (hd : 7 ≤ d) (v1 : Int) (v2 : Int) (h : zHC) (v : (Int × zHC)) (e : F133 v1 v2 h = some v) : zRu2 spec d 133 [(21, 0), (0, v1), (0, v2)] (h, hm, o) (some (0, v.1)) (v.2, hm, o) := by
  refine zF_in (D := 6) (mx := 4) (L := [some (21, 0), some (0, v1), some (0, v2), none]) (by decide +kernel) rfl rfl hd (fun d hd => ?_)
  unfold F133 at e
  rcases zI_s e with ⟨q1, e⟩ | ⟨q1, e⟩
  · refine zF_blk (m := []) (d := 1) (b := B133_5) (gs := [v1 < 1]) (c' := (21, [some (21, 0), some (0, v1), some (0, v2), none], [], (h, hm, o))) K133_5 rfl ⟨q1, trivial⟩ ?_
    refine zF_blk (m := []) (d := 0) (b := B133_0) (gs := []) (c' := (22, [some (21, 0), some (0, v1), some (0, v2), none], [(0, (-1))], (h, hm, o))) K133_0 rfl trivial ?_
    exact zF_riC (zRe1_w (by decide +kernel)) e
  · refine zF_blk (m := []) (d := 0) (b := B133_5) (gs := [¬ (v1 < 1)]) (c' := (5, [some (21, 0), some (0, v1), some (0, v2), none], [], (h, hm, o))) K133_5 rfl ⟨q1, trivial⟩ ?_
    rcases zI_s e with ⟨q2, e⟩ | ⟨q2, e⟩
    · refine zF_blk (m := []) (d := 1) (b := B133_4) (gs := [100 < v1]) (c' := (21, [some (21, 0), some (0, v1), some (0, v2), none], [], (h, hm, o))) K133_4 rfl ⟨q2, trivial⟩ ?_
      refine zF_blk (m := []) (d := 0) (b := B133_0) (gs := []) (c' := (22, [some (21, 0), some (0, v1), some (0, v2), none], [(0, (-1))], (h, hm, o))) K133_0 rfl trivial ?_
      exact zF_riC (zRe1_w (by decide +kernel)) e
    · refine zF_blk (m := []) (d := 0) (b := B133_4) (gs := [¬ (100 < v1)]) (c' := (11, [some (21, 0), some (0, v1), some (0, v2), none], [], (h, hm, o))) K133_4 rfl ⟨q2, trivial⟩ ?_
      rcases zI_s e with ⟨q3, e⟩ | ⟨q3, e⟩
      · refine zF_blk (m := []) (d := 1) (b := B133_3) (gs := [¬ (h 579 0 0) = 0]) (c' := (23, [some (21, 0), some (0, v1), some (0, v2), none], [], (h, hm, o))) K133_3 rfl ⟨q3, trivial⟩ ?_
        rcases zI_s e with ⟨q4, e⟩ | ⟨q4, e⟩
        · refine zF_blk (m := []) (d := 1) (b := B133_2) (gs := [400 ≤ (h 64 0 0)]) (c' := (47, [some (21, 0), some (0, v1), some (0, v2), none], [], (h, hm, o))) K133_2 rfl ⟨q4, trivial⟩ ?_
          exact T133_0 hd v1 v2 h _ e
        · refine zF_blk (m := []) (d := 0) (b := B133_2) (gs := [¬ (400 ≤ (h 64 0 0))]) (c' := (36, [some (21, 0), some (0, v1), some (0, v2), none], [], (h, hm, o))) K133_2 rfl ⟨q4, trivial⟩ ?_
          obtain ⟨r1, q5, e⟩ := zB_s e
          refine zF_blk (m := []) (d := 0) (b := B133_1) (gs := []) (c' := (44, [some (21, 0), some (0, v1), some (0, v2), none], [(11, 0), (18, 0)], (h, hm, o))) K133_1 rfl trivial ?_
          refine zF_call (k := 70) (cl := 8) (n := 2) (i := .invokevirtual 217) (args := [(18, 0), (11, 0)]) (rest := []) (g1 := (r1, hm, o)) (r1 := none) (zCk1_w (by decide +kernel)) rfl rfl rfl (st' := []) rfl (S70 (Nat.le_trans (by decide) hd) 0 h _ q5) ?_
          exact T133_0 hd v1 v2 r1 _ e
      · refine zF_blk (m := []) (d := 0) (b := B133_3) (gs := [¬ (¬ (h 579 0 0) = 0)]) (c' := (21, [some (21, 0), some (0, v1), some (0, v2), none], [], (h, hm, o))) K133_3 rfl ⟨q3, trivial⟩ ?_
        refine zF_blk (m := []) (d := 0) (b := B133_0) (gs := []) (c' := (22, [some (21, 0), some (0, v1), some (0, v2), none], [(0, (-1))], (h, hm, o))) K133_0 rfl trivial ?_
        exact zF_riC (zRe1_w (by decide +kernel)) e
noncomputable def B272_0a : List zRow := [(0, .aload_n 0, 1, (0, 0, 0)), (1, .aload_n 0, 1, (0, 0, 0)), (2, .getfield 369, 3, (12, 38, 0)), (5, .ldc_w 372, 3, (0, 0, 1103515245)), (8, .imul, 1, (0, 0, 0)), (9, .sipush 12345, 3, (0, 0, 0)), (12, .iadd, 1, (0, 0, 0))]
theorem K272_0a : zRk 272 B272_0a = true := zRw_ok (by decide +kernel)
noncomputable def B272_0b : List zRow := [(13, .putfield 369, 3, (12, 38, 0)), (16, .aload_n 0, 1, (0, 0, 0))]
theorem K272_0b : zRk 272 B272_0b = true := zRw_ok (by decide +kernel)
noncomputable def B272_1 : List zRow := [(17, .getfield 369, 3, (12, 38, 0)), (20, .bipush 8, 2, (0, 0, 0)), (22, .iushr, 1, (0, 0, 0)), (23, .iload_n 1, 1, (0, 0, 0)), (24, .irem, 1, (0, 0, 0))]
theorem K272_1 : zRk 272 B272_1 = true := zRw_ok (by decide +kernel)
/-- EchoValeModel.draw(I)I -/
def F272 (v1 : Int) (h : zHM) : Option (Int × zHM) := zG (¬ v1 = 0) (some ((wrem (wushr ((mset h 38 0 (wadd (wmul (h 38 0) 1103515245) 12345)) 38 0) 8) v1), (mset h 38 0 (wadd (wmul (h 38 0) 1103515245) 12345))))
set_option maxRecDepth 100000 in
theorem S272 {spec : zRn zH2} {hc : zHC} {o : Int → Int} {d : Nat} (hd : 1 ≤ d) (v1 : Int) (h : zHM) (v : (Int × zHM)) (e : F272 v1 h = some v) : zRu2 spec d 272 [(22, 0), (0, v1)] (hc, h, o) (some (0, v.1)) (hc, v.2, o) := by
  refine zF_in (D := 0) (mx := 2) (L := [some (22, 0), some (0, v1)]) (by decide +kernel) rfl rfl hd (fun d hd => ?_)
  unfold F272 at e
  obtain ⟨q1, e⟩ := zG_s e
  refine zF_blk (m := []) (d := 0) (b := B272_0a) (gs := []) (c' := (13, [some (22, 0), some (0, v1)], [(0, (wadd (wmul (h 38 0) 1103515245) 12345)), (22, 0)], (hc, h, o))) K272_0a rfl trivial ?_
  generalize (wadd (wmul (h 38 0) 1103515245) 12345) = V at e ⊢
  refine zF_blk (m := []) (d := 0) (b := B272_0b) (gs := []) (c' := (17, [some (22, 0), some (0, v1)], [(22, 0)], (hc, (mset h 38 0 V), o))) K272_0b rfl trivial ?_
  refine zF_blk (m := []) (d := 0) (b := B272_1) (gs := [¬ v1 = 0]) (c' := (25, [some (22, 0), some (0, v1)], [(0, (wrem (wushr ((mset h 38 0 V) 38 0) 8) v1))], (hc, (mset h 38 0 V), o))) K272_1 rfl ⟨q1, trivial⟩ ?_
  exact zF_riM (zRe1_w (by decide +kernel)) e
noncomputable def B271_0 : List zRow := [(0, .aload_n 0, 1, (0, 0, 0)), (1, .iload_n 2, 1, (0, 0, 0)), (2, .putfield 369, 3, (12, 38, 0)), (5, .aload_n 0, 1, (0, 0, 0)), (6, .iconst 0, 1, (0, 0, 0)), (7, .putfield 373, 3, (12, 39, 0)), (10, .aload_n 0, 1, (0, 0, 0)), (11, .iconst 0, 1, (0, 0, 0)), (12, .putfield 376, 3, (12, 40, 0)), (15, .iconst 0, 1, (0, 0, 0)), (16, .istore_n 3, 1, (0, 0, 0))]
theorem K271_0 : zRk 271 B271_0 = true := zRw_ok (by decide +kernel)
noncomputable def B271_1 : List zRow := [(156, .iload_n 3, 1, (0, 0, 0))]
theorem K271_1 : zRk 271 B271_1 = true := zRw_ok (by decide +kernel)
noncomputable def B271_2 : List zRow := [(36, .iconst 0, 1, (0, 0, 0)), (37, .istore 4, 2, (0, 0, 0)), (39, .aload_n 0, 1, (0, 0, 0)), (40, .iconst 4, 1, (0, 0, 0))]
theorem K271_2 : zRk 271 B271_2 = true := zRw_ok (by decide +kernel)
noncomputable def B271_3 : List zRow := [(47, .aload_n 0, 1, (0, 0, 0)), (48, .iconst 5, 1, (0, 0, 0))]
theorem K271_3 : zRk 271 B271_3 = true := zRw_ok (by decide +kernel)
noncomputable def B271_4 : List zRow := [(52, .istore 4, 2, (0, 0, 0)), (54, .aload_n 0, 1, (0, 0, 0)), (55, .dup, 1, (0, 0, 0)), (56, .getfield 373, 3, (12, 39, 0)), (59, .iconst 1, 1, (0, 0, 0)), (60, .iadd, 1, (0, 0, 0)), (61, .putfield 373, 3, (12, 39, 0))]
theorem K271_4 : zRk 271 B271_4 = true := zRw_ok (by decide +kernel)
noncomputable def B271_5 : List zRow := [(44, .ifCond .ne 20, 3, (0, 0, 0))]
theorem K271_5 : zRk 271 B271_5 = true := zRw_ok (by decide +kernel)
noncomputable def B271_6 : List zRow := [(22, .aload_n 0, 1, (0, 0, 0)), (23, .getfield 13, 3, (12, 14, 5251442)), (26, .sipush 209, 3, (0, 0, 0)), (29, .iaload, 1, (0, 0, 0)), (30, .sipush 400, 3, (0, 0, 0)), (33, .if_icmp .ge 123, 3, (0, 0, 0))]
theorem K271_6 : zRk 271 B271_6 = true := zRw_ok (by decide +kernel)
noncomputable def B271_7 : List zRow := [(17, .iload_n 3, 1, (0, 0, 0)), (18, .iload_n 1, 1, (0, 0, 0)), (19, .if_icmp .ge 137, 3, (0, 0, 0))]
theorem K271_7 : zRk 271 B271_7 = true := zRw_ok (by decide +kernel)
noncomputable def B271_8 : List zRow := [(64, .aload_n 0, 1, (0, 0, 0)), (65, .iload 4, 2, (0, 0, 0))]
theorem K271_8 : zRk 271 B271_8 = true := zRw_ok (by decide +kernel)
noncomputable def B271_9 : List zRow := [(70, .aload_n 0, 1, (0, 0, 0)), (71, .iconst 3, 1, (0, 0, 0))]
theorem K271_9 : zRk 271 B271_9 = true := zRw_ok (by decide +kernel)
noncomputable def B271_10 : List zRow := [(81, .aload_n 0, 1, (0, 0, 0)), (82, .aload_n 0, 1, (0, 0, 0)), (83, .getfield 13, 3, (12, 14, 5251442)), (86, .iconst 3, 1, (0, 0, 0)), (87, .iaload, 1, (0, 0, 0))]
theorem K271_10 : zRk 271 B271_10 = true := zRw_ok (by decide +kernel)
noncomputable def B271_11 : List zRow := [(91, .istore 5, 2, (0, 0, 0)), (93, .aload_n 0, 1, (0, 0, 0)), (94, .bipush 99, 2, (0, 0, 0))]
theorem K271_11 : zRk 271 B271_11 = true := zRw_ok (by decide +kernel)
noncomputable def B271_12 : List zRow := [(99, .iconst 1, 1, (0, 0, 0)), (100, .iadd, 1, (0, 0, 0)), (101, .istore 6, 2, (0, 0, 0)), (103, .aload_n 0, 1, (0, 0, 0)), (104, .bipush 9, 2, (0, 0, 0))]
theorem K271_12 : zRk 271 B271_12 = true := zRw_ok (by decide +kernel)
noncomputable def B271_13 : List zRow := [(129, .aload_n 0, 1, (0, 0, 0)), (130, .iload 5, 2, (0, 0, 0)), (132, .iload 6, 2, (0, 0, 0)), (134, .iload 7, 2, (0, 0, 0))]
theorem K271_13 : zRk 271 B271_13 = true := zRw_ok (by decide +kernel)
noncomputable def B271_14 : List zRow := [(139, .pop, 1, (0, 0, 0)), (140, .aload_n 0, 1, (0, 0, 0)), (141, .dup, 1, (0, 0, 0)), (142, .getfield 376, 3, (12, 40, 0)), (145, .iconst 1, 1, (0, 0, 0)), (146, .iadd, 1, (0, 0, 0)), (147, .putfield 376, 3, (12, 40, 0))]
theorem K271_14 : zRk 271 B271_14 = true := zRw_ok (by decide +kernel)
noncomputable def B271_15 : List zRow := [(126, .goto 24, 3, (0, 0, 0))]
theorem K271_15 : zRk 271 B271_15 = true := zRw_ok (by decide +kernel)
noncomputable def B271_16 : List zRow := [(109, .iconst 1, 1, (0, 0, 0)), (110, .iadd, 1, (0, 0, 0)), (111, .istore 7, 2, (0, 0, 0)), (113, .aload_n 0, 1, (0, 0, 0)), (114, .getfield 13, 3, (12, 14, 5251442)), (117, .sipush 216, 3, (0, 0, 0)), (120, .iaload, 1, (0, 0, 0)), (121, .bipush 30, 2, (0, 0, 0)), (123, .if_icmp .ne 6, 3, (0, 0, 0))]
theorem K271_16 : zRk 271 B271_16 = true := zRw_ok (by decide +kernel)
noncomputable def B271_17 : List zRow := [(78, .goto 72, 3, (0, 0, 0))]
theorem K271_17 : zRk 271 B271_17 = true := zRw_ok (by decide +kernel)
noncomputable def B271_18 : List zRow := [(75, .ifCond .eq 6, 3, (0, 0, 0))]
theorem K271_18 : zRk 271 B271_18 = true := zRw_ok (by decide +kernel)
noncomputable def B271_19 : List zRow := [(150, .iinc 3 1, 3, (0, 0, 0)), (153, .goto (-136), 3, (0, 0, 0))]
theorem K271_19 : zRk 271 B271_19 = true := zRw_ok (by decide +kernel)
def F271_2 (k0 : Int → Int → zHM → Option (Int × zHM)) (v1 : Int) (v3 : Int) (h : zHM) : Option (Int × zHM) := k0 v1 (wadd v3 1) h
set_option maxRecDepth 100000 in
theorem T271_2 {spec : zRn zH2} {hc : zHC} {o : Int → Int} {d : Nat} (hd : 5 ≤ d) (k0 : Int → Int → zHM → Option (Int × zHM)) (hk0 : ∀ (v1 : Int) (v3 : Int) (h : zHM) (v : (Int × zHM)), k0 v1 v3 h = some v → zFin 0 (fun _ => 0) (zRu2 spec d) 271 (some (0, v.1)) (hc, v.2, o) (17, [some (22, 0), some (0, v1), none, some (0, v3), none, none, none, none], [], (hc, h, o))) (v1 : Int) (v3 : Int) (h : zHM) (v : (Int × zHM)) (e : F271_2 k0 v1 v3 h = some v) : zFin 0 (fun _ => 0) (zRu2 spec d) 271 (some (0, v.1)) (hc, v.2, o) (150, [some (22, 0), some (0, v1), none, some (0, v3), none, none, none, none], [], (hc, h, o)) := by
  unfold F271_2 at e
  refine zF_blk (m := []) (d := 0) (b := B271_19) (gs := []) (c' := (17, [some (22, 0), some (0, v1), none, some (0, (wadd v3 1)), none, none, none, none], [], (hc, h, o))) K271_19 rfl trivial ?_
  exact hk0 v1 (wadd v3 1) h _ e
def F271_1 (k0 : Int → Int → zHM → Option (Int × zHM)) (v1 : Int) (v3 : Int) (v4 : Int) (h : zHM) : Option (Int × zHM) := (F236 v4 h).bind fun r1 => (F272 3 r1).bind fun r2 => if r2.1 = 0 then (F272 (r2.2 14 3) r2.2).bind fun r3 => (F272 99 r3.2).bind fun r4 => (F272 9 r4.2).bind fun r5 => if ¬ (r5.2 14 216) = 30 then (F227 r3.1 (wadd r4.1 1) (wadd r5.1 1) r5.2).bind fun r6 => F271_2 k0 v1 v3 (mset r6.2 40 0 (wadd (r6.2 40 0) 1)) else F271_2 k0 v1 v3 r5.2 else F271_2 k0 v1 v3 r2.2
set_option maxRecDepth 100000 in
theorem T271_1 {spec : zRn zH2} {hc : zHC} {o : Int → Int} {d : Nat} (hd : 5 ≤ d) (k0 : Int → Int → zHM → Option (Int × zHM)) (hk0 : ∀ (v1 : Int) (v3 : Int) (h : zHM) (v : (Int × zHM)), k0 v1 v3 h = some v → zFin 0 (fun _ => 0) (zRu2 spec d) 271 (some (0, v.1)) (hc, v.2, o) (17, [some (22, 0), some (0, v1), none, some (0, v3), none, none, none, none], [], (hc, h, o))) (v1 : Int) (v3 : Int) (v4 : Int) (h : zHM) (v : (Int × zHM)) (e : F271_1 k0 v1 v3 v4 h = some v) : zFin 0 (fun _ => 0) (zRu2 spec d) 271 (some (0, v.1)) (hc, v.2, o) (64, [some (22, 0), some (0, v1), none, some (0, v3), some (0, v4), none, none, none], [], (hc, h, o)) := by
  unfold F271_1 at e
  obtain ⟨r1, q1, e⟩ := zB_s e
  refine zF_blk (m := []) (d := 0) (b := B271_8) (gs := []) (c' := (67, [some (22, 0), some (0, v1), none, some (0, v3), some (0, v4), none, none, none], [(0, v4), (22, 0)], (hc, h, o))) K271_8 rfl trivial ?_
  refine zF_call (k := 236) (cl := 12) (n := 2) (i := .invokevirtual 302) (args := [(22, 0), (0, v4)]) (rest := []) (g1 := (hc, r1, o)) (r1 := none) (zCk1_w (by decide +kernel)) rfl rfl rfl (st' := []) rfl (S236 (Nat.le_trans (by decide) hd) v4 h _ q1) ?_
  obtain ⟨r2, q2, e⟩ := zB_s e
  refine zF_blk (m := []) (d := 0) (b := B271_9) (gs := []) (c' := (72, [some (22, 0), some (0, v1), none, some (0, v3), some (0, v4), none, none, none], [(0, 3), (22, 0)], (hc, r1, o))) K271_9 rfl trivial ?_
  refine zF_call (k := 272) (cl := 12) (n := 2) (i := .invokevirtual 379) (args := [(22, 0), (0, 3)]) (rest := []) (g1 := (hc, r2.2, o)) (r1 := some (0, r2.1)) (zCk1_w (by decide +kernel)) rfl rfl rfl (st' := [(0, r2.1)]) rfl (S272 (Nat.le_trans (by decide) hd) 3 r1 _ q2) ?_
  rcases zI_s e with ⟨q3, e⟩ | ⟨q3, e⟩
  · refine zF_blk (m := []) (d := 1) (b := B271_18) (gs := [r2.1 = 0]) (c' := (81, [some (22, 0), some (0, v1), none, some (0, v3), some (0, v4), none, none, none], [], (hc, r2.2, o))) K271_18 rfl ⟨q3, trivial⟩ ?_
    obtain ⟨r3, q4, e⟩ := zB_s e
    refine zF_blk (m := []) (d := 0) (b := B271_10) (gs := [0 ≤ 3 ∧ 3 < 2140]) (c' := (88, [some (22, 0), some (0, v1), none, some (0, v3), some (0, v4), none, none, none], [(0, (r2.2 14 3)), (22, 0)], (hc, r2.2, o))) K271_10 rfl ⟨by decide, trivial⟩ ?_
    refine zF_call (k := 272) (cl := 12) (n := 2) (i := .invokevirtual 379) (args := [(22, 0), (0, (r2.2 14 3))]) (rest := []) (g1 := (hc, r3.2, o)) (r1 := some (0, r3.1)) (zCk1_w (by decide +kernel)) rfl rfl rfl (st' := [(0, r3.1)]) rfl (S272 (Nat.le_trans (by decide) hd) (r2.2 14 3) r2.2 _ q4) ?_
    obtain ⟨r4, q5, e⟩ := zB_s e
    refine zF_blk (m := []) (d := 0) (b := B271_11) (gs := []) (c' := (96, [some (22, 0), some (0, v1), none, some (0, v3), some (0, v4), some (0, r3.1), none, none], [(0, 99), (22, 0)], (hc, r3.2, o))) K271_11 rfl trivial ?_
    refine zF_call (k := 272) (cl := 12) (n := 2) (i := .invokevirtual 379) (args := [(22, 0), (0, 99)]) (rest := []) (g1 := (hc, r4.2, o)) (r1 := some (0, r4.1)) (zCk1_w (by decide +kernel)) rfl rfl rfl (st' := [(0, r4.1)]) rfl (S272 (Nat.le_trans (by decide) hd) 99 r3.2 _ q5) ?_
    obtain ⟨r5, q6, e⟩ := zB_s e
    refine zF_blk (m := []) (d := 0) (b := B271_12) (gs := []) (c' := (106, [some (22, 0), some (0, v1), none, some (0, v3), some (0, v4), some (0, r3.1), some (0, (wadd r4.1 1)), none], [(0, 9), (22, 0)], (hc, r4.2, o))) K271_12 rfl trivial ?_
    refine zF_call (k := 272) (cl := 12) (n := 2) (i := .invokevirtual 379) (args := [(22, 0), (0, 9)]) (rest := []) (g1 := (hc, r5.2, o)) (r1 := some (0, r5.1)) (zCk1_w (by decide +kernel)) rfl rfl rfl (st' := [(0, r5.1)]) rfl (S272 (Nat.le_trans (by decide) hd) 9 r4.2 _ q6) ?_
    rcases zI_s e with ⟨q7, e⟩ | ⟨q7, e⟩
    · refine zF_blk (m := []) (d := 1) (b := B271_16) (gs := [0 ≤ 216 ∧ 216 < 2140, ¬ (r5.2 14 216) = 30]) (c' := (129, [some (22, 0), some (0, v1), none, some (0, v3), some (0, v4), some (0, r3.1), some (0, (wadd r4.1 1)), some (0, (wadd r5.1 1))], [], (hc, r5.2, o))) K271_16 rfl ⟨by decide, q7, trivial⟩ ?_
      obtain ⟨r6, q8, e⟩ := zB_s e
      refine zF_blk (m := []) (d := 0) (b := B271_13) (gs := []) (c' := (136, [some (22, 0), some (0, v1), none, some (0, v3), some (0, v4), some (0, r3.1), some (0, (wadd r4.1 1)), some (0, (wadd r5.1 1))], [(0, (wadd r5.1 1)), (0, (wadd r4.1 1)), (0, r3.1), (22, 0)], (hc, r5.2, o))) K271_13 rfl trivial ?_
      refine zF_call (k := 227) (cl := 12) (n := 4) (i := .invokevirtual 311) (args := [(22, 0), (0, r3.1), (0, (wadd r4.1 1)), (0, (wadd r5.1 1))]) (rest := []) (g1 := (hc, r6.2, o)) (r1 := some (0, r6.1)) (zCk1_w (by decide +kernel)) rfl rfl rfl (st' := [(0, r6.1)]) rfl (S227 (Nat.le_trans (by decide) hd) r3.1 (wadd r4.1 1) (wadd r5.1 1) r5.2 _ q8) ?_
      refine zF_blk (m := []) (d := 0) (b := B271_14) (gs := []) (c' := (150, [some (22, 0), some (0, v1), none, some (0, v3), some (0, v4), some (0, r3.1), some (0, (wadd r4.1 1)), some (0, (wadd r5.1 1))], [], (hc, (mset r6.2 40 0 (wadd (r6.2 40 0) 1)), o))) K271_14 rfl trivial ?_
      refine zF_blk (m := [true, true, false, true, false, false, false, false]) (d := 0) (b := []) (gs := []) (c' := (150, [some (22, 0), some (0, v1), none, some (0, v3), none, none, none, none], [], (hc, (mset r6.2 40 0 (wadd (r6.2 40 0) 1)), o))) rfl rfl trivial ?_
      exact T271_2 hd k0 hk0 v1 v3 (mset r6.2 40 0 (wadd (r6.2 40 0) 1)) _ e
    · refine zF_blk (m := []) (d := 0) (b := B271_16) (gs := [0 ≤ 216 ∧ 216 < 2140, ¬ (¬ (r5.2 14 216) = 30)]) (c' := (126, [some (22, 0), some (0, v1), none, some (0, v3), some (0, v4), some (0, r3.1), some (0, (wadd r4.1 1)), some (0, (wadd r5.1 1))], [], (hc, r5.2, o))) K271_16 rfl ⟨by decide, q7, trivial⟩ ?_
      refine zF_blk (m := []) (d := 0) (b := B271_15) (gs := []) (c' := (150, [some (22, 0), some (0, v1), none, some (0, v3), some (0, v4), some (0, r3.1), some (0, (wadd r4.1 1)), some (0, (wadd r5.1 1))], [], (hc, r5.2, o))) K271_15 rfl trivial ?_
      refine zF_blk (m := [true, true, false, true, false, false, false, false]) (d := 0) (b := []) (gs := []) (c' := (150, [some (22, 0), some (0, v1), none, some (0, v3), none, none, none, none], [], (hc, r5.2, o))) rfl rfl trivial ?_
      exact T271_2 hd k0 hk0 v1 v3 r5.2 _ e
  · refine zF_blk (m := []) (d := 0) (b := B271_18) (gs := [¬ (r2.1 = 0)]) (c' := (78, [some (22, 0), some (0, v1), none, some (0, v3), some (0, v4), none, none, none], [], (hc, r2.2, o))) K271_18 rfl ⟨q3, trivial⟩ ?_
    refine zF_blk (m := []) (d := 0) (b := B271_17) (gs := []) (c' := (150, [some (22, 0), some (0, v1), none, some (0, v3), some (0, v4), none, none, none], [], (hc, r2.2, o))) K271_17 rfl trivial ?_
    refine zF_blk (m := [true, true, false, true, false, false, false, false]) (d := 0) (b := []) (gs := []) (c' := (150, [some (22, 0), some (0, v1), none, some (0, v3), none, none, none, none], [], (hc, r2.2, o))) rfl rfl trivial ?_
    exact T271_2 hd k0 hk0 v1 v3 r2.2 _ e
def F271_0 : Nat → Int → Int → zHM → Option (Int × zHM)
  | 0, _, _, _ => none
  | n + 1, v1, v3, h => if v1 ≤ v3 then some (v3, h) else if 400 ≤ (h 14 209) then some (v3, h) else (F272 4 h).bind fun r1 => if ¬ r1.1 = 0 then F271_1 (F271_0 n) v1 v3 0 r1.2 else (F272 5 r1.2).bind fun r2 => F271_1 (F271_0 n) v1 v3 r2.1 (mset r2.2 39 0 (wadd (r2.2 39 0) 1))
set_option maxRecDepth 100000 in
theorem T271_0 {spec : zRn zH2} {hc : zHC} {o : Int → Int} {d : Nat} (hd : 5 ≤ d) : ∀ (n : Nat) (v1 : Int) (v3 : Int) (h : zHM) (v : (Int × zHM)), F271_0 n v1 v3 h = some v → zFin 0 (fun _ => 0) (zRu2 spec d) 271 (some (0, v.1)) (hc, v.2, o) (17, [some (22, 0), some (0, v1), none, some (0, v3), none, none, none, none], [], (hc, h, o)) := by
  intro n
  induction n with
  | zero => intro v1 v3 h v e; unfold F271_0 at e; cases e
  | succ n hk0 =>
    intro v1 v3 h v e
    unfold F271_0 at e
    rcases zI_s e with ⟨q1, e⟩ | ⟨q1, e⟩
    · refine zF_blk (m := []) (d := 1) (b := B271_7) (gs := [v1 ≤ v3]) (c' := (156, [some (22, 0), some (0, v1), none, some (0, v3), none, none, none, none], [], (hc, h, o))) K271_7 rfl ⟨q1, trivial⟩ ?_
      refine zF_blk (m := []) (d := 0) (b := B271_1) (gs := []) (c' := (157, [some (22, 0), some (0, v1), none, some (0, v3), none, none, none, none], [(0, v3)], (hc, h, o))) K271_1 rfl trivial ?_
      exact zF_riM (zRe1_w (by decide +kernel)) e
    · refine zF_blk (m := []) (d := 0) (b := B271_7) (gs := [¬ (v1 ≤ v3)]) (c' := (22, [some (22, 0), some (0, v1), none, some (0, v3), none, none, none, none], [], (hc, h, o))) K271_7 rfl ⟨q1, trivial⟩ ?_
      rcases zI_s e with ⟨q2, e⟩ | ⟨q2, e⟩
      · refine zF_blk (m := []) (d := 1) (b := B271_6) (gs := [0 ≤ 209 ∧ 209 < 2140, 400 ≤ (h 14 209)]) (c' := (156, [some (22, 0), some (0, v1), none, some (0, v3), none, none, none, none], [], (hc, h, o))) K271_6 rfl ⟨by decide, q2, trivial⟩ ?_
        refine zF_blk (m := []) (d := 0) (b := B271_1) (gs := []) (c' := (157, [some (22, 0), some (0, v1), none, some (0, v3), none, none, none, none], [(0, v3)], (hc, h, o))) K271_1 rfl trivial ?_
        exact zF_riM (zRe1_w (by decide +kernel)) e
      · refine zF_blk (m := []) (d := 0) (b := B271_6) (gs := [0 ≤ 209 ∧ 209 < 2140, ¬ (400 ≤ (h 14 209))]) (c' := (36, [some (22, 0), some (0, v1), none, some (0, v3), none, none, none, none], [], (hc, h, o))) K271_6 rfl ⟨by decide, q2, trivial⟩ ?_
        obtain ⟨r1, q3, e⟩ := zB_s e
        refine zF_blk (m := []) (d := 0) (b := B271_2) (gs := []) (c' := (41, [some (22, 0), some (0, v1), none, some (0, v3), some (0, 0), none, none, none], [(0, 4), (22, 0)], (hc, h, o))) K271_2 rfl trivial ?_
        refine zF_call (k := 272) (cl := 12) (n := 2) (i := .invokevirtual 379) (args := [(22, 0), (0, 4)]) (rest := []) (g1 := (hc, r1.2, o)) (r1 := some (0, r1.1)) (zCk1_w (by decide +kernel)) rfl rfl rfl (st' := [(0, r1.1)]) rfl (S272 (Nat.le_trans (by decide) hd) 4 h _ q3) ?_
        rcases zI_s e with ⟨q4, e⟩ | ⟨q4, e⟩
        · refine zF_blk (m := []) (d := 1) (b := B271_5) (gs := [¬ r1.1 = 0]) (c' := (64, [some (22, 0), some (0, v1), none, some (0, v3), some (0, 0), none, none, none], [], (hc, r1.2, o))) K271_5 rfl ⟨q4, trivial⟩ ?_
          exact T271_1 hd (F271_0 n) hk0 v1 v3 0 r1.2 _ e
        · refine zF_blk (m := []) (d := 0) (b := B271_5) (gs := [¬ (¬ r1.1 = 0)]) (c' := (47, [some (22, 0), some (0, v1), none, some (0, v3), some (0, 0), none, none, none], [], (hc, r1.2, o))) K271_5 rfl ⟨q4, trivial⟩ ?_
          obtain ⟨r2, q5, e⟩ := zB_s e
          refine zF_blk (m := []) (d := 0) (b := B271_3) (gs := []) (c' := (49, [some (22, 0), some (0, v1), none, some (0, v3), some (0, 0), none, none, none], [(0, 5), (22, 0)], (hc, r1.2, o))) K271_3 rfl trivial ?_
          refine zF_call (k := 272) (cl := 12) (n := 2) (i := .invokevirtual 379) (args := [(22, 0), (0, 5)]) (rest := []) (g1 := (hc, r2.2, o)) (r1 := some (0, r2.1)) (zCk1_w (by decide +kernel)) rfl rfl rfl (st' := [(0, r2.1)]) rfl (S272 (Nat.le_trans (by decide) hd) 5 r1.2 _ q5) ?_
          refine zF_blk (m := []) (d := 0) (b := B271_4) (gs := []) (c' := (64, [some (22, 0), some (0, v1), none, some (0, v3), some (0, r2.1), none, none, none], [], (hc, (mset r2.2 39 0 (wadd (r2.2 39 0) 1)), o))) K271_4 rfl trivial ?_
          exact T271_1 hd (F271_0 n) hk0 v1 v3 r2.1 (mset r2.2 39 0 (wadd (r2.2 39 0) 1)) _ e
/-- EchoValeModel.drawnBy(II)I -/
def F271 (v1 : Int) (v2 : Int) (h : zHM) : Option (Int × zHM) := F271_0 zFu v1 0 (mset (mset (mset h 38 0 v2) 39 0 0) 40 0 0)
set_option maxRecDepth 100000 in
theorem S271 {spec : zRn zH2} {hc : zHC} {o : Int → Int} {d : Nat} (hd : 6 ≤ d) (v1 : Int) (v2 : Int) (h : zHM) (v : (Int × zHM)) (e : F271 v1 v2 h = some v) : zRu2 spec d 271 [(22, 0), (0, v1), (0, v2)] (hc, h, o) (some (0, v.1)) (hc, v.2, o) := by
  refine zF_in (D := 5) (mx := 8) (L := [some (22, 0), some (0, v1), some (0, v2), none, none, none, none, none]) (by decide +kernel) rfl rfl hd (fun d hd => ?_)
  unfold F271 at e
  refine zF_blk (m := []) (d := 0) (b := B271_0) (gs := []) (c' := (17, [some (22, 0), some (0, v1), some (0, v2), some (0, 0), none, none, none, none], [], (hc, (mset (mset (mset h 38 0 v2) 39 0 0) 40 0 0), o))) K271_0 rfl trivial ?_
  refine zF_blk (m := [true, true, false, true, false, false, false, false]) (d := 0) (b := []) (gs := []) (c' := (17, [some (22, 0), some (0, v1), none, some (0, 0), none, none, none, none], [], (hc, (mset (mset (mset h 38 0 v2) 39 0 0) 40 0 0), o))) rfl rfl trivial ?_
  exact T271_0 hd zFu v1 0 (mset (mset (mset h 38 0 v2) 39 0 0) 40 0 0) _ e
noncomputable def B270_0 : List zRow := [(0, .aload_n 0, 1, (0, 0, 0)), (1, .iconst 0, 1, (0, 0, 0)), (2, .putfield 81, 3, (12, 0, 0)), (5, .iload_n 1, 1, (0, 0, 0)), (6, .iconst 1, 1, (0, 0, 0)), (7, .bipush 100, 2, (0, 0, 0))]
theorem K270_0 : zRk 270 B270_0 = true := zRw_ok (by decide +kernel)
noncomputable def B270_1 : List zRow := [(24, .iconst (-1), 1, (0, 0, 0))]
theorem K270_1 : zRk 270 B270_1 = true := zRw_ok (by decide +kernel)
noncomputable def B270_2 : List zRow := [(40, .aload_n 0, 1, (0, 0, 0))]
theorem K270_2 : zRk 270 B270_2 = true := zRw_ok (by decide +kernel)
noncomputable def B270_3 : List zRow := [(26, .aload_n 0, 1, (0, 0, 0)), (27, .getfield 13, 3, (12, 14, 5251442)), (30, .sipush 209, 3, (0, 0, 0)), (33, .iaload, 1, (0, 0, 0)), (34, .sipush 400, 3, (0, 0, 0)), (37, .if_icmp .ge 7, 3, (0, 0, 0))]
theorem K270_3 : zRk 270 B270_3 = true := zRw_ok (by decide +kernel)
noncomputable def B270_4 : List zRow := [(15, .aload_n 0, 1, (0, 0, 0)), (16, .getfield 13, 3, (12, 14, 5251442)), (19, .iconst 3, 1, (0, 0, 0)), (20, .iaload, 1, (0, 0, 0)), (21, .ifCond .ne 5, 3, (0, 0, 0))]
theorem K270_4 : zRk 270 B270_4 = true := zRw_ok (by decide +kernel)
noncomputable def B270_5 : List zRow := [(12, .ifCond .eq 12, 3, (0, 0, 0))]
theorem K270_5 : zRk 270 B270_5 = true := zRw_ok (by decide +kernel)
noncomputable def B270_6 : List zRow := [(44, .aload_n 0, 1, (0, 0, 0)), (45, .iload_n 1, 1, (0, 0, 0)), (46, .iload_n 2, 1, (0, 0, 0))]
theorem K270_6 : zRk 270 B270_6 = true := zRw_ok (by decide +kernel)
noncomputable def B270_7 : List zRow := [(50, .istore_n 3, 1, (0, 0, 0)), (51, .aload_n 0, 1, (0, 0, 0)), (52, .getfield 69, 3, (12, 41, 5242890)), (55, .iconst 0, 1, (0, 0, 0)), (56, .aload_n 0, 1, (0, 0, 0)), (57, .getfield 373, 3, (12, 39, 0)), (60, .iastore, 1, (0, 0, 0)), (61, .aload_n 0, 1, (0, 0, 0)), (62, .getfield 69, 3, (12, 41, 5242890)), (65, .iconst 1, 1, (0, 0, 0)), (66, .aload_n 0, 1, (0, 0, 0)), (67, .getfield 376, 3, (12, 40, 0)), (70, .iastore, 1, (0, 0, 0)), (71, .iload_n 3, 1, (0, 0, 0))]
theorem K270_7 : zRk 270 B270_7 = true := zRw_ok (by decide +kernel)
def F270_0 (v1 : Int) (v2 : Int) (h : zHM) : Option (Int × zHM) := (F271 v1 v2 h).bind fun r1 => some (r1.1, (mset (mset r1.2 41 0 (r1.2 39 0)) 41 1 (r1.2 40 0)))
set_option maxRecDepth 100000 in
theorem T270_0 {spec : zRn zH2} {hc : zHC} {o : Int → Int} {d : Nat} (hd : 6 ≤ d) (v1 : Int) (v2 : Int) (h : zHM) (v : (Int × zHM)) (e : F270_0 v1 v2 h = some v) : zFin 0 (fun _ => 0) (zRu2 spec d) 270 (some (0, v.1)) (hc, v.2, o) (44, [some (22, 0), some (0, v1), some (0, v2), none], [], (hc, h, o)) := by
  unfold F270_0 at e
  obtain ⟨r1, q1, e⟩ := zB_s e
  refine zF_blk (m := []) (d := 0) (b := B270_6) (gs := []) (c' := (47, [some (22, 0), some (0, v1), some (0, v2), none], [(0, v2), (0, v1), (22, 0)], (hc, h, o))) K270_6 rfl trivial ?_
  refine zF_call (k := 271) (cl := 12) (n := 3) (i := .invokevirtual 382) (args := [(22, 0), (0, v1), (0, v2)]) (rest := []) (g1 := (hc, r1.2, o)) (r1 := some (0, r1.1)) (zCk1_w (by decide +kernel)) rfl rfl rfl (st' := [(0, r1.1)]) rfl (S271 (Nat.le_trans (by decide) hd) v1 v2 h _ q1) ?_
  refine zF_blk (m := []) (d := 0) (b := B270_7) (gs := [0 ≤ 0 ∧ 0 < 2, 0 ≤ 1 ∧ 1 < 2]) (c' := (72, [some (22, 0), some (0, v1), some (0, v2), some (0, r1.1)], [(0, r1.1)], (hc, (mset (mset r1.2 41 0 (r1.2 39 0)) 41 1 (r1.2 40 0)), o))) K270_7 rfl ⟨by decide, by decide, trivial⟩ ?_
  exact zF_riM (zRe1_w (by decide +kernel)) e
/-- EchoValeModel.drawn(II)I -/
def F270 (v1 : Int) (v2 : Int) (h : zHM) : Option (Int × zHM) := (F188 v1 1 100).bind fun r1 => if r1 = 0 then some ((-1), (mset h 0 0 0)) else if ¬ (h 14 3) = 0 then if 400 ≤ (h 14 209) then F270_0 v1 v2 (mset h 0 0 0) else (F225 (mset h 0 0 0)).bind fun r2 => F270_0 v1 v2 r2 else some ((-1), (mset h 0 0 0))
set_option maxRecDepth 100000 in
theorem S270 {spec : zRn zH2} {hc : zHC} {o : Int → Int} {d : Nat} (hd : 7 ≤ d) (v1 : Int) (v2 : Int) (h : zHM) (v : (Int × zHM)) (e : F270 v1 v2 h = some v) : zRu2 spec d 270 [(22, 0), (0, v1), (0, v2)] (hc, h, o) (some (0, v.1)) (hc, v.2, o) := by
  refine zF_in (D := 6) (mx := 4) (L := [some (22, 0), some (0, v1), some (0, v2), none]) (by decide +kernel) rfl rfl hd (fun d hd => ?_)
  unfold F270 at e
  obtain ⟨r1, q1, e⟩ := zB_s e
  refine zF_blk (m := []) (d := 0) (b := B270_0) (gs := []) (c' := (9, [some (22, 0), some (0, v1), some (0, v2), none], [(0, 100), (0, 1), (0, v1)], (hc, (mset h 0 0 0), o))) K270_0 rfl trivial ?_
  refine zF_call (k := 188) (cl := 12) (n := 3) (i := .invokestatic 151) (args := [(0, v1), (0, 1), (0, 100)]) (rest := []) (g1 := (hc, (mset h 0 0 0), o)) (r1 := some (0, r1)) (zCk1_w (by decide +kernel)) rfl rfl rfl (st' := [(0, r1)]) rfl (S188 (Nat.le_trans (by decide) hd) v1 1 100 (mset h 0 0 0) _ q1) ?_
  rcases zI_s e with ⟨q2, e⟩ | ⟨q2, e⟩
  · refine zF_blk (m := []) (d := 1) (b := B270_5) (gs := [r1 = 0]) (c' := (24, [some (22, 0), some (0, v1), some (0, v2), none], [], (hc, (mset h 0 0 0), o))) K270_5 rfl ⟨q2, trivial⟩ ?_
    refine zF_blk (m := []) (d := 0) (b := B270_1) (gs := []) (c' := (25, [some (22, 0), some (0, v1), some (0, v2), none], [(0, (-1))], (hc, (mset h 0 0 0), o))) K270_1 rfl trivial ?_
    exact zF_riM (zRe1_w (by decide +kernel)) e
  · refine zF_blk (m := []) (d := 0) (b := B270_5) (gs := [¬ (r1 = 0)]) (c' := (15, [some (22, 0), some (0, v1), some (0, v2), none], [], (hc, (mset h 0 0 0), o))) K270_5 rfl ⟨q2, trivial⟩ ?_
    rcases zI_s e with ⟨q3, e⟩ | ⟨q3, e⟩
    · refine zF_blk (m := []) (d := 1) (b := B270_4) (gs := [0 ≤ 3 ∧ 3 < 2140, ¬ (h 14 3) = 0]) (c' := (26, [some (22, 0), some (0, v1), some (0, v2), none], [], (hc, (mset h 0 0 0), o))) K270_4 rfl ⟨by decide, q3, trivial⟩ ?_
      rcases zI_s e with ⟨q4, e⟩ | ⟨q4, e⟩
      · refine zF_blk (m := []) (d := 1) (b := B270_3) (gs := [0 ≤ 209 ∧ 209 < 2140, 400 ≤ (h 14 209)]) (c' := (44, [some (22, 0), some (0, v1), some (0, v2), none], [], (hc, (mset h 0 0 0), o))) K270_3 rfl ⟨by decide, q4, trivial⟩ ?_
        exact T270_0 hd v1 v2 (mset h 0 0 0) _ e
      · refine zF_blk (m := []) (d := 0) (b := B270_3) (gs := [0 ≤ 209 ∧ 209 < 2140, ¬ (400 ≤ (h 14 209))]) (c' := (40, [some (22, 0), some (0, v1), some (0, v2), none], [], (hc, (mset h 0 0 0), o))) K270_3 rfl ⟨by decide, q4, trivial⟩ ?_
        obtain ⟨r2, q5, e⟩ := zB_s e
        refine zF_blk (m := []) (d := 0) (b := B270_2) (gs := []) (c' := (41, [some (22, 0), some (0, v1), some (0, v2), none], [(22, 0)], (hc, (mset h 0 0 0), o))) K270_2 rfl trivial ?_
        refine zF_call (k := 225) (cl := 12) (n := 1) (i := .invokevirtual 308) (args := [(22, 0)]) (rest := []) (g1 := (hc, r2, o)) (r1 := none) (zCk1_w (by decide +kernel)) rfl rfl rfl (st' := []) rfl (S225 (Nat.le_trans (by decide) hd)  (mset h 0 0 0) _ q5) ?_
        exact T270_0 hd v1 v2 r2 _ e
    · refine zF_blk (m := []) (d := 0) (b := B270_4) (gs := [0 ≤ 3 ∧ 3 < 2140, ¬ (¬ (h 14 3) = 0)]) (c' := (24, [some (22, 0), some (0, v1), some (0, v2), none], [], (hc, (mset h 0 0 0), o))) K270_4 rfl ⟨by decide, q3, trivial⟩ ?_
      refine zF_blk (m := []) (d := 0) (b := B270_1) (gs := []) (c' := (25, [some (22, 0), some (0, v1), some (0, v2), none], [(0, (-1))], (hc, (mset h 0 0 0), o))) K270_1 rfl trivial ?_
      exact zF_riM (zRe1_w (by decide +kernel)) e
noncomputable def B137_0 : List zRow := [(28, .aload_n 0, 1, (0, 0, 0)), (29, .getfield 98, 3, (11, 15, 0))]
theorem K137_0 : zRk 137 B137_0 = true := zRw_ok (by decide +kernel)
noncomputable def B137_1 : List zRow := [(0, .iload_n 1, 1, (0, 0, 0)), (1, .lookupswitch 37 #[(0, 27), (1, 32)], 27, (0, 0, 0))]
theorem K137_1 : zRk 137 B137_1 = true := by decide +kernel
noncomputable def B137_2 : List zRow := [(33, .aload_n 0, 1, (0, 0, 0)), (34, .getfield 102, 3, (11, 16, 0))]
theorem K137_2 : zRk 137 B137_2 = true := zRw_ok (by decide +kernel)
noncomputable def B137_3 : List zRow := [(38, .iconst (-1), 1, (0, 0, 0))]
theorem K137_3 : zRk 137 B137_3 = true := zRw_ok (by decide +kernel)
/-- EchoVale.storms(I)I -/
def F137 (v1 : Int) (h : zHC) : Option Int := if v1 = 0 then some (h 719 0 0) else if v1 = 1 then some (h 720 0 0) else some (-1)
set_option maxRecDepth 100000 in
theorem S137 {spec : zRn zH2} {hm : zHM} {o : Int → Int} {d : Nat} (hd : 1 ≤ d) (v1 : Int) (h : zHC) (v : Int) (e : F137 v1 h = some v) : zRu2 spec d 137 [(21, 0), (0, v1)] (h, hm, o) (some (0, v)) (h, hm, o) := by
  refine zF_in (D := 0) (mx := 2) (L := [some (21, 0), some (0, v1)]) (by decide +kernel) rfl rfl hd (fun d hd => ?_)
  unfold F137 at e
  rcases zI_s e with ⟨q1, e⟩ | ⟨q1, e⟩
  · refine zF_blk (m := []) (d := 0) (b := B137_1) (gs := [v1 = 0]) (c' := (28, [some (21, 0), some (0, v1)], [], (h, hm, o))) K137_1 rfl ⟨q1, trivial⟩ ?_
    refine zF_blk (m := []) (d := 0) (b := B137_0) (gs := []) (c' := (32, [some (21, 0), some (0, v1)], [(0, (h 719 0 0))], (h, hm, o))) K137_0 rfl trivial ?_
    obtain rfl := Option.some.inj e
    exact zF_ri (zRe1_w (by decide +kernel))
  rcases zI_s e with ⟨q2, e⟩ | ⟨q2, e⟩
  · refine zF_blk (m := []) (d := 1) (b := B137_1) (gs := [v1 = 1]) (c' := (33, [some (21, 0), some (0, v1)], [], (h, hm, o))) K137_1 rfl ⟨q2, trivial⟩ ?_
    refine zF_blk (m := []) (d := 0) (b := B137_2) (gs := []) (c' := (37, [some (21, 0), some (0, v1)], [(0, (h 720 0 0))], (h, hm, o))) K137_2 rfl trivial ?_
    obtain rfl := Option.some.inj e
    exact zF_ri (zRe1_w (by decide +kernel))
  refine zF_blk (m := []) (d := 2) (b := B137_1) (gs := [¬ v1 = 0, ¬ v1 = 1]) (c' := (38, [some (21, 0), some (0, v1)], [], (h, hm, o))) K137_1 rfl ⟨q1, q2, trivial⟩ ?_
  refine zF_blk (m := []) (d := 0) (b := B137_3) (gs := []) (c' := (39, [some (21, 0), some (0, v1)], [(0, (-1))], (h, hm, o))) K137_3 rfl trivial ?_
  obtain rfl := Option.some.inj e
  exact zF_ri (zRe1_w (by decide +kernel))
noncomputable def B273_0 : List zRow := [(0, .aload_n 0, 1, (0, 0, 0)), (1, .iconst 0, 1, (0, 0, 0)), (2, .putfield 81, 3, (12, 0, 0)), (5, .iload_n 1, 1, (0, 0, 0)), (6, .iconst 0, 1, (0, 0, 0)), (7, .iconst 1, 1, (0, 0, 0))]
theorem K273_0 : zRk 273 B273_0 = true := zRw_ok (by decide +kernel)
noncomputable def B273_1 : List zRow := [(23, .iconst (-1), 1, (0, 0, 0))]
theorem K273_1 : zRk 273 B273_1 = true := zRw_ok (by decide +kernel)
noncomputable def B273_2 : List zRow := [(14, .aload_n 0, 1, (0, 0, 0)), (15, .getfield 69, 3, (12, 41, 5242890)), (18, .iload_n 1, 1, (0, 0, 0)), (19, .iaload, 1, (0, 0, 0)), (20, .goto 4, 3, (0, 0, 0))]
theorem K273_2 : zRk 273 B273_2 = true := zRw_ok (by decide +kernel)
noncomputable def B273_3 : List zRow := [(11, .ifCond .eq 12, 3, (0, 0, 0))]
theorem K273_3 : zRk 273 B273_3 = true := zRw_ok (by decide +kernel)
/-- EchoValeModel.storms(I)I -/
def F273 (v1 : Int) (h : zHM) : Option (Int × zHM) := (F188 v1 0 1).bind fun r1 => if r1 = 0 then some ((-1), (mset h 0 0 0)) else zG (0 ≤ v1 ∧ v1 < 2) (some ((h 41 v1), (mset h 0 0 0)))
set_option maxRecDepth 100000 in
theorem S273 {spec : zRn zH2} {hc : zHC} {o : Int → Int} {d : Nat} (hd : 2 ≤ d) (v1 : Int) (h : zHM) (v : (Int × zHM)) (e : F273 v1 h = some v) : zRu2 spec d 273 [(22, 0), (0, v1)] (hc, h, o) (some (0, v.1)) (hc, v.2, o) := by
  refine zF_in (D := 1) (mx := 2) (L := [some (22, 0), some (0, v1)]) (by decide +kernel) rfl rfl hd (fun d hd => ?_)
  unfold F273 at e
  obtain ⟨r1, q1, e⟩ := zB_s e
  refine zF_blk (m := []) (d := 0) (b := B273_0) (gs := []) (c' := (8, [some (22, 0), some (0, v1)], [(0, 1), (0, 0), (0, v1)], (hc, (mset h 0 0 0), o))) K273_0 rfl trivial ?_
  refine zF_call (k := 188) (cl := 12) (n := 3) (i := .invokestatic 151) (args := [(0, v1), (0, 0), (0, 1)]) (rest := []) (g1 := (hc, (mset h 0 0 0), o)) (r1 := some (0, r1)) (zCk1_w (by decide +kernel)) rfl rfl rfl (st' := [(0, r1)]) rfl (S188 (Nat.le_trans (by decide) hd) v1 0 1 (mset h 0 0 0) _ q1) ?_
  rcases zI_s e with ⟨q2, e⟩ | ⟨q2, e⟩
  · refine zF_blk (m := []) (d := 1) (b := B273_3) (gs := [r1 = 0]) (c' := (23, [some (22, 0), some (0, v1)], [], (hc, (mset h 0 0 0), o))) K273_3 rfl ⟨q2, trivial⟩ ?_
    refine zF_blk (m := []) (d := 0) (b := B273_1) (gs := []) (c' := (24, [some (22, 0), some (0, v1)], [(0, (-1))], (hc, (mset h 0 0 0), o))) K273_1 rfl trivial ?_
    exact zF_riM (zRe1_w (by decide +kernel)) e
  · refine zF_blk (m := []) (d := 0) (b := B273_3) (gs := [¬ (r1 = 0)]) (c' := (14, [some (22, 0), some (0, v1)], [], (hc, (mset h 0 0 0), o))) K273_3 rfl ⟨q2, trivial⟩ ?_
    obtain ⟨q3, e⟩ := zG_s e
    refine zF_blk (m := []) (d := 0) (b := B273_2) (gs := [0 ≤ v1 ∧ v1 < 2]) (c' := (24, [some (22, 0), some (0, v1)], [(0, (h 41 v1))], (hc, (mset h 0 0 0), o))) K273_2 rfl ⟨q3, trivial⟩ ?_
    exact zF_riM (zRe1_w (by decide +kernel)) e
noncomputable def B138_0 : List zRow := [(0, .aload_n 0, 1, (0, 0, 0)), (1, .iload_n 1, 1, (0, 0, 0))]
theorem K138_0 : zRk 138 B138_0 = true := zRw_ok (by decide +kernel)
noncomputable def B138_1 : List zRow := [(19, .iconst (-1), 1, (0, 0, 0))]
theorem K138_1 : zRk 138 B138_1 = true := zRw_ok (by decide +kernel)
noncomputable def B138_2 : List zRow := [(21, .aload_n 0, 1, (0, 0, 0)), (22, .getfield 56, 3, (11, 6, 7)), (25, .iload_n 1, 1, (0, 0, 0))]
theorem K138_2 : zRk 138 B138_2 = true := zRw_ok (by decide +kernel)
noncomputable def B138_3 : List zRow := [(29, .istore 4, 2, (0, 0, 0)), (31, .iconst 0, 1, (0, 0, 0)), (32, .istore 5, 2, (0, 0, 0)), (34, .iconst 0, 1, (0, 0, 0)), (35, .istore 6, 2, (0, 0, 0))]
theorem K138_3 : zRk 138 B138_3 = true := zRw_ok (by decide +kernel)
noncomputable def B138_4 : List zRow := [(13, .iload_n 2, 1, (0, 0, 0)), (14, .bipush 40, 2, (0, 0, 0)), (16, .if_icmp .le 5, 3, (0, 0, 0))]
theorem K138_4 : zRk 138 B138_4 = true := zRw_ok (by decide +kernel)
noncomputable def B138_5 : List zRow := [(8, .iload_n 2, 1, (0, 0, 0)), (9, .iconst 1, 1, (0, 0, 0)), (10, .if_icmp .lt 9, 3, (0, 0, 0))]
theorem K138_5 : zRk 138 B138_5 = true := zRw_ok (by decide +kernel)
noncomputable def B138_6 : List zRow := [(5, .ifCond .eq 14, 3, (0, 0, 0))]
theorem K138_6 : zRk 138 B138_6 = true := zRw_ok (by decide +kernel)
noncomputable def B138_7 : List zRow := [(98, .iload 5, 2, (0, 0, 0))]
theorem K138_7 : zRk 138 B138_7 = true := zRw_ok (by decide +kernel)
noncomputable def B138_8 : List zRow := [(43, .aload_n 0, 1, (0, 0, 0)), (44, .getfield 60, 3, (11, 7, 135)), (47, .aload_n 0, 1, (0, 0, 0)), (48, .getfield 56, 3, (11, 6, 7))]
theorem K138_8 : zRk 138 B138_8 = true := zRw_ok (by decide +kernel)
noncomputable def B138_9 : List zRow := [(54, .aload_n 0, 1, (0, 0, 0)), (55, .getfield 87, 3, (11, 11, 11)), (58, .aload_n 0, 1, (0, 0, 0)), (59, .getfield 19, 3, (11, 1, 39)), (62, .aload_n 0, 1, (0, 0, 0)), (63, .getfield 60, 3, (11, 7, 135)), (66, .bipush 40, 2, (0, 0, 0)), (68, .iload_n 3, 1, (0, 0, 0)), (69, .iload 6, 2, (0, 0, 0)), (71, .iadd, 1, (0, 0, 0))]
theorem K138_9 : zRk 138 B138_9 = true := zRw_ok (by decide +kernel)
noncomputable def B138_10 : List zRow := [(75, .pop, 1, (0, 0, 0)), (76, .aload_n 0, 1, (0, 0, 0)), (77, .getfield 60, 3, (11, 7, 135)), (80, .iload_n 1, 1, (0, 0, 0))]
theorem K138_10 : zRk 138 B138_10 = true := zRw_ok (by decide +kernel)
noncomputable def B138_11 : List zRow := [(89, .iinc 5 1, 3, (0, 0, 0))]
theorem K138_11 : zRk 138 B138_11 = true := zRw_ok (by decide +kernel)
noncomputable def B138_12 : List zRow := [(84, .iload 4, 2, (0, 0, 0)), (86, .if_icmp .le 6, 3, (0, 0, 0))]
theorem K138_12 : zRk 138 B138_12 = true := zRw_ok (by decide +kernel)
noncomputable def B138_13 : List zRow := [(37, .iload 6, 2, (0, 0, 0)), (39, .iload_n 2, 1, (0, 0, 0)), (40, .if_icmp .ge 58, 3, (0, 0, 0))]
theorem K138_13 : zRk 138 B138_13 = true := zRw_ok (by decide +kernel)
noncomputable def B138_14 : List zRow := [(92, .iinc 6 1, 3, (0, 0, 0)), (95, .goto (-58), 3, (0, 0, 0))]
theorem K138_14 : zRk 138 B138_14 = true := zRw_ok (by decide +kernel)
def F138_1 (k0 : Int → Int → Int → Int → Int → Int → zHC → Option (Int × zHC)) (v1 : Int) (v2 : Int) (v3 : Int) (v4 : Int) (v5 : Int) (v6 : Int) (h : zHC) : Option (Int × zHC) := k0 v1 v2 v3 v4 v5 (wadd v6 1) h
set_option maxRecDepth 100000 in
theorem T138_1 {spec : zRn zH2} {hm : zHM} {o : Int → Int} {d : Nat} (hd : 6 ≤ d) (k0 : Int → Int → Int → Int → Int → Int → zHC → Option (Int × zHC)) (hk0 : ∀ (v1 : Int) (v2 : Int) (v3 : Int) (v4 : Int) (v5 : Int) (v6 : Int) (h : zHC) (v : (Int × zHC)), k0 v1 v2 v3 v4 v5 v6 h = some v → zFin 0 (fun _ => 0) (zRu2 spec d) 138 (some (0, v.1)) (v.2, hm, o) (37, [some (21, 0), some (0, v1), some (0, v2), some (0, v3), some (0, v4), some (0, v5), some (0, v6)], [], (h, hm, o))) (v1 : Int) (v2 : Int) (v3 : Int) (v4 : Int) (v5 : Int) (v6 : Int) (h : zHC) (v : (Int × zHC)) (e : F138_1 k0 v1 v2 v3 v4 v5 v6 h = some v) : zFin 0 (fun _ => 0) (zRu2 spec d) 138 (some (0, v.1)) (v.2, hm, o) (92, [some (21, 0), some (0, v1), some (0, v2), some (0, v3), some (0, v4), some (0, v5), some (0, v6)], [], (h, hm, o)) := by
  unfold F138_1 at e
  refine zF_blk (m := []) (d := 0) (b := B138_14) (gs := []) (c' := (37, [some (21, 0), some (0, v1), some (0, v2), some (0, v3), some (0, v4), some (0, v5), some (0, (wadd v6 1))], [], (h, hm, o))) K138_14 rfl trivial ?_
  exact hk0 v1 v2 v3 v4 v5 (wadd v6 1) h _ e
def F138_0 : Nat → Int → Int → Int → Int → Int → Int → zHC → Option (Int × zHC)
  | 0, _, _, _, _, _, _, _ => none
  | n + 1, v1, v2, v3, v4, v5, v6, h => if v2 ≤ v6 then some (v5, h) else (F71 1 0 h).bind fun r1 => (F134 0 1 40 (wadd v3 v6) r1).bind fun r2 => (F101 1 v1 r2.2).bind fun r3 => if r3 ≤ v4 then F138_1 (F138_0 n) v1 v2 v3 v4 v5 v6 r2.2 else F138_1 (F138_0 n) v1 v2 v3 v4 (wadd v5 1) v6 r2.2
set_option maxRecDepth 100000 in
theorem T138_0 {spec : zRn zH2} {hm : zHM} {o : Int → Int} {d : Nat} (hd : 6 ≤ d) : ∀ (n : Nat) (v1 : Int) (v2 : Int) (v3 : Int) (v4 : Int) (v5 : Int) (v6 : Int) (h : zHC) (v : (Int × zHC)), F138_0 n v1 v2 v3 v4 v5 v6 h = some v → zFin 0 (fun _ => 0) (zRu2 spec d) 138 (some (0, v.1)) (v.2, hm, o) (37, [some (21, 0), some (0, v1), some (0, v2), some (0, v3), some (0, v4), some (0, v5), some (0, v6)], [], (h, hm, o)) := by
  intro n
  induction n with
  | zero => intro v1 v2 v3 v4 v5 v6 h v e; unfold F138_0 at e; cases e
  | succ n hk0 =>
    intro v1 v2 v3 v4 v5 v6 h v e
    unfold F138_0 at e
    rcases zI_s e with ⟨q1, e⟩ | ⟨q1, e⟩
    · refine zF_blk (m := []) (d := 1) (b := B138_13) (gs := [v2 ≤ v6]) (c' := (98, [some (21, 0), some (0, v1), some (0, v2), some (0, v3), some (0, v4), some (0, v5), some (0, v6)], [], (h, hm, o))) K138_13 rfl ⟨q1, trivial⟩ ?_
      refine zF_blk (m := []) (d := 0) (b := B138_7) (gs := []) (c' := (100, [some (21, 0), some (0, v1), some (0, v2), some (0, v3), some (0, v4), some (0, v5), some (0, v6)], [(0, v5)], (h, hm, o))) K138_7 rfl trivial ?_
      exact zF_riC (zRe1_w (by decide +kernel)) e
    · refine zF_blk (m := []) (d := 0) (b := B138_13) (gs := [¬ (v2 ≤ v6)]) (c' := (43, [some (21, 0), some (0, v1), some (0, v2), some (0, v3), some (0, v4), some (0, v5), some (0, v6)], [], (h, hm, o))) K138_13 rfl ⟨q1, trivial⟩ ?_
      obtain ⟨r1, q2, e⟩ := zB_s e
      refine zF_blk (m := []) (d := 0) (b := B138_8) (gs := []) (c' := (51, [some (21, 0), some (0, v1), some (0, v2), some (0, v3), some (0, v4), some (0, v5), some (0, v6)], [(11, 0), (11, 1)], (h, hm, o))) K138_8 rfl trivial ?_
      refine zF_call (k := 71) (cl := 1) (n := 2) (i := .invokevirtual 266) (args := [(11, 1), (11, 0)]) (rest := []) (g1 := (r1, hm, o)) (r1 := none) (zCk1_w (by decide +kernel)) rfl rfl rfl (st' := []) rfl (S71 (Nat.le_trans (by decide) hd) 1 0 h _ q2) ?_
      obtain ⟨r2, q3, e⟩ := zB_s e
      refine zF_blk (m := []) (d := 0) (b := B138_9) (gs := []) (c' := (72, [some (21, 0), some (0, v1), some (0, v2), some (0, v3), some (0, v4), some (0, v5), some (0, v6)], [(0, (wadd v3 v6)), (0, 40), (11, 1), (19, 0), (12, 0)], (r1, hm, o))) K138_9 rfl trivial ?_
      refine zF_call (k := 134) (cl := 2) (n := 5) (i := .invokevirtual 314) (args := [(12, 0), (19, 0), (11, 1), (0, 40), (0, (wadd v3 v6))]) (rest := []) (g1 := (r2.2, hm, o)) (r1 := some (0, r2.1)) (zCk1_w (by decide +kernel)) rfl rfl rfl (st' := [(0, r2.1)]) rfl (S134 (Nat.le_trans (by decide) hd) 0 1 40 (wadd v3 v6) r1 _ q3) ?_
      obtain ⟨r3, q4, e⟩ := zB_s e
      refine zF_blk (m := []) (d := 0) (b := B138_10) (gs := []) (c' := (81, [some (21, 0), some (0, v1), some (0, v2), some (0, v3), some (0, v4), some (0, v5), some (0, v6)], [(0, v1), (11, 1)], (r2.2, hm, o))) K138_10 rfl trivial ?_
      refine zF_call (k := 101) (cl := 1) (n := 2) (i := .invokevirtual 179) (args := [(11, 1), (0, v1)]) (rest := []) (g1 := (r2.2, hm, o)) (r1 := some (0, r3)) (zCk1_w (by decide +kernel)) rfl rfl rfl (st' := [(0, r3)]) rfl (S101 (Nat.le_trans (by decide) hd) 1 v1 r2.2 _ q4) ?_
      rcases zI_s e with ⟨q5, e⟩ | ⟨q5, e⟩
      · refine zF_blk (m := []) (d := 1) (b := B138_12) (gs := [r3 ≤ v4]) (c' := (92, [some (21, 0), some (0, v1), some (0, v2), some (0, v3), some (0, v4), some (0, v5), some (0, v6)], [], (r2.2, hm, o))) K138_12 rfl ⟨q5, trivial⟩ ?_
        exact T138_1 hd (F138_0 n) hk0 v1 v2 v3 v4 v5 v6 r2.2 _ e
      · refine zF_blk (m := []) (d := 0) (b := B138_12) (gs := [¬ (r3 ≤ v4)]) (c' := (89, [some (21, 0), some (0, v1), some (0, v2), some (0, v3), some (0, v4), some (0, v5), some (0, v6)], [], (r2.2, hm, o))) K138_12 rfl ⟨q5, trivial⟩ ?_
        refine zF_blk (m := []) (d := 0) (b := B138_11) (gs := []) (c' := (92, [some (21, 0), some (0, v1), some (0, v2), some (0, v3), some (0, v4), some (0, (wadd v5 1)), some (0, v6)], [], (r2.2, hm, o))) K138_11 rfl trivial ?_
        exact T138_1 hd (F138_0 n) hk0 v1 v2 v3 v4 (wadd v5 1) v6 r2.2 _ e
/-- EchoVale.odds(III)I -/
def F138 (v1 : Int) (v2 : Int) (v3 : Int) (h : zHC) : Option (Int × zHC) := (F61 v1 h).bind fun r1 => if r1 = 0 then some ((-1), h) else if v2 < 1 then some ((-1), h) else if v2 ≤ 40 then (F101 0 v1 h).bind fun r2 => F138_0 zFu v1 v2 v3 r2 0 0 h else some ((-1), h)
set_option maxRecDepth 100000 in
theorem S138 {spec : zRn zH2} {hm : zHM} {o : Int → Int} {d : Nat} (hd : 7 ≤ d) (v1 : Int) (v2 : Int) (v3 : Int) (h : zHC) (v : (Int × zHC)) (e : F138 v1 v2 v3 h = some v) : zRu2 spec d 138 [(21, 0), (0, v1), (0, v2), (0, v3)] (h, hm, o) (some (0, v.1)) (v.2, hm, o) := by
  refine zF_in (D := 6) (mx := 7) (L := [some (21, 0), some (0, v1), some (0, v2), some (0, v3), none, none, none]) (by decide +kernel) rfl rfl hd (fun d hd => ?_)
  unfold F138 at e
  obtain ⟨r1, q1, e⟩ := zB_s e
  refine zF_blk (m := []) (d := 0) (b := B138_0) (gs := []) (c' := (2, [some (21, 0), some (0, v1), some (0, v2), some (0, v3), none, none, none], [(0, v1), (21, 0)], (h, hm, o))) K138_0 rfl trivial ?_
  refine zF_call (k := 61) (cl := 11) (n := 2) (i := .invokevirtual 172) (args := [(21, 0), (0, v1)]) (rest := []) (g1 := (h, hm, o)) (r1 := some (0, r1)) (zCk1_w (by decide +kernel)) rfl rfl rfl (st' := [(0, r1)]) rfl (S61 (Nat.le_trans (by decide) hd) v1 h _ q1) ?_
  rcases zI_s e with ⟨q2, e⟩ | ⟨q2, e⟩
  · refine zF_blk (m := []) (d := 1) (b := B138_6) (gs := [r1 = 0]) (c' := (19, [some (21, 0), some (0, v1), some (0, v2), some (0, v3), none, none, none], [], (h, hm, o))) K138_6 rfl ⟨q2, trivial⟩ ?_
    refine zF_blk (m := []) (d := 0) (b := B138_1) (gs := []) (c' := (20, [some (21, 0), some (0, v1), some (0, v2), some (0, v3), none, none, none], [(0, (-1))], (h, hm, o))) K138_1 rfl trivial ?_
    exact zF_riC (zRe1_w (by decide +kernel)) e
  · refine zF_blk (m := []) (d := 0) (b := B138_6) (gs := [¬ (r1 = 0)]) (c' := (8, [some (21, 0), some (0, v1), some (0, v2), some (0, v3), none, none, none], [], (h, hm, o))) K138_6 rfl ⟨q2, trivial⟩ ?_
    rcases zI_s e with ⟨q3, e⟩ | ⟨q3, e⟩
    · refine zF_blk (m := []) (d := 1) (b := B138_5) (gs := [v2 < 1]) (c' := (19, [some (21, 0), some (0, v1), some (0, v2), some (0, v3), none, none, none], [], (h, hm, o))) K138_5 rfl ⟨q3, trivial⟩ ?_
      refine zF_blk (m := []) (d := 0) (b := B138_1) (gs := []) (c' := (20, [some (21, 0), some (0, v1), some (0, v2), some (0, v3), none, none, none], [(0, (-1))], (h, hm, o))) K138_1 rfl trivial ?_
      exact zF_riC (zRe1_w (by decide +kernel)) e
    · refine zF_blk (m := []) (d := 0) (b := B138_5) (gs := [¬ (v2 < 1)]) (c' := (13, [some (21, 0), some (0, v1), some (0, v2), some (0, v3), none, none, none], [], (h, hm, o))) K138_5 rfl ⟨q3, trivial⟩ ?_
      rcases zI_s e with ⟨q4, e⟩ | ⟨q4, e⟩
      · refine zF_blk (m := []) (d := 1) (b := B138_4) (gs := [v2 ≤ 40]) (c' := (21, [some (21, 0), some (0, v1), some (0, v2), some (0, v3), none, none, none], [], (h, hm, o))) K138_4 rfl ⟨q4, trivial⟩ ?_
        obtain ⟨r2, q5, e⟩ := zB_s e
        refine zF_blk (m := []) (d := 0) (b := B138_2) (gs := []) (c' := (26, [some (21, 0), some (0, v1), some (0, v2), some (0, v3), none, none, none], [(0, v1), (11, 0)], (h, hm, o))) K138_2 rfl trivial ?_
        refine zF_call (k := 101) (cl := 1) (n := 2) (i := .invokevirtual 179) (args := [(11, 0), (0, v1)]) (rest := []) (g1 := (h, hm, o)) (r1 := some (0, r2)) (zCk1_w (by decide +kernel)) rfl rfl rfl (st' := [(0, r2)]) rfl (S101 (Nat.le_trans (by decide) hd) 0 v1 h _ q5) ?_
        refine zF_blk (m := []) (d := 0) (b := B138_3) (gs := []) (c' := (37, [some (21, 0), some (0, v1), some (0, v2), some (0, v3), some (0, r2), some (0, 0), some (0, 0)], [], (h, hm, o))) K138_3 rfl trivial ?_
        exact T138_0 hd zFu v1 v2 v3 r2 0 0 h _ e
      · refine zF_blk (m := []) (d := 0) (b := B138_4) (gs := [¬ (v2 ≤ 40)]) (c' := (19, [some (21, 0), some (0, v1), some (0, v2), some (0, v3), none, none, none], [], (h, hm, o))) K138_4 rfl ⟨q4, trivial⟩ ?_
        refine zF_blk (m := []) (d := 0) (b := B138_1) (gs := []) (c' := (20, [some (21, 0), some (0, v1), some (0, v2), some (0, v3), none, none, none], [(0, (-1))], (h, hm, o))) K138_1 rfl trivial ?_
        exact zF_riC (zRe1_w (by decide +kernel)) e
noncomputable def B274_0 : List zRow := [(0, .aload_n 0, 1, (0, 0, 0)), (1, .iconst 0, 1, (0, 0, 0)), (2, .putfield 81, 3, (12, 0, 0)), (5, .aload_n 0, 1, (0, 0, 0)), (6, .iload_n 1, 1, (0, 0, 0))]
theorem K274_0 : zRk 274 B274_0 = true := zRw_ok (by decide +kernel)
noncomputable def B274_1 : List zRow := [(23, .iconst (-1), 1, (0, 0, 0))]
theorem K274_1 : zRk 274 B274_1 = true := zRw_ok (by decide +kernel)
noncomputable def B274_2 : List zRow := [(13, .iload_n 2, 1, (0, 0, 0)), (14, .iconst 1, 1, (0, 0, 0)), (15, .bipush 40, 2, (0, 0, 0))]
theorem K274_2 : zRk 274 B274_2 = true := zRw_ok (by decide +kernel)
noncomputable def B274_3 : List zRow := [(25, .aload_n 0, 1, (0, 0, 0)), (26, .iload_n 1, 1, (0, 0, 0))]
theorem K274_3 : zRk 274 B274_3 = true := zRw_ok (by decide +kernel)
noncomputable def B274_4 : List zRow := [(30, .istore 4, 2, (0, 0, 0)), (32, .iconst 0, 1, (0, 0, 0)), (33, .istore 5, 2, (0, 0, 0)), (35, .iconst 0, 1, (0, 0, 0)), (36, .istore 6, 2, (0, 0, 0))]
theorem K274_4 : zRk 274 B274_4 = true := zRw_ok (by decide +kernel)
noncomputable def B274_5 : List zRow := [(20, .ifCond .ne 5, 3, (0, 0, 0))]
theorem K274_5 : zRk 274 B274_5 = true := zRw_ok (by decide +kernel)
noncomputable def B274_6 : List zRow := [(10, .ifCond .eq 13, 3, (0, 0, 0))]
theorem K274_6 : zRk 274 B274_6 = true := zRw_ok (by decide +kernel)
noncomputable def B274_7 : List zRow := [(82, .iload 5, 2, (0, 0, 0))]
theorem K274_7 : zRk 274 B274_7 = true := zRw_ok (by decide +kernel)
noncomputable def B274_8 : List zRow := [(44, .aload_n 0, 1, (0, 0, 0))]
theorem K274_8 : zRk 274 B274_8 = true := zRw_ok (by decide +kernel)
noncomputable def B274_9 : List zRow := [(48, .aload_n 0, 1, (0, 0, 0)), (49, .bipush 40, 2, (0, 0, 0)), (51, .iload_n 3, 1, (0, 0, 0)), (52, .iload 6, 2, (0, 0, 0)), (54, .iadd, 1, (0, 0, 0))]
theorem K274_9 : zRk 274 B274_9 = true := zRw_ok (by decide +kernel)
noncomputable def B274_10 : List zRow := [(58, .pop, 1, (0, 0, 0)), (59, .aload_n 0, 1, (0, 0, 0)), (60, .iload_n 1, 1, (0, 0, 0))]
theorem K274_10 : zRk 274 B274_10 = true := zRw_ok (by decide +kernel)
noncomputable def B274_11 : List zRow := [(69, .iinc 5 1, 3, (0, 0, 0))]
theorem K274_11 : zRk 274 B274_11 = true := zRw_ok (by decide +kernel)
noncomputable def B274_12 : List zRow := [(64, .iload 4, 2, (0, 0, 0)), (66, .if_icmp .le 6, 3, (0, 0, 0))]
theorem K274_12 : zRk 274 B274_12 = true := zRw_ok (by decide +kernel)
noncomputable def B274_13 : List zRow := [(38, .iload 6, 2, (0, 0, 0)), (40, .iload_n 2, 1, (0, 0, 0)), (41, .if_icmp .ge 41, 3, (0, 0, 0))]
theorem K274_13 : zRk 274 B274_13 = true := zRw_ok (by decide +kernel)
noncomputable def B274_14 : List zRow := [(72, .aload_n 0, 1, (0, 0, 0))]
theorem K274_14 : zRk 274 B274_14 = true := zRw_ok (by decide +kernel)
noncomputable def B274_15 : List zRow := [(76, .iinc 6 1, 3, (0, 0, 0)), (79, .goto (-41), 3, (0, 0, 0))]
theorem K274_15 : zRk 274 B274_15 = true := zRw_ok (by decide +kernel)
def F274_1 (k0 : Int → Int → Int → Int → Int → Int → zHM → Option (Int × zHM)) (v1 : Int) (v2 : Int) (v3 : Int) (v4 : Int) (v5 : Int) (v6 : Int) (h : zHM) : Option (Int × zHM) := (F245 h).bind fun r1 => k0 v1 v2 v3 v4 v5 (wadd v6 1) r1
set_option maxRecDepth 100000 in
theorem T274_1 {spec : zRn zH2} {hc : zHC} {o : Int → Int} {d : Nat} (hd : 6 ≤ d) (k0 : Int → Int → Int → Int → Int → Int → zHM → Option (Int × zHM)) (hk0 : ∀ (v1 : Int) (v2 : Int) (v3 : Int) (v4 : Int) (v5 : Int) (v6 : Int) (h : zHM) (v : (Int × zHM)), k0 v1 v2 v3 v4 v5 v6 h = some v → zFin 0 (fun _ => 0) (zRu2 spec d) 274 (some (0, v.1)) (hc, v.2, o) (38, [some (22, 0), some (0, v1), some (0, v2), some (0, v3), some (0, v4), some (0, v5), some (0, v6)], [], (hc, h, o))) (v1 : Int) (v2 : Int) (v3 : Int) (v4 : Int) (v5 : Int) (v6 : Int) (h : zHM) (v : (Int × zHM)) (e : F274_1 k0 v1 v2 v3 v4 v5 v6 h = some v) : zFin 0 (fun _ => 0) (zRu2 spec d) 274 (some (0, v.1)) (hc, v.2, o) (72, [some (22, 0), some (0, v1), some (0, v2), some (0, v3), some (0, v4), some (0, v5), some (0, v6)], [], (hc, h, o)) := by
  unfold F274_1 at e
  obtain ⟨r1, q1, e⟩ := zB_s e
  refine zF_blk (m := []) (d := 0) (b := B274_14) (gs := []) (c' := (73, [some (22, 0), some (0, v1), some (0, v2), some (0, v3), some (0, v4), some (0, v5), some (0, v6)], [(22, 0)], (hc, h, o))) K274_14 rfl trivial ?_
  refine zF_call (k := 245) (cl := 12) (n := 1) (i := .invokevirtual 320) (args := [(22, 0)]) (rest := []) (g1 := (hc, r1, o)) (r1 := none) (zCk1_w (by decide +kernel)) rfl rfl rfl (st' := []) rfl (S245 (Nat.le_trans (by decide) hd)  h _ q1) ?_
  refine zF_blk (m := []) (d := 0) (b := B274_15) (gs := []) (c' := (38, [some (22, 0), some (0, v1), some (0, v2), some (0, v3), some (0, v4), some (0, v5), some (0, (wadd v6 1))], [], (hc, r1, o))) K274_15 rfl trivial ?_
  exact hk0 v1 v2 v3 v4 v5 (wadd v6 1) r1 _ e
def F274_0 : Nat → Int → Int → Int → Int → Int → Int → zHM → Option (Int × zHM)
  | 0, _, _, _, _, _, _, _ => none
  | n + 1, v1, v2, v3, v4, v5, v6, h => if v2 ≤ v6 then some (v5, h) else (F244 h).bind fun r1 => (F271 40 (wadd v3 v6) r1).bind fun r2 => (F211 v1 r2.2).bind fun r3 => if r3 ≤ v4 then F274_1 (F274_0 n) v1 v2 v3 v4 v5 v6 r2.2 else F274_1 (F274_0 n) v1 v2 v3 v4 (wadd v5 1) v6 r2.2
set_option maxRecDepth 100000 in
theorem T274_0 {spec : zRn zH2} {hc : zHC} {o : Int → Int} {d : Nat} (hd : 6 ≤ d) : ∀ (n : Nat) (v1 : Int) (v2 : Int) (v3 : Int) (v4 : Int) (v5 : Int) (v6 : Int) (h : zHM) (v : (Int × zHM)), F274_0 n v1 v2 v3 v4 v5 v6 h = some v → zFin 0 (fun _ => 0) (zRu2 spec d) 274 (some (0, v.1)) (hc, v.2, o) (38, [some (22, 0), some (0, v1), some (0, v2), some (0, v3), some (0, v4), some (0, v5), some (0, v6)], [], (hc, h, o)) := by
  intro n
  induction n with
  | zero => intro v1 v2 v3 v4 v5 v6 h v e; unfold F274_0 at e; cases e
  | succ n hk0 =>
    intro v1 v2 v3 v4 v5 v6 h v e
    unfold F274_0 at e
    rcases zI_s e with ⟨q1, e⟩ | ⟨q1, e⟩
    · refine zF_blk (m := []) (d := 1) (b := B274_13) (gs := [v2 ≤ v6]) (c' := (82, [some (22, 0), some (0, v1), some (0, v2), some (0, v3), some (0, v4), some (0, v5), some (0, v6)], [], (hc, h, o))) K274_13 rfl ⟨q1, trivial⟩ ?_
      refine zF_blk (m := []) (d := 0) (b := B274_7) (gs := []) (c' := (84, [some (22, 0), some (0, v1), some (0, v2), some (0, v3), some (0, v4), some (0, v5), some (0, v6)], [(0, v5)], (hc, h, o))) K274_7 rfl trivial ?_
      exact zF_riM (zRe1_w (by decide +kernel)) e
    · refine zF_blk (m := []) (d := 0) (b := B274_13) (gs := [¬ (v2 ≤ v6)]) (c' := (44, [some (22, 0), some (0, v1), some (0, v2), some (0, v3), some (0, v4), some (0, v5), some (0, v6)], [], (hc, h, o))) K274_13 rfl ⟨q1, trivial⟩ ?_
      obtain ⟨r1, q2, e⟩ := zB_s e
      refine zF_blk (m := []) (d := 0) (b := B274_8) (gs := []) (c' := (45, [some (22, 0), some (0, v1), some (0, v2), some (0, v3), some (0, v4), some (0, v5), some (0, v6)], [(22, 0)], (hc, h, o))) K274_8 rfl trivial ?_
      refine zF_call (k := 244) (cl := 12) (n := 1) (i := .invokevirtual 317) (args := [(22, 0)]) (rest := []) (g1 := (hc, r1, o)) (r1 := none) (zCk1_w (by decide +kernel)) rfl rfl rfl (st' := []) rfl (S244 (Nat.le_trans (by decide) hd)  h _ q2) ?_
      obtain ⟨r2, q3, e⟩ := zB_s e
      refine zF_blk (m := []) (d := 0) (b := B274_9) (gs := []) (c' := (55, [some (22, 0), some (0, v1), some (0, v2), some (0, v3), some (0, v4), some (0, v5), some (0, v6)], [(0, (wadd v3 v6)), (0, 40), (22, 0)], (hc, r1, o))) K274_9 rfl trivial ?_
      refine zF_call (k := 271) (cl := 12) (n := 3) (i := .invokevirtual 382) (args := [(22, 0), (0, 40), (0, (wadd v3 v6))]) (rest := []) (g1 := (hc, r2.2, o)) (r1 := some (0, r2.1)) (zCk1_w (by decide +kernel)) rfl rfl rfl (st' := [(0, r2.1)]) rfl (S271 (Nat.le_trans (by decide) hd) 40 (wadd v3 v6) r1 _ q3) ?_
      obtain ⟨r3, q4, e⟩ := zB_s e
      refine zF_blk (m := []) (d := 0) (b := B274_10) (gs := []) (c' := (61, [some (22, 0), some (0, v1), some (0, v2), some (0, v3), some (0, v4), some (0, v5), some (0, v6)], [(0, v1), (22, 0)], (hc, r2.2, o))) K274_10 rfl trivial ?_
      refine zF_call (k := 211) (cl := 12) (n := 2) (i := .invokevirtual 263) (args := [(22, 0), (0, v1)]) (rest := []) (g1 := (hc, r2.2, o)) (r1 := some (0, r3)) (zCk1_w (by decide +kernel)) rfl rfl rfl (st' := [(0, r3)]) rfl (S211 (Nat.le_trans (by decide) hd) v1 r2.2 _ q4) ?_
      rcases zI_s e with ⟨q5, e⟩ | ⟨q5, e⟩
      · refine zF_blk (m := []) (d := 1) (b := B274_12) (gs := [r3 ≤ v4]) (c' := (72, [some (22, 0), some (0, v1), some (0, v2), some (0, v3), some (0, v4), some (0, v5), some (0, v6)], [], (hc, r2.2, o))) K274_12 rfl ⟨q5, trivial⟩ ?_
        exact T274_1 hd (F274_0 n) hk0 v1 v2 v3 v4 v5 v6 r2.2 _ e
      · refine zF_blk (m := []) (d := 0) (b := B274_12) (gs := [¬ (r3 ≤ v4)]) (c' := (69, [some (22, 0), some (0, v1), some (0, v2), some (0, v3), some (0, v4), some (0, v5), some (0, v6)], [], (hc, r2.2, o))) K274_12 rfl ⟨q5, trivial⟩ ?_
        refine zF_blk (m := []) (d := 0) (b := B274_11) (gs := []) (c' := (72, [some (22, 0), some (0, v1), some (0, v2), some (0, v3), some (0, v4), some (0, (wadd v5 1)), some (0, v6)], [], (hc, r2.2, o))) K274_11 rfl trivial ?_
        exact T274_1 hd (F274_0 n) hk0 v1 v2 v3 v4 (wadd v5 1) v6 r2.2 _ e
/-- EchoValeModel.odds(III)I -/
def F274 (v1 : Int) (v2 : Int) (v3 : Int) (h : zHM) : Option (Int × zHM) := (F210 v1 (mset h 0 0 0)).bind fun r1 => if r1 = 0 then some ((-1), (mset h 0 0 0)) else (F188 v2 1 40).bind fun r2 => if ¬ r2 = 0 then (F211 v1 (mset h 0 0 0)).bind fun r3 => F274_0 zFu v1 v2 v3 r3 0 0 (mset h 0 0 0) else some ((-1), (mset h 0 0 0))
set_option maxRecDepth 100000 in
theorem S274 {spec : zRn zH2} {hc : zHC} {o : Int → Int} {d : Nat} (hd : 7 ≤ d) (v1 : Int) (v2 : Int) (v3 : Int) (h : zHM) (v : (Int × zHM)) (e : F274 v1 v2 v3 h = some v) : zRu2 spec d 274 [(22, 0), (0, v1), (0, v2), (0, v3)] (hc, h, o) (some (0, v.1)) (hc, v.2, o) := by
  refine zF_in (D := 6) (mx := 7) (L := [some (22, 0), some (0, v1), some (0, v2), some (0, v3), none, none, none]) (by decide +kernel) rfl rfl hd (fun d hd => ?_)
  unfold F274 at e
  obtain ⟨r1, q1, e⟩ := zB_s e
  refine zF_blk (m := []) (d := 0) (b := B274_0) (gs := []) (c' := (7, [some (22, 0), some (0, v1), some (0, v2), some (0, v3), none, none, none], [(0, v1), (22, 0)], (hc, (mset h 0 0 0), o))) K274_0 rfl trivial ?_
  refine zF_call (k := 210) (cl := 12) (n := 2) (i := .invokevirtual 260) (args := [(22, 0), (0, v1)]) (rest := []) (g1 := (hc, (mset h 0 0 0), o)) (r1 := some (0, r1)) (zCk1_w (by decide +kernel)) rfl rfl rfl (st' := [(0, r1)]) rfl (S210 (Nat.le_trans (by decide) hd) v1 (mset h 0 0 0) _ q1) ?_
  rcases zI_s e with ⟨q2, e⟩ | ⟨q2, e⟩
  · refine zF_blk (m := []) (d := 1) (b := B274_6) (gs := [r1 = 0]) (c' := (23, [some (22, 0), some (0, v1), some (0, v2), some (0, v3), none, none, none], [], (hc, (mset h 0 0 0), o))) K274_6 rfl ⟨q2, trivial⟩ ?_
    refine zF_blk (m := []) (d := 0) (b := B274_1) (gs := []) (c' := (24, [some (22, 0), some (0, v1), some (0, v2), some (0, v3), none, none, none], [(0, (-1))], (hc, (mset h 0 0 0), o))) K274_1 rfl trivial ?_
    exact zF_riM (zRe1_w (by decide +kernel)) e
  · refine zF_blk (m := []) (d := 0) (b := B274_6) (gs := [¬ (r1 = 0)]) (c' := (13, [some (22, 0), some (0, v1), some (0, v2), some (0, v3), none, none, none], [], (hc, (mset h 0 0 0), o))) K274_6 rfl ⟨q2, trivial⟩ ?_
    obtain ⟨r2, q3, e⟩ := zB_s e
    refine zF_blk (m := []) (d := 0) (b := B274_2) (gs := []) (c' := (17, [some (22, 0), some (0, v1), some (0, v2), some (0, v3), none, none, none], [(0, 40), (0, 1), (0, v2)], (hc, (mset h 0 0 0), o))) K274_2 rfl trivial ?_
    refine zF_call (k := 188) (cl := 12) (n := 3) (i := .invokestatic 151) (args := [(0, v2), (0, 1), (0, 40)]) (rest := []) (g1 := (hc, (mset h 0 0 0), o)) (r1 := some (0, r2)) (zCk1_w (by decide +kernel)) rfl rfl rfl (st' := [(0, r2)]) rfl (S188 (Nat.le_trans (by decide) hd) v2 1 40 (mset h 0 0 0) _ q3) ?_
    rcases zI_s e with ⟨q4, e⟩ | ⟨q4, e⟩
    · refine zF_blk (m := []) (d := 1) (b := B274_5) (gs := [¬ r2 = 0]) (c' := (25, [some (22, 0), some (0, v1), some (0, v2), some (0, v3), none, none, none], [], (hc, (mset h 0 0 0), o))) K274_5 rfl ⟨q4, trivial⟩ ?_
      obtain ⟨r3, q5, e⟩ := zB_s e
      refine zF_blk (m := []) (d := 0) (b := B274_3) (gs := []) (c' := (27, [some (22, 0), some (0, v1), some (0, v2), some (0, v3), none, none, none], [(0, v1), (22, 0)], (hc, (mset h 0 0 0), o))) K274_3 rfl trivial ?_
      refine zF_call (k := 211) (cl := 12) (n := 2) (i := .invokevirtual 263) (args := [(22, 0), (0, v1)]) (rest := []) (g1 := (hc, (mset h 0 0 0), o)) (r1 := some (0, r3)) (zCk1_w (by decide +kernel)) rfl rfl rfl (st' := [(0, r3)]) rfl (S211 (Nat.le_trans (by decide) hd) v1 (mset h 0 0 0) _ q5) ?_
      refine zF_blk (m := []) (d := 0) (b := B274_4) (gs := []) (c' := (38, [some (22, 0), some (0, v1), some (0, v2), some (0, v3), some (0, r3), some (0, 0), some (0, 0)], [], (hc, (mset h 0 0 0), o))) K274_4 rfl trivial ?_
      exact T274_0 hd zFu v1 v2 v3 r3 0 0 (mset h 0 0 0) _ e
    · refine zF_blk (m := []) (d := 0) (b := B274_5) (gs := [¬ (¬ r2 = 0)]) (c' := (23, [some (22, 0), some (0, v1), some (0, v2), some (0, v3), none, none, none], [], (hc, (mset h 0 0 0), o))) K274_5 rfl ⟨q4, trivial⟩ ?_
      refine zF_blk (m := []) (d := 0) (b := B274_1) (gs := []) (c' := (24, [some (22, 0), some (0, v1), some (0, v2), some (0, v3), none, none, none], [(0, (-1))], (hc, (mset h 0 0 0), o))) K274_1 rfl trivial ?_
      exact zF_riM (zRe1_w (by decide +kernel)) e
