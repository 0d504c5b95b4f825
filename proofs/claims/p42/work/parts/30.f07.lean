/-! Functions of the methods, by wip/gen/lift.py. -/
noncomputable def B236_0 : List zRow := [(0, .aload_n 0, 1, (0, 0, 0)), (1, .getfield 13, 3, (12, 14, 5251442)), (4, .sipush 209, 3, (0, 0, 0)), (7, .dup2, 1, (0, 0, 0)), (8, .iaload, 1, (0, 0, 0)), (9, .iconst 1, 1, (0, 0, 0)), (10, .iadd, 1, (0, 0, 0)), (11, .iastore, 1, (0, 0, 0)), (12, .aload_n 0, 1, (0, 0, 0)), (13, .aload_n 0, 1, (0, 0, 0)), (14, .getfield 13, 3, (12, 14, 5251442)), (17, .sipush 209, 3, (0, 0, 0)), (20, .iaload, 1, (0, 0, 0))]
theorem K236_0 : zRk 236 B236_0 = true := zRw_ok (by decide +kernel)
noncomputable def B236_1 : List zRow := [(24, .aload_n 0, 1, (0, 0, 0)), (25, .aload_n 0, 1, (0, 0, 0)), (26, .getfield 13, 3, (12, 14, 5251442)), (29, .sipush 209, 3, (0, 0, 0)), (32, .iaload, 1, (0, 0, 0))]
theorem K236_1 : zRk 236 B236_1 = true := zRw_ok (by decide +kernel)
noncomputable def B236_2 : List zRow := [(36, .iload_n 1, 1, (0, 0, 0)), (37, .iadd, 1, (0, 0, 0)), (38, .istore_n 2, 1, (0, 0, 0)), (39, .iconst 0, 1, (0, 0, 0)), (40, .istore_n 3, 1, (0, 0, 0))]
theorem K236_2 : zRk 236 B236_2 = true := zRw_ok (by decide +kernel)
noncomputable def B236_3 : List zRow := [(53, .iconst 0, 1, (0, 0, 0)), (54, .istore 4, 2, (0, 0, 0))]
theorem K236_3 : zRk 236 B236_3 = true := zRw_ok (by decide +kernel)
noncomputable def B236_4 : List zRow := [(41, .iload_n 3, 1, (0, 0, 0)), (42, .aload_n 0, 1, (0, 0, 0)), (43, .getfield 13, 3, (12, 14, 5251442)), (46, .sipush 216, 3, (0, 0, 0)), (49, .iaload, 1, (0, 0, 0)), (50, .if_icmp .ge 123, 3, (0, 0, 0))]
theorem K236_4 : zRk 236 B236_4 = true := zRw_ok (by decide +kernel)
noncomputable def B236_5 : List zRow := [(167, .iinc 3 1, 3, (0, 0, 0)), (170, .goto (-129), 3, (0, 0, 0))]
theorem K236_5 : zRk 236 B236_5 = true := zRw_ok (by decide +kernel)
noncomputable def B236_6 : List zRow := [(67, .sipush 457, 3, (0, 0, 0)), (70, .bipush 18, 2, (0, 0, 0)), (72, .iload_n 3, 1, (0, 0, 0))]
theorem K236_6 : zRk 236 B236_6 = true := zRw_ok (by decide +kernel)
noncomputable def B236_7 : List zRow := [(73, .imul, 1, (0, 0, 0))]
theorem K236_7 : zRk 236 B236_7 = true := zRw_ok (by decide +kernel)
noncomputable def B236_8 : List zRow := [(74, .iadd, 1, (0, 0, 0)), (75, .iconst 3, 1, (0, 0, 0)), (76, .iload 4, 2, (0, 0, 0))]
theorem K236_8 : zRk 236 B236_8 = true := zRw_ok (by decide +kernel)
noncomputable def B236_9 : List zRow := [(115, .aload_n 0, 1, (0, 0, 0)), (116, .getfield 13, 3, (12, 14, 5251442)), (119, .iload 5, 2, (0, 0, 0)), (121, .iconst 2, 1, (0, 0, 0)), (122, .iadd, 1, (0, 0, 0)), (123, .iconst 1, 1, (0, 0, 0)), (124, .iastore, 1, (0, 0, 0)), (125, .aload_n 0, 1, (0, 0, 0)), (126, .getfield 13, 3, (12, 14, 5251442)), (129, .iload 5, 2, (0, 0, 0)), (131, .iconst 1, 1, (0, 0, 0)), (132, .iadd, 1, (0, 0, 0)), (133, .iaload, 1, (0, 0, 0)), (134, .aload_n 0, 1, (0, 0, 0)), (135, .iload 4, 2, (0, 0, 0))]
theorem K236_9 : zRk 236 B236_9 = true := zRw_ok (by decide +kernel)
noncomputable def B236_10 : List zRow := [(140, .iload_n 2, 1, (0, 0, 0)), (141, .isub, 1, (0, 0, 0))]
theorem K236_10 : zRk 236 B236_10 = true := zRw_ok (by decide +kernel)
noncomputable def B236_11 : List zRow := [(152, .aload_n 0, 1, (0, 0, 0)), (153, .iload_n 3, 1, (0, 0, 0)), (154, .iload 4, 2, (0, 0, 0)), (156, .iload 6, 2, (0, 0, 0))]
theorem K236_11 : zRk 236 B236_11 = true := zRw_ok (by decide +kernel)
noncomputable def B236_12 : List zRow := [(145, .istore 6, 2, (0, 0, 0)), (147, .iload 6, 2, (0, 0, 0)), (149, .ifCond .le 12, 3, (0, 0, 0))]
theorem K236_12 : zRk 236 B236_12 = true := zRw_ok (by decide +kernel)
noncomputable def B236_13 : List zRow := [(112, .goto 49, 3, (0, 0, 0))]
theorem K236_13 : zRk 236 B236_13 = true := zRw_ok (by decide +kernel)
noncomputable def B236_14 : List zRow := [(100, .aload_n 0, 1, (0, 0, 0)), (101, .getfield 13, 3, (12, 14, 5251442)), (104, .iload 5, 2, (0, 0, 0)), (106, .iconst 2, 1, (0, 0, 0)), (107, .iadd, 1, (0, 0, 0)), (108, .iaload, 1, (0, 0, 0)), (109, .ifCond .le 6, 3, (0, 0, 0))]
theorem K236_14 : zRk 236 B236_14 = true := zRw_ok (by decide +kernel)
noncomputable def B236_15 : List zRow := [(78, .imul, 1, (0, 0, 0)), (79, .iadd, 1, (0, 0, 0)), (80, .istore 5, 2, (0, 0, 0)), (82, .aload_n 0, 1, (0, 0, 0)), (83, .getfield 13, 3, (12, 14, 5251442)), (86, .iload 5, 2, (0, 0, 0)), (88, .iaload, 1, (0, 0, 0)), (89, .aload_n 0, 1, (0, 0, 0)), (90, .getfield 13, 3, (12, 14, 5251442)), (93, .sipush 209, 3, (0, 0, 0)), (96, .iaload, 1, (0, 0, 0)), (97, .if_icmp .ne 64, 3, (0, 0, 0))]
theorem K236_15 : zRk 236 B236_15 = true := zRw_ok (by decide +kernel)
noncomputable def B236_16 : List zRow := [(56, .iload 4, 2, (0, 0, 0)), (58, .aload_n 0, 1, (0, 0, 0)), (59, .getfield 13, 3, (12, 14, 5251442)), (62, .iconst 2, 1, (0, 0, 0)), (63, .iaload, 1, (0, 0, 0)), (64, .if_icmp .ge 103, 3, (0, 0, 0))]
theorem K236_16 : zRk 236 B236_16 = true := zRw_ok (by decide +kernel)
noncomputable def B236_17 : List zRow := [(161, .iinc 4 1, 3, (0, 0, 0)), (164, .goto (-108), 3, (0, 0, 0))]
theorem K236_17 : zRk 236 B236_17 = true := zRw_ok (by decide +kernel)
def F236_2 (k0 : Int → Int → zHM → Option zHM) (k1 : Int → Int → Int → zHM → Option zHM) (v2 : Int) (v3 : Int) (v4 : Int) (h : zHM) : Option zHM := k1 v2 v3 (wadd v4 1) h
set_option maxRecDepth 100000 in
theorem T236_2 {spec : zRn zH2} {hc : zHC} {o : Int → Int} {d : Nat} (hd : 4 ≤ d) (k0 : Int → Int → zHM → Option zHM) (hk0 : ∀ (v2 : Int) (v3 : Int) (h : zHM) (v : zHM), k0 v2 v3 h = some v → zFin 0 (fun _ => 0) (zRu2 spec d) 236 none (hc, v, o) (41, [some (22, 0), none, some (0, v2), some (0, v3), none, none, none], [], (hc, h, o))) (k1 : Int → Int → Int → zHM → Option zHM) (hk1 : ∀ (v2 : Int) (v3 : Int) (v4 : Int) (h : zHM) (v : zHM), k1 v2 v3 v4 h = some v → zFin 0 (fun _ => 0) (zRu2 spec d) 236 none (hc, v, o) (56, [some (22, 0), none, some (0, v2), some (0, v3), some (0, v4), none, none], [], (hc, h, o))) (v2 : Int) (v3 : Int) (v4 : Int) (h : zHM) (v : zHM) (e : F236_2 k0 k1 v2 v3 v4 h = some v) : zFin 0 (fun _ => 0) (zRu2 spec d) 236 none (hc, v, o) (161, [some (22, 0), none, some (0, v2), some (0, v3), some (0, v4), none, none], [], (hc, h, o)) := by
  unfold F236_2 at e
  refine zF_blk (m := []) (d := 0) (b := B236_17) (gs := []) (c' := (56, [some (22, 0), none, some (0, v2), some (0, v3), some (0, (wadd v4 1)), none, none], [], (hc, h, o))) K236_17 rfl trivial ?_
  exact hk1 v2 v3 (wadd v4 1) h _ e
def F236_1 (k0 : Int → Int → zHM → Option zHM) : Nat → Int → Int → Int → zHM → Option zHM
  | 0, _, _, _, _ => none
  | n + 1, v2, v3, v4, h => if (h 14 2) ≤ v4 then k0 v2 (wadd v3 1) h else zG (0 ≤ (wadd (wadd 457 (wmul 18 v3)) (wmul 3 v4)) ∧ (wadd (wadd 457 (wmul 18 v3)) (wmul 3 v4)) < 2140) (if ¬ (h 14 (wadd (wadd 457 (wmul 18 v3)) (wmul 3 v4))) = (h 14 209) then F236_2 k0 (F236_1 k0 n) v2 v3 v4 h else zG (0 ≤ (wadd (wadd (wadd 457 (wmul 18 v3)) (wmul 3 v4)) 2) ∧ (wadd (wadd (wadd 457 (wmul 18 v3)) (wmul 3 v4)) 2) < 2140) (if (h 14 (wadd (wadd (wadd 457 (wmul 18 v3)) (wmul 3 v4)) 2)) ≤ 0 then zG (0 ≤ (wadd (wadd (wadd 457 (wmul 18 v3)) (wmul 3 v4)) 2) ∧ (wadd (wadd (wadd 457 (wmul 18 v3)) (wmul 3 v4)) 2) < 2140) (zG (0 ≤ (wadd (wadd (wadd 457 (wmul 18 v3)) (wmul 3 v4)) 1) ∧ (wadd (wadd (wadd 457 (wmul 18 v3)) (wmul 3 v4)) 1) < 2140) ((F207 v4 (mset h 14 (wadd (wadd (wadd 457 (wmul 18 v3)) (wmul 3 v4)) 2) 1)).bind fun r1 => (F238 ((mset h 14 (wadd (wadd (wadd 457 (wmul 18 v3)) (wmul 3 v4)) 2) 1) 14 (wadd (wadd (wadd 457 (wmul 18 v3)) (wmul 3 v4)) 1)) (wsub r1 v2)).bind fun r2 => if r2 ≤ 0 then F236_2 k0 (F236_1 k0 n) v2 v3 v4 (mset h 14 (wadd (wadd (wadd 457 (wmul 18 v3)) (wmul 3 v4)) 2) 1) else (F239 v3 v4 r2 (mset h 14 (wadd (wadd (wadd 457 (wmul 18 v3)) (wmul 3 v4)) 2) 1)).bind fun r3 => F236_2 k0 (F236_1 k0 n) v2 v3 v4 r3)) else F236_2 k0 (F236_1 k0 n) v2 v3 v4 h))
set_option maxRecDepth 100000 in
theorem T236_1 {spec : zRn zH2} {hc : zHC} {o : Int → Int} {d : Nat} (hd : 4 ≤ d) (k0 : Int → Int → zHM → Option zHM) (hk0 : ∀ (v2 : Int) (v3 : Int) (h : zHM) (v : zHM), k0 v2 v3 h = some v → zFin 0 (fun _ => 0) (zRu2 spec d) 236 none (hc, v, o) (41, [some (22, 0), none, some (0, v2), some (0, v3), none, none, none], [], (hc, h, o))) : ∀ (n : Nat) (v2 : Int) (v3 : Int) (v4 : Int) (h : zHM) (v : zHM), F236_1 k0 n v2 v3 v4 h = some v → zFin 0 (fun _ => 0) (zRu2 spec d) 236 none (hc, v, o) (56, [some (22, 0), none, some (0, v2), some (0, v3), some (0, v4), none, none], [], (hc, h, o)) := by
  intro n
  induction n with
  | zero => intro v2 v3 v4 h v e; unfold F236_1 at e; cases e
  | succ n hk1 =>
    intro v2 v3 v4 h v e
    unfold F236_1 at e
    rcases zI_s e with ⟨q1, e⟩ | ⟨q1, e⟩
    · refine zF_blk (m := []) (d := 1) (b := B236_16) (gs := [0 ≤ 2 ∧ 2 < 2140, (h 14 2) ≤ v4]) (c' := (167, [some (22, 0), none, some (0, v2), some (0, v3), some (0, v4), none, none], [], (hc, h, o))) K236_16 rfl ⟨by decide, q1, trivial⟩ ?_
      refine zF_blk (m := []) (d := 0) (b := B236_5) (gs := []) (c' := (41, [some (22, 0), none, some (0, v2), some (0, (wadd v3 1)), some (0, v4), none, none], [], (hc, h, o))) K236_5 rfl trivial ?_
      refine zF_blk (m := [true, false, true, true, false, false, false]) (d := 0) (b := []) (gs := []) (c' := (41, [some (22, 0), none, some (0, v2), some (0, (wadd v3 1)), none, none, none], [], (hc, h, o))) rfl rfl trivial ?_
      exact hk0 v2 (wadd v3 1) h _ e
    · refine zF_blk (m := []) (d := 0) (b := B236_16) (gs := [0 ≤ 2 ∧ 2 < 2140, ¬ ((h 14 2) ≤ v4)]) (c' := (67, [some (22, 0), none, some (0, v2), some (0, v3), some (0, v4), none, none], [], (hc, h, o))) K236_16 rfl ⟨by decide, q1, trivial⟩ ?_
      obtain ⟨q2, e⟩ := zG_s e
      refine zF_blk (m := []) (d := 0) (b := B236_6) (gs := []) (c' := (73, [some (22, 0), none, some (0, v2), some (0, v3), some (0, v4), none, none], [(0, v3), (0, 18), (0, 457)], (hc, h, o))) K236_6 rfl trivial ?_
      refine zF_blk (m := []) (d := 0) (b := B236_7) (gs := []) (c' := (74, [some (22, 0), none, some (0, v2), some (0, v3), some (0, v4), none, none], [(0, (wmul 18 v3)), (0, 457)], (hc, h, o))) K236_7 rfl trivial ?_
      refine zF_blk (m := []) (d := 0) (b := B236_8) (gs := []) (c' := (78, [some (22, 0), none, some (0, v2), some (0, v3), some (0, v4), none, none], [(0, v4), (0, 3), (0, (wadd 457 (wmul 18 v3)))], (hc, h, o))) K236_8 rfl trivial ?_
      rcases zI_s e with ⟨q3, e⟩ | ⟨q3, e⟩
      · refine zF_blk (m := []) (d := 1) (b := B236_15) (gs := [0 ≤ (wadd (wadd 457 (wmul 18 v3)) (wmul 3 v4)) ∧ (wadd (wadd 457 (wmul 18 v3)) (wmul 3 v4)) < 2140, 0 ≤ 209 ∧ 209 < 2140, ¬ (h 14 (wadd (wadd 457 (wmul 18 v3)) (wmul 3 v4))) = (h 14 209)]) (c' := (161, [some (22, 0), none, some (0, v2), some (0, v3), some (0, v4), some (0, (wadd (wadd 457 (wmul 18 v3)) (wmul 3 v4))), none], [], (hc, h, o))) K236_15 rfl ⟨q2, by decide, q3, trivial⟩ ?_
        refine zF_blk (m := [true, false, true, true, true, false, false]) (d := 0) (b := []) (gs := []) (c' := (161, [some (22, 0), none, some (0, v2), some (0, v3), some (0, v4), none, none], [], (hc, h, o))) rfl rfl trivial ?_
        exact T236_2 hd k0 hk0 (F236_1 k0 n) hk1 v2 v3 v4 h _ e
      · refine zF_blk (m := []) (d := 0) (b := B236_15) (gs := [0 ≤ (wadd (wadd 457 (wmul 18 v3)) (wmul 3 v4)) ∧ (wadd (wadd 457 (wmul 18 v3)) (wmul 3 v4)) < 2140, 0 ≤ 209 ∧ 209 < 2140, ¬ (¬ (h 14 (wadd (wadd 457 (wmul 18 v3)) (wmul 3 v4))) = (h 14 209))]) (c' := (100, [some (22, 0), none, some (0, v2), some (0, v3), some (0, v4), some (0, (wadd (wadd 457 (wmul 18 v3)) (wmul 3 v4))), none], [], (hc, h, o))) K236_15 rfl ⟨q2, by decide, q3, trivial⟩ ?_
        obtain ⟨q4, e⟩ := zG_s e
        rcases zI_s e with ⟨q5, e⟩ | ⟨q5, e⟩
        · refine zF_blk (m := []) (d := 1) (b := B236_14) (gs := [0 ≤ (wadd (wadd (wadd 457 (wmul 18 v3)) (wmul 3 v4)) 2) ∧ (wadd (wadd (wadd 457 (wmul 18 v3)) (wmul 3 v4)) 2) < 2140, (h 14 (wadd (wadd (wadd 457 (wmul 18 v3)) (wmul 3 v4)) 2)) ≤ 0]) (c' := (115, [some (22, 0), none, some (0, v2), some (0, v3), some (0, v4), some (0, (wadd (wadd 457 (wmul 18 v3)) (wmul 3 v4))), none], [], (hc, h, o))) K236_14 rfl ⟨q4, q5, trivial⟩ ?_
          obtain ⟨q6, e⟩ := zG_s e
          obtain ⟨q7, e⟩ := zG_s e
          obtain ⟨r1, q8, e⟩ := zB_s e
          refine zF_blk (m := []) (d := 0) (b := B236_9) (gs := [0 ≤ (wadd (wadd (wadd 457 (wmul 18 v3)) (wmul 3 v4)) 2) ∧ (wadd (wadd (wadd 457 (wmul 18 v3)) (wmul 3 v4)) 2) < 2140, 0 ≤ (wadd (wadd (wadd 457 (wmul 18 v3)) (wmul 3 v4)) 1) ∧ (wadd (wadd (wadd 457 (wmul 18 v3)) (wmul 3 v4)) 1) < 2140]) (c' := (137, [some (22, 0), none, some (0, v2), some (0, v3), some (0, v4), some (0, (wadd (wadd 457 (wmul 18 v3)) (wmul 3 v4))), none], [(0, v4), (22, 0), (0, ((mset h 14 (wadd (wadd (wadd 457 (wmul 18 v3)) (wmul 3 v4)) 2) 1) 14 (wadd (wadd (wadd 457 (wmul 18 v3)) (wmul 3 v4)) 1)))], (hc, (mset h 14 (wadd (wadd (wadd 457 (wmul 18 v3)) (wmul 3 v4)) 2) 1), o))) K236_9 rfl ⟨q6, q7, trivial⟩ ?_
          refine zF_call (k := 207) (cl := 12) (n := 2) (i := .invokevirtual 241) (args := [(22, 0), (0, v4)]) (rest := [(0, ((mset h 14 (wadd (wadd (wadd 457 (wmul 18 v3)) (wmul 3 v4)) 2) 1) 14 (wadd (wadd (wadd 457 (wmul 18 v3)) (wmul 3 v4)) 1)))]) (g1 := (hc, (mset h 14 (wadd (wadd (wadd 457 (wmul 18 v3)) (wmul 3 v4)) 2) 1), o)) (r1 := some (0, r1)) (zCk1_w (by decide +kernel)) rfl rfl rfl (st' := [(0, r1), (0, ((mset h 14 (wadd (wadd (wadd 457 (wmul 18 v3)) (wmul 3 v4)) 2) 1) 14 (wadd (wadd (wadd 457 (wmul 18 v3)) (wmul 3 v4)) 1)))]) rfl (S207 (Nat.le_trans (by decide) hd) v4 (mset h 14 (wadd (wadd (wadd 457 (wmul 18 v3)) (wmul 3 v4)) 2) 1) _ q8) ?_
          obtain ⟨r2, q9, e⟩ := zB_s e
          refine zF_blk (m := []) (d := 0) (b := B236_10) (gs := []) (c' := (142, [some (22, 0), none, some (0, v2), some (0, v3), some (0, v4), some (0, (wadd (wadd 457 (wmul 18 v3)) (wmul 3 v4))), none], [(0, (wsub r1 v2)), (0, ((mset h 14 (wadd (wadd (wadd 457 (wmul 18 v3)) (wmul 3 v4)) 2) 1) 14 (wadd (wadd (wadd 457 (wmul 18 v3)) (wmul 3 v4)) 1)))], (hc, (mset h 14 (wadd (wadd (wadd 457 (wmul 18 v3)) (wmul 3 v4)) 2) 1), o))) K236_10 rfl trivial ?_
          refine zF_call (k := 238) (cl := 12) (n := 2) (i := .invokestatic 295) (args := [(0, ((mset h 14 (wadd (wadd (wadd 457 (wmul 18 v3)) (wmul 3 v4)) 2) 1) 14 (wadd (wadd (wadd 457 (wmul 18 v3)) (wmul 3 v4)) 1))), (0, (wsub r1 v2))]) (rest := []) (g1 := (hc, (mset h 14 (wadd (wadd (wadd 457 (wmul 18 v3)) (wmul 3 v4)) 2) 1), o)) (r1 := some (0, r2)) (zCk1_w (by decide +kernel)) rfl rfl rfl (st' := [(0, r2)]) rfl (S238 (Nat.le_trans (by decide) hd) ((mset h 14 (wadd (wadd (wadd 457 (wmul 18 v3)) (wmul 3 v4)) 2) 1) 14 (wadd (wadd (wadd 457 (wmul 18 v3)) (wmul 3 v4)) 1)) (wsub r1 v2) (mset h 14 (wadd (wadd (wadd 457 (wmul 18 v3)) (wmul 3 v4)) 2) 1) _ q9) ?_
          rcases zI_s e with ⟨q10, e⟩ | ⟨q10, e⟩
          · refine zF_blk (m := []) (d := 1) (b := B236_12) (gs := [r2 ≤ 0]) (c' := (161, [some (22, 0), none, some (0, v2), some (0, v3), some (0, v4), some (0, (wadd (wadd 457 (wmul 18 v3)) (wmul 3 v4))), some (0, r2)], [], (hc, (mset h 14 (wadd (wadd (wadd 457 (wmul 18 v3)) (wmul 3 v4)) 2) 1), o))) K236_12 rfl ⟨q10, trivial⟩ ?_
            refine zF_blk (m := [true, false, true, true, true, false, false]) (d := 0) (b := []) (gs := []) (c' := (161, [some (22, 0), none, some (0, v2), some (0, v3), some (0, v4), none, none], [], (hc, (mset h 14 (wadd (wadd (wadd 457 (wmul 18 v3)) (wmul 3 v4)) 2) 1), o))) rfl rfl trivial ?_
            exact T236_2 hd k0 hk0 (F236_1 k0 n) hk1 v2 v3 v4 (mset h 14 (wadd (wadd (wadd 457 (wmul 18 v3)) (wmul 3 v4)) 2) 1) _ e
          · refine zF_blk (m := []) (d := 0) (b := B236_12) (gs := [¬ (r2 ≤ 0)]) (c' := (152, [some (22, 0), none, some (0, v2), some (0, v3), some (0, v4), some (0, (wadd (wadd 457 (wmul 18 v3)) (wmul 3 v4))), some (0, r2)], [], (hc, (mset h 14 (wadd (wadd (wadd 457 (wmul 18 v3)) (wmul 3 v4)) 2) 1), o))) K236_12 rfl ⟨q10, trivial⟩ ?_
            obtain ⟨r3, q11, e⟩ := zB_s e
            refine zF_blk (m := []) (d := 0) (b := B236_11) (gs := []) (c' := (158, [some (22, 0), none, some (0, v2), some (0, v3), some (0, v4), some (0, (wadd (wadd 457 (wmul 18 v3)) (wmul 3 v4))), some (0, r2)], [(0, r2), (0, v4), (0, v3), (22, 0)], (hc, (mset h 14 (wadd (wadd (wadd 457 (wmul 18 v3)) (wmul 3 v4)) 2) 1), o))) K236_11 rfl trivial ?_
            refine zF_call (k := 239) (cl := 12) (n := 4) (i := .invokevirtual 298) (args := [(22, 0), (0, v3), (0, v4), (0, r2)]) (rest := []) (g1 := (hc, r3, o)) (r1 := none) (zCk1_w (by decide +kernel)) rfl rfl rfl (st' := []) rfl (S239 (Nat.le_trans (by decide) hd) v3 v4 r2 (mset h 14 (wadd (wadd (wadd 457 (wmul 18 v3)) (wmul 3 v4)) 2) 1) _ q11) ?_
            refine zF_blk (m := [true, false, true, true, true, false, false]) (d := 0) (b := []) (gs := []) (c' := (161, [some (22, 0), none, some (0, v2), some (0, v3), some (0, v4), none, none], [], (hc, r3, o))) rfl rfl trivial ?_
            exact T236_2 hd k0 hk0 (F236_1 k0 n) hk1 v2 v3 v4 r3 _ e
        · refine zF_blk (m := []) (d := 0) (b := B236_14) (gs := [0 ≤ (wadd (wadd (wadd 457 (wmul 18 v3)) (wmul 3 v4)) 2) ∧ (wadd (wadd (wadd 457 (wmul 18 v3)) (wmul 3 v4)) 2) < 2140, ¬ ((h 14 (wadd (wadd (wadd 457 (wmul 18 v3)) (wmul 3 v4)) 2)) ≤ 0)]) (c' := (112, [some (22, 0), none, some (0, v2), some (0, v3), some (0, v4), some (0, (wadd (wadd 457 (wmul 18 v3)) (wmul 3 v4))), none], [], (hc, h, o))) K236_14 rfl ⟨q4, q5, trivial⟩ ?_
          refine zF_blk (m := []) (d := 0) (b := B236_13) (gs := []) (c' := (161, [some (22, 0), none, some (0, v2), some (0, v3), some (0, v4), some (0, (wadd (wadd 457 (wmul 18 v3)) (wmul 3 v4))), none], [], (hc, h, o))) K236_13 rfl trivial ?_
          refine zF_blk (m := [true, false, true, true, true, false, false]) (d := 0) (b := []) (gs := []) (c' := (161, [some (22, 0), none, some (0, v2), some (0, v3), some (0, v4), none, none], [], (hc, h, o))) rfl rfl trivial ?_
          exact T236_2 hd k0 hk0 (F236_1 k0 n) hk1 v2 v3 v4 h _ e
def F236_0 : Nat → Int → Int → zHM → Option zHM
  | 0, _, _, _ => none
  | n + 1, v2, v3, h => if (h 14 216) ≤ v3 then some h else F236_1 (F236_0 n) zFu v2 v3 0 h
set_option maxRecDepth 100000 in
theorem T236_0 {spec : zRn zH2} {hc : zHC} {o : Int → Int} {d : Nat} (hd : 4 ≤ d) : ∀ (n : Nat) (v2 : Int) (v3 : Int) (h : zHM) (v : zHM), F236_0 n v2 v3 h = some v → zFin 0 (fun _ => 0) (zRu2 spec d) 236 none (hc, v, o) (41, [some (22, 0), none, some (0, v2), some (0, v3), none, none, none], [], (hc, h, o)) := by
  intro n
  induction n with
  | zero => intro v2 v3 h v e; unfold F236_0 at e; cases e
  | succ n hk0 =>
    intro v2 v3 h v e
    unfold F236_0 at e
    rcases zI_s e with ⟨q1, e⟩ | ⟨q1, e⟩
    · refine zF_blk (m := []) (d := 1) (b := B236_4) (gs := [0 ≤ 216 ∧ 216 < 2140, (h 14 216) ≤ v3]) (c' := (173, [some (22, 0), none, some (0, v2), some (0, v3), none, none, none], [], (hc, h, o))) K236_4 rfl ⟨by decide, q1, trivial⟩ ?_
      obtain rfl := Option.some.inj e
      exact zF_rv (zRe1_w (by decide +kernel))
    · refine zF_blk (m := []) (d := 0) (b := B236_4) (gs := [0 ≤ 216 ∧ 216 < 2140, ¬ ((h 14 216) ≤ v3)]) (c' := (53, [some (22, 0), none, some (0, v2), some (0, v3), none, none, none], [], (hc, h, o))) K236_4 rfl ⟨by decide, q1, trivial⟩ ?_
      refine zF_blk (m := []) (d := 0) (b := B236_3) (gs := []) (c' := (56, [some (22, 0), none, some (0, v2), some (0, v3), some (0, 0), none, none], [], (hc, h, o))) K236_3 rfl trivial ?_
      exact T236_1 hd (F236_0 n) hk0 zFu v2 v3 0 h _ e
/-- EchoValeModel.pass(I)V -/
def F236 (v1 : Int) (h : zHM) : Option zHM := (F237 (wadd (h 14 209) 1) (mset h 14 209 (wadd (h 14 209) 1))).bind fun r1 => (F208 (r1 14 209) r1).bind fun r2 => F236_0 zFu (wadd r2 v1) 0 r1
set_option maxRecDepth 100000 in
theorem S236 {spec : zRn zH2} {hc : zHC} {o : Int → Int} {d : Nat} (hd : 5 ≤ d) (v1 : Int) (h : zHM) (v : zHM) (e : F236 v1 h = some v) : zRu2 spec d 236 [(22, 0), (0, v1)] (hc, h, o) none (hc, v, o) := by
  refine zF_in (D := 4) (mx := 7) (L := [some (22, 0), some (0, v1), none, none, none, none, none]) (by decide +kernel) rfl rfl hd (fun d hd => ?_)
  unfold F236 at e
  obtain ⟨r1, q1, e⟩ := zB_s e
  refine zF_blk (m := []) (d := 0) (b := B236_0) (gs := [0 ≤ 209 ∧ 209 < 2140, 0 ≤ 209 ∧ 209 < 2140, 0 ≤ 209 ∧ 209 < 2140]) (c' := (21, [some (22, 0), some (0, v1), none, none, none, none, none], [(0, (wadd (h 14 209) 1)), (22, 0)], (hc, (mset h 14 209 (wadd (h 14 209) 1)), o))) K236_0 rfl ⟨by decide, by decide, by decide, trivial⟩ ?_
  refine zF_call (k := 237) (cl := 12) (n := 2) (i := .invokevirtual 292) (args := [(22, 0), (0, (wadd (h 14 209) 1))]) (rest := []) (g1 := (hc, r1, o)) (r1 := none) (zCk1_w (by decide +kernel)) rfl rfl rfl (st' := []) rfl (S237 (Nat.le_trans (by decide) hd) (wadd (h 14 209) 1) (mset h 14 209 (wadd (h 14 209) 1)) _ q1) ?_
  obtain ⟨r2, q2, e⟩ := zB_s e
  refine zF_blk (m := []) (d := 0) (b := B236_1) (gs := [0 ≤ 209 ∧ 209 < 2140]) (c' := (33, [some (22, 0), some (0, v1), none, none, none, none, none], [(0, (r1 14 209)), (22, 0)], (hc, r1, o))) K236_1 rfl ⟨by decide, trivial⟩ ?_
  refine zF_call (k := 208) (cl := 12) (n := 2) (i := .invokevirtual 244) (args := [(22, 0), (0, (r1 14 209))]) (rest := []) (g1 := (hc, r1, o)) (r1 := some (0, r2)) (zCk1_w (by decide +kernel)) rfl rfl rfl (st' := [(0, r2)]) rfl (S208 (Nat.le_trans (by decide) hd) (r1 14 209) r1 _ q2) ?_
  refine zF_blk (m := []) (d := 0) (b := B236_2) (gs := []) (c' := (41, [some (22, 0), some (0, v1), some (0, (wadd r2 v1)), some (0, 0), none, none, none], [], (hc, r1, o))) K236_2 rfl trivial ?_
  refine zF_blk (m := [true, false, true, true, false, false, false]) (d := 0) (b := []) (gs := []) (c' := (41, [some (22, 0), none, some (0, (wadd r2 v1)), some (0, 0), none, none, none], [], (hc, r1, o))) rfl rfl trivial ?_
  exact T236_0 hd zFu (wadd r2 v1) 0 r1 _ e
noncomputable def B235_0 : List zRow := [(0, .iconst 0, 1, (0, 0, 0)), (1, .istore_n 2, 1, (0, 0, 0))]
theorem K235_0 : zRk 235 B235_0 = true := zRw_ok (by decide +kernel)
noncomputable def B235_1 : List zRow := [(32, .iload_n 2, 1, (0, 0, 0))]
theorem K235_1 : zRk 235 B235_1 = true := zRw_ok (by decide +kernel)
noncomputable def B235_2 : List zRow := [(21, .aload_n 0, 1, (0, 0, 0)), (22, .iconst 0, 1, (0, 0, 0))]
theorem K235_2 : zRk 235 B235_2 = true := zRw_ok (by decide +kernel)
noncomputable def B235_3 : List zRow := [(26, .iinc 2 1, 3, (0, 0, 0)), (29, .goto (-27), 3, (0, 0, 0))]
theorem K235_3 : zRk 235 B235_3 = true := zRw_ok (by decide +kernel)
noncomputable def B235_4 : List zRow := [(7, .aload_n 0, 1, (0, 0, 0)), (8, .getfield 13, 3, (12, 14, 5251442)), (11, .sipush 209, 3, (0, 0, 0)), (14, .iaload, 1, (0, 0, 0)), (15, .sipush 400, 3, (0, 0, 0)), (18, .if_icmp .ge 14, 3, (0, 0, 0))]
theorem K235_4 : zRk 235 B235_4 = true := zRw_ok (by decide +kernel)
noncomputable def B235_5 : List zRow := [(2, .iload_n 2, 1, (0, 0, 0)), (3, .iload_n 1, 1, (0, 0, 0)), (4, .if_icmp .ge 28, 3, (0, 0, 0))]
theorem K235_5 : zRk 235 B235_5 = true := zRw_ok (by decide +kernel)
def F235_0 : Nat → Int → Int → zHM → Option (Int × zHM)
  | 0, _, _, _ => none
  | n + 1, v1, v2, h => if v1 ≤ v2 then some (v2, h) else if 400 ≤ (h 14 209) then some (v2, h) else (F236 0 h).bind fun r1 => (F235_0 n) v1 (wadd v2 1) r1
set_option maxRecDepth 100000 in
theorem T235_0 {spec : zRn zH2} {hc : zHC} {o : Int → Int} {d : Nat} (hd : 5 ≤ d) : ∀ (n : Nat) (v1 : Int) (v2 : Int) (h : zHM) (v : (Int × zHM)), F235_0 n v1 v2 h = some v → zFin 0 (fun _ => 0) (zRu2 spec d) 235 (some (0, v.1)) (hc, v.2, o) (2, [some (22, 0), some (0, v1), some (0, v2)], [], (hc, h, o)) := by
  intro n
  induction n with
  | zero => intro v1 v2 h v e; unfold F235_0 at e; cases e
  | succ n hk0 =>
    intro v1 v2 h v e
    unfold F235_0 at e
    rcases zI_s e with ⟨q1, e⟩ | ⟨q1, e⟩
    · refine zF_blk (m := []) (d := 1) (b := B235_5) (gs := [v1 ≤ v2]) (c' := (32, [some (22, 0), some (0, v1), some (0, v2)], [], (hc, h, o))) K235_5 rfl ⟨q1, trivial⟩ ?_
      refine zF_blk (m := []) (d := 0) (b := B235_1) (gs := []) (c' := (33, [some (22, 0), some (0, v1), some (0, v2)], [(0, v2)], (hc, h, o))) K235_1 rfl trivial ?_
      exact zF_riM (zRe1_w (by decide +kernel)) e
    · refine zF_blk (m := []) (d := 0) (b := B235_5) (gs := [¬ (v1 ≤ v2)]) (c' := (7, [some (22, 0), some (0, v1), some (0, v2)], [], (hc, h, o))) K235_5 rfl ⟨q1, trivial⟩ ?_
      rcases zI_s e with ⟨q2, e⟩ | ⟨q2, e⟩
      · refine zF_blk (m := []) (d := 1) (b := B235_4) (gs := [0 ≤ 209 ∧ 209 < 2140, 400 ≤ (h 14 209)]) (c' := (32, [some (22, 0), some (0, v1), some (0, v2)], [], (hc, h, o))) K235_4 rfl ⟨by decide, q2, trivial⟩ ?_
        refine zF_blk (m := []) (d := 0) (b := B235_1) (gs := []) (c' := (33, [some (22, 0), some (0, v1), some (0, v2)], [(0, v2)], (hc, h, o))) K235_1 rfl trivial ?_
        exact zF_riM (zRe1_w (by decide +kernel)) e
      · refine zF_blk (m := []) (d := 0) (b := B235_4) (gs := [0 ≤ 209 ∧ 209 < 2140, ¬ (400 ≤ (h 14 209))]) (c' := (21, [some (22, 0), some (0, v1), some (0, v2)], [], (hc, h, o))) K235_4 rfl ⟨by decide, q2, trivial⟩ ?_
        obtain ⟨r1, q3, e⟩ := zB_s e
        refine zF_blk (m := []) (d := 0) (b := B235_2) (gs := []) (c' := (23, [some (22, 0), some (0, v1), some (0, v2)], [(0, 0), (22, 0)], (hc, h, o))) K235_2 rfl trivial ?_
        refine zF_call (k := 236) (cl := 12) (n := 2) (i := .invokevirtual 302) (args := [(22, 0), (0, 0)]) (rest := []) (g1 := (hc, r1, o)) (r1 := none) (zCk1_w (by decide +kernel)) rfl rfl rfl (st' := []) rfl (S236 (Nat.le_trans (by decide) hd) 0 h _ q3) ?_
        refine zF_blk (m := []) (d := 0) (b := B235_3) (gs := []) (c' := (2, [some (22, 0), some (0, v1), some (0, (wadd v2 1))], [], (hc, r1, o))) K235_3 rfl trivial ?_
        exact hk0 v1 (wadd v2 1) r1 _ e
/-- EchoValeModel.passHours(I)I -/
def F235 (v1 : Int) (h : zHM) : Option (Int × zHM) := F235_0 zFu v1 0 h
set_option maxRecDepth 100000 in
theorem S235 {spec : zRn zH2} {hc : zHC} {o : Int → Int} {d : Nat} (hd : 6 ≤ d) (v1 : Int) (h : zHM) (v : (Int × zHM)) (e : F235 v1 h = some v) : zRu2 spec d 235 [(22, 0), (0, v1)] (hc, h, o) (some (0, v.1)) (hc, v.2, o) := by
  refine zF_in (D := 5) (mx := 3) (L := [some (22, 0), some (0, v1), none]) (by decide +kernel) rfl rfl hd (fun d hd => ?_)
  unfold F235 at e
  refine zF_blk (m := []) (d := 0) (b := B235_0) (gs := []) (c' := (2, [some (22, 0), some (0, v1), some (0, 0)], [], (hc, h, o))) K235_0 rfl trivial ?_
  exact T235_0 hd zFu v1 0 h _ e
noncomputable def B234_0 : List zRow := [(0, .aload_n 0, 1, (0, 0, 0)), (1, .iconst 0, 1, (0, 0, 0)), (2, .putfield 81, 3, (12, 0, 0)), (5, .iload_n 1, 1, (0, 0, 0)), (6, .iconst 1, 1, (0, 0, 0)), (7, .bipush 100, 2, (0, 0, 0))]
theorem K234_0 : zRk 234 B234_0 = true := zRw_ok (by decide +kernel)
noncomputable def B234_1 : List zRow := [(33, .aload_n 0, 1, (0, 0, 0))]
theorem K234_1 : zRk 234 B234_1 = true := zRw_ok (by decide +kernel)
noncomputable def B234_2 : List zRow := [(37, .aload_n 0, 1, (0, 0, 0)), (38, .iload_n 1, 1, (0, 0, 0))]
theorem K234_2 : zRk 234 B234_2 = true := zRw_ok (by decide +kernel)
noncomputable def B234_3 : List zRow := [(31, .iconst 0, 1, (0, 0, 0))]
theorem K234_3 : zRk 234 B234_3 = true := zRw_ok (by decide +kernel)
noncomputable def B234_4 : List zRow := [(17, .aload_n 0, 1, (0, 0, 0)), (18, .getfield 13, 3, (12, 14, 5251442)), (21, .sipush 209, 3, (0, 0, 0)), (24, .iaload, 1, (0, 0, 0)), (25, .sipush 400, 3, (0, 0, 0)), (28, .if_icmp .ne 5, 3, (0, 0, 0))]
theorem K234_4 : zRk 234 B234_4 = true := zRw_ok (by decide +kernel)
noncomputable def B234_5 : List zRow := [(15, .iconst (-1), 1, (0, 0, 0))]
theorem K234_5 : zRk 234 B234_5 = true := zRw_ok (by decide +kernel)
noncomputable def B234_6 : List zRow := [(12, .ifCond .ne 5, 3, (0, 0, 0))]
theorem K234_6 : zRk 234 B234_6 = true := zRw_ok (by decide +kernel)
/-- EchoValeModel.on(I)I -/
def F234 (v1 : Int) (h : zHM) : Option (Int × zHM) := (F188 v1 1 100).bind fun r1 => if ¬ r1 = 0 then if ¬ (h 14 209) = 400 then (F225 (mset h 0 0 0)).bind fun r2 => (F235 v1 r2).bind fun r3 => some (r3.1, r3.2) else some (0, (mset h 0 0 0)) else some ((-1), (mset h 0 0 0))
set_option maxRecDepth 100000 in
theorem S234 {spec : zRn zH2} {hc : zHC} {o : Int → Int} {d : Nat} (hd : 7 ≤ d) (v1 : Int) (h : zHM) (v : (Int × zHM)) (e : F234 v1 h = some v) : zRu2 spec d 234 [(22, 0), (0, v1)] (hc, h, o) (some (0, v.1)) (hc, v.2, o) := by
  refine zF_in (D := 6) (mx := 2) (L := [some (22, 0), some (0, v1)]) (by decide +kernel) rfl rfl hd (fun d hd => ?_)
  unfold F234 at e
  obtain ⟨r1, q1, e⟩ := zB_s e
  refine zF_blk (m := []) (d := 0) (b := B234_0) (gs := []) (c' := (9, [some (22, 0), some (0, v1)], [(0, 100), (0, 1), (0, v1)], (hc, (mset h 0 0 0), o))) K234_0 rfl trivial ?_
  refine zF_call (k := 188) (cl := 12) (n := 3) (i := .invokestatic 151) (args := [(0, v1), (0, 1), (0, 100)]) (rest := []) (g1 := (hc, (mset h 0 0 0), o)) (r1 := some (0, r1)) (zCk1_w (by decide +kernel)) rfl rfl rfl (st' := [(0, r1)]) rfl (S188 (Nat.le_trans (by decide) hd) v1 1 100 (mset h 0 0 0) _ q1) ?_
  rcases zI_s e with ⟨q2, e⟩ | ⟨q2, e⟩
  · refine zF_blk (m := []) (d := 1) (b := B234_6) (gs := [¬ r1 = 0]) (c' := (17, [some (22, 0), some (0, v1)], [], (hc, (mset h 0 0 0), o))) K234_6 rfl ⟨q2, trivial⟩ ?_
    rcases zI_s e with ⟨q3, e⟩ | ⟨q3, e⟩
    · refine zF_blk (m := []) (d := 1) (b := B234_4) (gs := [0 ≤ 209 ∧ 209 < 2140, ¬ (h 14 209) = 400]) (c' := (33, [some (22, 0), some (0, v1)], [], (hc, (mset h 0 0 0), o))) K234_4 rfl ⟨by decide, q3, trivial⟩ ?_
      obtain ⟨r2, q4, e⟩ := zB_s e
      refine zF_blk (m := []) (d := 0) (b := B234_1) (gs := []) (c' := (34, [some (22, 0), some (0, v1)], [(22, 0)], (hc, (mset h 0 0 0), o))) K234_1 rfl trivial ?_
      refine zF_call (k := 225) (cl := 12) (n := 1) (i := .invokevirtual 308) (args := [(22, 0)]) (rest := []) (g1 := (hc, r2, o)) (r1 := none) (zCk1_w (by decide +kernel)) rfl rfl rfl (st' := []) rfl (S225 (Nat.le_trans (by decide) hd)  (mset h 0 0 0) _ q4) ?_
      obtain ⟨r3, q5, e⟩ := zB_s e
      refine zF_blk (m := []) (d := 0) (b := B234_2) (gs := []) (c' := (39, [some (22, 0), some (0, v1)], [(0, v1), (22, 0)], (hc, r2, o))) K234_2 rfl trivial ?_
      refine zF_call (k := 235) (cl := 12) (n := 2) (i := .invokevirtual 314) (args := [(22, 0), (0, v1)]) (rest := []) (g1 := (hc, r3.2, o)) (r1 := some (0, r3.1)) (zCk1_w (by decide +kernel)) rfl rfl rfl (st' := [(0, r3.1)]) rfl (S235 (Nat.le_trans (by decide) hd) v1 r2 _ q5) ?_
      exact zF_riM (zRe1_w (by decide +kernel)) e
    · refine zF_blk (m := []) (d := 0) (b := B234_4) (gs := [0 ≤ 209 ∧ 209 < 2140, ¬ (¬ (h 14 209) = 400)]) (c' := (31, [some (22, 0), some (0, v1)], [], (hc, (mset h 0 0 0), o))) K234_4 rfl ⟨by decide, q3, trivial⟩ ?_
      refine zF_blk (m := []) (d := 0) (b := B234_3) (gs := []) (c' := (32, [some (22, 0), some (0, v1)], [(0, 0)], (hc, (mset h 0 0 0), o))) K234_3 rfl trivial ?_
      exact zF_riM (zRe1_w (by decide +kernel)) e
  · refine zF_blk (m := []) (d := 0) (b := B234_6) (gs := [¬ (¬ r1 = 0)]) (c' := (15, [some (22, 0), some (0, v1)], [], (hc, (mset h 0 0 0), o))) K234_6 rfl ⟨q2, trivial⟩ ?_
    refine zF_blk (m := []) (d := 0) (b := B234_5) (gs := []) (c' := (16, [some (22, 0), some (0, v1)], [(0, (-1))], (hc, (mset h 0 0 0), o))) K234_5 rfl trivial ?_
    exact zF_riM (zRe1_w (by decide +kernel)) e
noncomputable def B97_0 : List zRow := [(9, .aload_n 0, 1, (0, 0, 0)), (10, .dup, 1, (0, 0, 0)), (11, .getfield 18, 3, (8, 0, 0)), (14, .iconst 1, 1, (0, 0, 0)), (15, .isub, 1, (0, 0, 0)), (16, .putfield 18, 3, (8, 0, 0)), (19, .aload_n 1, 1, (0, 0, 0)), (20, .aload_n 0, 1, (0, 0, 0)), (21, .getfield 11, 3, (8, 2, 6029346)), (24, .aload_n 0, 1, (0, 0, 0)), (25, .getfield 22, 3, (8, 1, 0)), (28, .aload_n 0, 1, (0, 0, 0)), (29, .getfield 18, 3, (8, 0, 0)), (32, .iadd, 1, (0, 0, 0)), (33, .bipush 8, 2, (0, 0, 0)), (35, .irem, 1, (0, 0, 0)), (36, .aaload, 1, (23, 0, 0))]
theorem K97_0 : zRk 97 B97_0 = true := zRw_ok (by decide +kernel)
noncomputable def B97_1 : List zRow := [(40, .iconst 1, 1, (0, 0, 0))]
theorem K97_1 : zRk 97 B97_1 = true := zRw_ok (by decide +kernel)
noncomputable def B97_2 : List zRow := [(7, .iconst 0, 1, (0, 0, 0))]
theorem K97_2 : zRk 97 B97_2 = true := zRw_ok (by decide +kernel)
noncomputable def B97_3 : List zRow := [(0, .aload_n 0, 1, (0, 0, 0)), (1, .getfield 18, 3, (8, 0, 0)), (4, .ifCond .ne 5, 3, (0, 0, 0))]
theorem K97_3 : zRk 97 B97_3 = true := zRw_ok (by decide +kernel)
/-- EchoVale$Undo.takeBack(LEchoVale$Course;)Z -/
def F97 (v1 : Int) (h : zHC) : Option (Int × zHC) := if ¬ (h 512 0 0) = 0 then zG (0 ≤ (wrem (wadd (h 513 0 0) (wsub (h 512 0 0) 1)) 8) ∧ (wrem (wadd (h 513 0 0) (wsub (h 512 0 0) 1)) 8) < 8) ((F71 v1 (2 + (wrem (wadd (h 513 0 0) (wsub (h 512 0 0) 1)) 8)) (hset h 512 0 0 (wsub (h 512 0 0) 1))).bind fun r1 => some (1, r1)) else some (0, h)
set_option maxRecDepth 100000 in
theorem S97 {spec : zRn zH2} {hm : zHM} {o : Int → Int} {d : Nat} (hd : 3 ≤ d) (v1 : Int) (h : zHC) (v : (Int × zHC)) (e : F97 v1 h = some v) : zRu2 spec d 97 [(18, 0), (11, v1)] (h, hm, o) (some (0, v.1)) (v.2, hm, o) := by
  refine zF_in (D := 2) (mx := 2) (L := [some (18, 0), some (11, v1)]) (by decide +kernel) rfl rfl hd (fun d hd => ?_)
  unfold F97 at e
  rcases zI_s e with ⟨q1, e⟩ | ⟨q1, e⟩
  · refine zF_blk (m := []) (d := 1) (b := B97_3) (gs := [¬ (h 512 0 0) = 0]) (c' := (9, [some (18, 0), some (11, v1)], [], (h, hm, o))) K97_3 rfl ⟨q1, trivial⟩ ?_
    obtain ⟨q2, e⟩ := zG_s e
    obtain ⟨r1, q3, e⟩ := zB_s e
    refine zF_blk (m := []) (d := 0) (b := B97_0) (gs := [¬ 8 = 0, 0 ≤ (wrem (wadd (h 513 0 0) (wsub (h 512 0 0) 1)) 8) ∧ (wrem (wadd (h 513 0 0) (wsub (h 512 0 0) 1)) 8) < 8]) (c' := (37, [some (18, 0), some (11, v1)], [(11, (2 + (wrem (wadd (h 513 0 0) (wsub (h 512 0 0) 1)) 8))), (11, v1)], ((hset h 512 0 0 (wsub (h 512 0 0) 1)), hm, o))) K97_0 rfl ⟨by decide, q2, trivial⟩ ?_
    refine zF_call (k := 71) (cl := 1) (n := 2) (i := .invokevirtual 25) (args := [(11, v1), (11, (2 + (wrem (wadd (h 513 0 0) (wsub (h 512 0 0) 1)) 8)))]) (rest := []) (g1 := (r1, hm, o)) (r1 := none) (zCk1_w (by decide +kernel)) rfl rfl rfl (st' := []) rfl (S71 (Nat.le_trans (by decide) hd) v1 (2 + (wrem (wadd (h 513 0 0) (wsub (h 512 0 0) 1)) 8)) (hset h 512 0 0 (wsub (h 512 0 0) 1)) _ q3) ?_
    refine zF_blk (m := []) (d := 0) (b := B97_1) (gs := []) (c' := (41, [some (18, 0), some (11, v1)], [(0, 1)], (r1, hm, o))) K97_1 rfl trivial ?_
    exact zF_rbC (zRe1_w (by decide +kernel)) (Or.inr rfl) e
  · refine zF_blk (m := []) (d := 0) (b := B97_3) (gs := [¬ (¬ (h 512 0 0) = 0)]) (c' := (7, [some (18, 0), some (11, v1)], [], (h, hm, o))) K97_3 rfl ⟨q1, trivial⟩ ?_
    refine zF_blk (m := []) (d := 0) (b := B97_2) (gs := []) (c' := (8, [some (18, 0), some (11, v1)], [(0, 0)], (h, hm, o))) K97_2 rfl trivial ?_
    exact zF_rbC (zRe1_w (by decide +kernel)) (Or.inl rfl) e
noncomputable def B96_0 : List zRow := [(0, .aload_n 0, 1, (0, 0, 0)), (1, .getfield 66, 3, (11, 8, 35)), (4, .aload_n 0, 1, (0, 0, 0)), (5, .getfield 56, 3, (11, 6, 7))]
theorem K96_0 : zRk 96 B96_0 = true := zRw_ok (by decide +kernel)
noncomputable def B96_1 : List zRow := [(24, .iconst (-1), 1, (0, 0, 0))]
theorem K96_1 : zRk 96 B96_1 = true := zRw_ok (by decide +kernel)
noncomputable def B96_2 : List zRow := [(14, .aload_n 0, 1, (0, 0, 0)), (15, .getfield 66, 3, (11, 8, 35)), (18, .getfield 239, 3, (8, 0, 0)), (21, .goto 4, 3, (0, 0, 0))]
theorem K96_2 : zRk 96 B96_2 = true := zRw_ok (by decide +kernel)
noncomputable def B96_3 : List zRow := [(11, .ifCond .eq 13, 3, (0, 0, 0))]
theorem K96_3 : zRk 96 B96_3 = true := zRw_ok (by decide +kernel)
/-- EchoVale.undo()I -/
def F96 (h : zHC) : Option (Int × zHC) := (F97 0 h).bind fun r1 => if r1.1 = 0 then some ((-1), r1.2) else some ((r1.2 512 0 0), r1.2)
set_option maxRecDepth 100000 in
theorem S96 {spec : zRn zH2} {hm : zHM} {o : Int → Int} {d : Nat} (hd : 4 ≤ d) (h : zHC) (v : (Int × zHC)) (e : F96 h = some v) : zRu2 spec d 96 [(21, 0)] (h, hm, o) (some (0, v.1)) (v.2, hm, o) := by
  refine zF_in (D := 3) (mx := 1) (L := [some (21, 0)]) (by decide +kernel) rfl rfl hd (fun d hd => ?_)
  unfold F96 at e
  obtain ⟨r1, q1, e⟩ := zB_s e
  refine zF_blk (m := []) (d := 0) (b := B96_0) (gs := []) (c' := (8, [some (21, 0)], [(11, 0), (18, 0)], (h, hm, o))) K96_0 rfl trivial ?_
  refine zF_call (k := 97) (cl := 8) (n := 2) (i := .invokevirtual 235) (args := [(18, 0), (11, 0)]) (rest := []) (g1 := (r1.2, hm, o)) (r1 := some (0, r1.1)) (zCk1_w (by decide +kernel)) rfl rfl rfl (st' := [(0, r1.1)]) rfl (S97 (Nat.le_trans (by decide) hd) 0 h _ q1) ?_
  rcases zI_s e with ⟨q2, e⟩ | ⟨q2, e⟩
  · refine zF_blk (m := []) (d := 1) (b := B96_3) (gs := [r1.1 = 0]) (c' := (24, [some (21, 0)], [], (r1.2, hm, o))) K96_3 rfl ⟨q2, trivial⟩ ?_
    refine zF_blk (m := []) (d := 0) (b := B96_1) (gs := []) (c' := (25, [some (21, 0)], [(0, (-1))], (r1.2, hm, o))) K96_1 rfl trivial ?_
    exact zF_riC (zRe1_w (by decide +kernel)) e
  · refine zF_blk (m := []) (d := 0) (b := B96_3) (gs := [¬ (r1.1 = 0)]) (c' := (14, [some (21, 0)], [], (r1.2, hm, o))) K96_3 rfl ⟨q2, trivial⟩ ?_
    refine zF_blk (m := []) (d := 0) (b := B96_2) (gs := []) (c' := (25, [some (21, 0)], [(0, (r1.2 512 0 0))], (r1.2, hm, o))) K96_2 rfl trivial ?_
    exact zF_riC (zRe1_w (by decide +kernel)) e
noncomputable def B222_0 : List zRow := [(14, .aload_n 0, 1, (0, 0, 0)), (15, .dup, 1, (0, 0, 0)), (16, .getfield 232, 3, (12, 23, 0)), (19, .iconst 1, 1, (0, 0, 0)), (20, .isub, 1, (0, 0, 0)), (21, .putfield 232, 3, (12, 23, 0)), (24, .iconst 0, 1, (0, 0, 0)), (25, .istore_n 1, 1, (0, 0, 0))]
theorem K222_0 : zRk 222 B222_0 = true := zRw_ok (by decide +kernel)
noncomputable def B222_1 : List zRow := [(12, .iconst (-1), 1, (0, 0, 0))]
theorem K222_1 : zRk 222 B222_1 = true := zRw_ok (by decide +kernel)
noncomputable def B222_2 : List zRow := [(0, .aload_n 0, 1, (0, 0, 0)), (1, .iconst 0, 1, (0, 0, 0)), (2, .putfield 81, 3, (12, 0, 0)), (5, .aload_n 0, 1, (0, 0, 0)), (6, .getfield 232, 3, (12, 23, 0)), (9, .ifCond .ne 5, 3, (0, 0, 0))]
theorem K222_2 : zRk 222 B222_2 = true := zRw_ok (by decide +kernel)
noncomputable def B222_3 : List zRow := [(64, .aload_n 0, 1, (0, 0, 0)), (65, .getfield 232, 3, (12, 23, 0))]
theorem K222_3 : zRk 222 B222_3 = true := zRw_ok (by decide +kernel)
noncomputable def B222_4 : List zRow := [(33, .aload_n 0, 1, (0, 0, 0)), (34, .getfield 13, 3, (12, 14, 5251442)), (37, .sipush 209, 3, (0, 0, 0)), (40, .iload_n 1, 1, (0, 0, 0))]
theorem K222_4 : zRk 222 B222_4 = true := zRw_ok (by decide +kernel)
noncomputable def B222_5 : List zRow := [(41, .iadd, 1, (0, 0, 0)), (42, .aload_n 0, 1, (0, 0, 0)), (43, .getfield 22, 3, (12, 17, 5296930)), (46, .sipush 1689, 3, (0, 0, 0)), (49, .aload_n 0, 1, (0, 0, 0)), (50, .getfield 232, 3, (12, 23, 0))]
theorem K222_5 : zRk 222 B222_5 = true := zRw_ok (by decide +kernel)
noncomputable def B222_6 : List zRow := [(53, .imul, 1, (0, 0, 0)), (54, .iload_n 1, 1, (0, 0, 0)), (55, .iadd, 1, (0, 0, 0)), (56, .iaload, 1, (0, 0, 0)), (57, .iastore, 1, (0, 0, 0)), (58, .iinc 1 1, 3, (0, 0, 0)), (61, .goto (-35), 3, (0, 0, 0))]
theorem K222_6 : zRk 222 B222_6 = true := zRw_ok (by decide +kernel)
noncomputable def B222_7 : List zRow := [(26, .iload_n 1, 1, (0, 0, 0)), (27, .sipush 1689, 3, (0, 0, 0)), (30, .if_icmp .ge 34, 3, (0, 0, 0))]
theorem K222_7 : zRk 222 B222_7 = true := zRw_ok (by decide +kernel)
def F222_0 : Nat → Int → zHM → Option (Int × zHM)
  | 0, _, _ => none
  | n + 1, v1, h => if 1689 ≤ v1 then some ((h 23 0), h) else zG (0 ≤ (wadd (wmul 1689 (h 23 0)) v1) ∧ (wadd (wmul 1689 (h 23 0)) v1) < 13512) (zG (0 ≤ (wadd 209 v1) ∧ (wadd 209 v1) < 2140) ((F222_0 n) (wadd v1 1) (mset h 14 (wadd 209 v1) (h 17 (wadd (wmul 1689 (h 23 0)) v1)))))
set_option maxRecDepth 100000 in
theorem T222_0 {spec : zRn zH2} {hc : zHC} {o : Int → Int} {d : Nat} (hd : 0 ≤ d) : ∀ (n : Nat) (v1 : Int) (h : zHM) (v : (Int × zHM)), F222_0 n v1 h = some v → zFin 0 (fun _ => 0) (zRu2 spec d) 222 (some (0, v.1)) (hc, v.2, o) (26, [some (22, 0), some (0, v1)], [], (hc, h, o)) := by
  intro n
  induction n with
  | zero => intro v1 h v e; unfold F222_0 at e; cases e
  | succ n hk0 =>
    intro v1 h v e
    unfold F222_0 at e
    rcases zI_s e with ⟨q1, e⟩ | ⟨q1, e⟩
    · refine zF_blk (m := []) (d := 1) (b := B222_7) (gs := [1689 ≤ v1]) (c' := (64, [some (22, 0), some (0, v1)], [], (hc, h, o))) K222_7 rfl ⟨q1, trivial⟩ ?_
      refine zF_blk (m := []) (d := 0) (b := B222_3) (gs := []) (c' := (68, [some (22, 0), some (0, v1)], [(0, (h 23 0))], (hc, h, o))) K222_3 rfl trivial ?_
      exact zF_riM (zRe1_w (by decide +kernel)) e
    · refine zF_blk (m := []) (d := 0) (b := B222_7) (gs := [¬ (1689 ≤ v1)]) (c' := (33, [some (22, 0), some (0, v1)], [], (hc, h, o))) K222_7 rfl ⟨q1, trivial⟩ ?_
      obtain ⟨q2, e⟩ := zG_s e
      obtain ⟨q3, e⟩ := zG_s e
      refine zF_blk (m := []) (d := 0) (b := B222_4) (gs := []) (c' := (41, [some (22, 0), some (0, v1)], [(0, v1), (0, 209), (1344370422, 0)], (hc, h, o))) K222_4 rfl trivial ?_
      refine zF_blk (m := []) (d := 0) (b := B222_5) (gs := []) (c' := (53, [some (22, 0), some (0, v1)], [(0, (h 23 0)), (0, 1689), (1356015353, 0), (0, (wadd 209 v1)), (1344370422, 0)], (hc, h, o))) K222_5 rfl trivial ?_
      refine zF_blk (m := []) (d := 0) (b := B222_6) (gs := [0 ≤ (wadd (wmul 1689 (h 23 0)) v1) ∧ (wadd (wmul 1689 (h 23 0)) v1) < 13512, 0 ≤ (wadd 209 v1) ∧ (wadd 209 v1) < 2140]) (c' := (26, [some (22, 0), some (0, (wadd v1 1))], [], (hc, (mset h 14 (wadd 209 v1) (h 17 (wadd (wmul 1689 (h 23 0)) v1))), o))) K222_6 rfl ⟨q2, q3, trivial⟩ ?_
      exact hk0 (wadd v1 1) (mset h 14 (wadd 209 v1) (h 17 (wadd (wmul 1689 (h 23 0)) v1))) _ e
/-- EchoValeModel.undo()I -/
def F222 (h : zHM) : Option (Int × zHM) := if ¬ (h 23 0) = 0 then F222_0 zFu 0 (mset (mset h 0 0 0) 23 0 (wsub (h 23 0) 1)) else some ((-1), (mset h 0 0 0))
set_option maxRecDepth 100000 in
theorem S222 {spec : zRn zH2} {hc : zHC} {o : Int → Int} {d : Nat} (hd : 1 ≤ d) (h : zHM) (v : (Int × zHM)) (e : F222 h = some v) : zRu2 spec d 222 [(22, 0)] (hc, h, o) (some (0, v.1)) (hc, v.2, o) := by
  refine zF_in (D := 0) (mx := 2) (L := [some (22, 0), none]) (by decide +kernel) rfl rfl hd (fun d hd => ?_)
  unfold F222 at e
  rcases zI_s e with ⟨q1, e⟩ | ⟨q1, e⟩
  · refine zF_blk (m := []) (d := 1) (b := B222_2) (gs := [¬ (h 23 0) = 0]) (c' := (14, [some (22, 0), none], [], (hc, (mset h 0 0 0), o))) K222_2 rfl ⟨q1, trivial⟩ ?_
    refine zF_blk (m := []) (d := 0) (b := B222_0) (gs := []) (c' := (26, [some (22, 0), some (0, 0)], [], (hc, (mset (mset h 0 0 0) 23 0 (wsub (h 23 0) 1)), o))) K222_0 rfl trivial ?_
    exact T222_0 hd zFu 0 (mset (mset h 0 0 0) 23 0 (wsub (h 23 0) 1)) _ e
  · refine zF_blk (m := []) (d := 0) (b := B222_2) (gs := [¬ (¬ (h 23 0) = 0)]) (c' := (12, [some (22, 0), none], [], (hc, (mset h 0 0 0), o))) K222_2 rfl ⟨q1, trivial⟩ ?_
    refine zF_blk (m := []) (d := 0) (b := B222_1) (gs := []) (c' := (13, [some (22, 0), none], [(0, (-1))], (hc, (mset h 0 0 0), o))) K222_1 rfl trivial ?_
    exact zF_riM (zRe1_w (by decide +kernel)) e
noncomputable def B99_0 : List zRow := [(15, .iconst 0, 1, (0, 0, 0))]
theorem K99_0 : zRk 99 B99_0 = true := zRw_ok (by decide +kernel)
noncomputable def B99_1 : List zRow := [(11, .iconst 1, 1, (0, 0, 0)), (12, .goto 4, 3, (0, 0, 0))]
theorem K99_1 : zRk 99 B99_1 = true := zRw_ok (by decide +kernel)
noncomputable def B99_2 : List zRow := [(5, .iload_n 0, 1, (0, 0, 0)), (6, .bipush 60, 2, (0, 0, 0)), (8, .if_icmp .gt 7, 3, (0, 0, 0))]
theorem K99_2 : zRk 99 B99_2 = true := zRw_ok (by decide +kernel)
noncomputable def B99_3 : List zRow := [(0, .iload_n 0, 1, (0, 0, 0)), (1, .iconst 1, 1, (0, 0, 0)), (2, .if_icmp .lt 13, 3, (0, 0, 0))]
theorem K99_3 : zRk 99 B99_3 = true := zRw_ok (by decide +kernel)
/-- EchoVale.isAhead(I)Z -/
def F99 (v0 : Int) : Option Int := if v0 < 1 then some 0 else if 60 < v0 then some 0 else some 1
set_option maxRecDepth 100000 in
theorem S99 {spec : zRn zH2} {hm : zHM} {o : Int → Int} {d : Nat} (hd : 1 ≤ d) (v0 : Int) (h : zHC) (v : Int) (e : F99 v0 = some v) : zRu2 spec d 99 [(0, v0)] (h, hm, o) (some (0, v)) (h, hm, o) := by
  refine zF_in (D := 0) (mx := 1) (L := [some (0, v0)]) (by decide +kernel) rfl rfl hd (fun d hd => ?_)
  unfold F99 at e
  rcases zI_s e with ⟨q1, e⟩ | ⟨q1, e⟩
  · refine zF_blk (m := []) (d := 1) (b := B99_3) (gs := [v0 < 1]) (c' := (15, [some (0, v0)], [], (h, hm, o))) K99_3 rfl ⟨q1, trivial⟩ ?_
    refine zF_blk (m := []) (d := 0) (b := B99_0) (gs := []) (c' := (16, [some (0, v0)], [(0, 0)], (h, hm, o))) K99_0 rfl trivial ?_
    obtain rfl := Option.some.inj e
    exact zF_rb (zRe1_w (by decide +kernel)) (Or.inl rfl)
  · refine zF_blk (m := []) (d := 0) (b := B99_3) (gs := [¬ (v0 < 1)]) (c' := (5, [some (0, v0)], [], (h, hm, o))) K99_3 rfl ⟨q1, trivial⟩ ?_
    rcases zI_s e with ⟨q2, e⟩ | ⟨q2, e⟩
    · refine zF_blk (m := []) (d := 1) (b := B99_2) (gs := [60 < v0]) (c' := (15, [some (0, v0)], [], (h, hm, o))) K99_2 rfl ⟨q2, trivial⟩ ?_
      refine zF_blk (m := []) (d := 0) (b := B99_0) (gs := []) (c' := (16, [some (0, v0)], [(0, 0)], (h, hm, o))) K99_0 rfl trivial ?_
      obtain rfl := Option.some.inj e
      exact zF_rb (zRe1_w (by decide +kernel)) (Or.inl rfl)
    · refine zF_blk (m := []) (d := 0) (b := B99_2) (gs := [¬ (60 < v0)]) (c' := (11, [some (0, v0)], [], (h, hm, o))) K99_2 rfl ⟨q2, trivial⟩ ?_
      refine zF_blk (m := []) (d := 0) (b := B99_1) (gs := []) (c' := (16, [some (0, v0)], [(0, 1)], (h, hm, o))) K99_1 rfl trivial ?_
      obtain rfl := Option.some.inj e
      exact zF_rb (zRe1_w (by decide +kernel)) (Or.inr rfl)
noncomputable def B101_0 : List zRow := [(0, .iconst 0, 1, (0, 0, 0)), (1, .istore_n 2, 1, (0, 0, 0)), (2, .iconst 0, 1, (0, 0, 0)), (3, .istore_n 3, 1, (0, 0, 0))]
theorem K101_0 : zRk 101 B101_0 = true := zRw_ok (by decide +kernel)
noncomputable def B101_1 : List zRow := [(27, .iload_n 2, 1, (0, 0, 0))]
theorem K101_1 : zRk 101 B101_1 = true := zRw_ok (by decide +kernel)
noncomputable def B101_2 : List zRow := [(12, .iload_n 2, 1, (0, 0, 0)), (13, .aload_n 0, 1, (0, 0, 0)), (14, .iload_n 1, 1, (0, 0, 0)), (15, .iload_n 3, 1, (0, 0, 0))]
theorem K101_2 : zRk 101 B101_2 = true := zRw_ok (by decide +kernel)
noncomputable def B101_3 : List zRow := [(19, .iadd, 1, (0, 0, 0)), (20, .istore_n 2, 1, (0, 0, 0)), (21, .iinc 3 1, 3, (0, 0, 0)), (24, .goto (-20), 3, (0, 0, 0))]
theorem K101_3 : zRk 101 B101_3 = true := zRw_ok (by decide +kernel)
noncomputable def B101_4 : List zRow := [(4, .iload_n 3, 1, (0, 0, 0)), (5, .aload_n 0, 1, (0, 0, 0)), (6, .getfield 34, 3, (1, 1, 0)), (9, .if_icmp .ge 18, 3, (0, 0, 0))]
theorem K101_4 : zRk 101 B101_4 = true := zRw_ok (by decide +kernel)
def F101_0 (h : zHC) : Nat → Int → Int → Int → Int → Option Int
  | 0, _, _, _, _ => none
  | n + 1, v0, v1, v2, v3 => if (h 65 v0 0) ≤ v3 then some v2 else (F62 v0 v1 v3 h).bind fun r1 => (F101_0 h n) v0 v1 (wadd v2 r1) (wadd v3 1)
set_option maxRecDepth 100000 in
theorem T101_0 {spec : zRn zH2} {hm : zHM} {o : Int → Int} {d : Nat} (hd : 2 ≤ d) (h : zHC) : ∀ (n : Nat) (v0 : Int) (v1 : Int) (v2 : Int) (v3 : Int) (v : Int), F101_0 h n v0 v1 v2 v3 = some v → zFin 0 (fun _ => 0) (zRu2 spec d) 101 (some (0, v)) (h, hm, o) (4, [some (11, v0), some (0, v1), some (0, v2), some (0, v3)], [], (h, hm, o)) := by
  intro n
  induction n with
  | zero => intro v0 v1 v2 v3 v e; unfold F101_0 at e; cases e
  | succ n hk0 =>
    intro v0 v1 v2 v3 v e
    unfold F101_0 at e
    rcases zI_s e with ⟨q1, e⟩ | ⟨q1, e⟩
    · refine zF_blk (m := []) (d := 1) (b := B101_4) (gs := [(h 65 v0 0) ≤ v3]) (c' := (27, [some (11, v0), some (0, v1), some (0, v2), some (0, v3)], [], (h, hm, o))) K101_4 rfl ⟨q1, trivial⟩ ?_
      refine zF_blk (m := []) (d := 0) (b := B101_1) (gs := []) (c' := (28, [some (11, v0), some (0, v1), some (0, v2), some (0, v3)], [(0, v2)], (h, hm, o))) K101_1 rfl trivial ?_
      obtain rfl := Option.some.inj e
      exact zF_ri (zRe1_w (by decide +kernel))
    · refine zF_blk (m := []) (d := 0) (b := B101_4) (gs := [¬ ((h 65 v0 0) ≤ v3)]) (c' := (12, [some (11, v0), some (0, v1), some (0, v2), some (0, v3)], [], (h, hm, o))) K101_4 rfl ⟨q1, trivial⟩ ?_
      obtain ⟨r1, q2, e⟩ := zB_s e
      refine zF_blk (m := []) (d := 0) (b := B101_2) (gs := []) (c' := (16, [some (11, v0), some (0, v1), some (0, v2), some (0, v3)], [(0, v3), (0, v1), (11, v0), (0, v2)], (h, hm, o))) K101_2 rfl trivial ?_
      refine zF_call (k := 62) (cl := 1) (n := 3) (i := .invokevirtual 150) (args := [(11, v0), (0, v1), (0, v3)]) (rest := [(0, v2)]) (g1 := (h, hm, o)) (r1 := some (0, r1)) (zCk1_w (by decide +kernel)) rfl rfl rfl (st' := [(0, r1), (0, v2)]) rfl (S62 (Nat.le_trans (by decide) hd) v0 v1 v3 h _ q2) ?_
      refine zF_blk (m := []) (d := 0) (b := B101_3) (gs := []) (c' := (4, [some (11, v0), some (0, v1), some (0, (wadd v2 r1)), some (0, (wadd v3 1))], [], (h, hm, o))) K101_3 rfl trivial ?_
      exact hk0 v0 v1 (wadd v2 r1) (wadd v3 1) _ e
/-- EchoVale$Course.wealth(I)I -/
def F101 (v0 : Int) (v1 : Int) (h : zHC) : Option Int := F101_0 h zFu v0 v1 0 0
set_option maxRecDepth 100000 in
theorem S101 {spec : zRn zH2} {hm : zHM} {o : Int → Int} {d : Nat} (hd : 3 ≤ d) (v0 : Int) (v1 : Int) (h : zHC) (v : Int) (e : F101 v0 v1 h = some v) : zRu2 spec d 101 [(11, v0), (0, v1)] (h, hm, o) (some (0, v)) (h, hm, o) := by
  refine zF_in (D := 2) (mx := 4) (L := [some (11, v0), some (0, v1), none, none]) (by decide +kernel) rfl rfl hd (fun d hd => ?_)
  unfold F101 at e
  refine zF_blk (m := []) (d := 0) (b := B101_0) (gs := []) (c' := (4, [some (11, v0), some (0, v1), some (0, 0), some (0, 0)], [], (h, hm, o))) K101_0 rfl trivial ?_
  exact T101_0 hd h zFu v0 v1 0 0 _ e
noncomputable def B100_0 : List zRow := [(0, .aload_n 0, 1, (0, 0, 0)), (1, .getfield 60, 3, (11, 7, 135)), (4, .aload_n 0, 1, (0, 0, 0)), (5, .getfield 56, 3, (11, 6, 7))]
theorem K100_0 : zRk 100 B100_0 = true := zRw_ok (by decide +kernel)
noncomputable def B100_1 : List zRow := [(11, .aload_n 0, 1, (0, 0, 0)), (12, .getfield 60, 3, (11, 7, 135)), (15, .getfield 177, 3, (1, 3, 5242906)), (18, .iload_n 1, 1, (0, 0, 0)), (19, .iload_n 2, 1, (0, 0, 0)), (20, .iastore, 1, (0, 0, 0)), (21, .aload_n 0, 1, (0, 0, 0)), (22, .getfield 60, 3, (11, 7, 135)), (25, .aload_n 0, 1, (0, 0, 0)), (26, .getfield 19, 3, (11, 1, 39)), (29, .iload_n 3, 1, (0, 0, 0))]
theorem K100_1 : zRk 100 B100_1 = true := zRw_ok (by decide +kernel)
noncomputable def B100_2 : List zRow := [(33, .pop, 1, (0, 0, 0)), (34, .aload_n 0, 1, (0, 0, 0)), (35, .getfield 60, 3, (11, 7, 135)), (38, .iload_n 1, 1, (0, 0, 0))]
theorem K100_2 : zRk 100 B100_2 = true := zRw_ok (by decide +kernel)
/-- EchoVale.wealthByCamping(III)I -/
def F100 (v1 : Int) (v2 : Int) (v3 : Int) (h : zHC) : Option (Int × zHC) := (F71 1 0 h).bind fun r1 => zG (0 ≤ v1 ∧ v1 < 6) ((F88 1 0 v3 (hset r1 67 1 v1 v2)).bind fun r2 => (F101 1 v1 r2.2).bind fun r3 => some (r3, r2.2))
set_option maxRecDepth 100000 in
theorem S100 {spec : zRn zH2} {hm : zHM} {o : Int → Int} {d : Nat} (hd : 7 ≤ d) (v1 : Int) (v2 : Int) (v3 : Int) (h : zHC) (v : (Int × zHC)) (e : F100 v1 v2 v3 h = some v) : zRu2 spec d 100 [(21, 0), (0, v1), (0, v2), (0, v3)] (h, hm, o) (some (0, v.1)) (v.2, hm, o) := by
  refine zF_in (D := 6) (mx := 4) (L := [some (21, 0), some (0, v1), some (0, v2), some (0, v3)]) (by decide +kernel) rfl rfl hd (fun d hd => ?_)
  unfold F100 at e
  obtain ⟨r1, q1, e⟩ := zB_s e
  refine zF_blk (m := []) (d := 0) (b := B100_0) (gs := []) (c' := (8, [some (21, 0), some (0, v1), some (0, v2), some (0, v3)], [(11, 0), (11, 1)], (h, hm, o))) K100_0 rfl trivial ?_
  refine zF_call (k := 71) (cl := 1) (n := 2) (i := .invokevirtual 266) (args := [(11, 1), (11, 0)]) (rest := []) (g1 := (r1, hm, o)) (r1 := none) (zCk1_w (by decide +kernel)) rfl rfl rfl (st' := []) rfl (S71 (Nat.le_trans (by decide) hd) 1 0 h _ q1) ?_
  obtain ⟨q2, e⟩ := zG_s e
  obtain ⟨r2, q3, e⟩ := zB_s e
  refine zF_blk (m := []) (d := 0) (b := B100_1) (gs := [0 ≤ v1 ∧ v1 < 6]) (c' := (30, [some (21, 0), some (0, v1), some (0, v2), some (0, v3)], [(0, v3), (19, 0), (11, 1)], ((hset r1 67 1 v1 v2), hm, o))) K100_1 rfl ⟨q2, trivial⟩ ?_
  refine zF_call (k := 88) (cl := 1) (n := 3) (i := .invokevirtual 231) (args := [(11, 1), (19, 0), (0, v3)]) (rest := []) (g1 := (r2.2, hm, o)) (r1 := some (0, r2.1)) (zCk1_w (by decide +kernel)) rfl rfl rfl (st' := [(0, r2.1)]) rfl (S88 (Nat.le_trans (by decide) hd) 1 0 v3 (hset r1 67 1 v1 v2) _ q3) ?_
  obtain ⟨r3, q4, e⟩ := zB_s e
  refine zF_blk (m := []) (d := 0) (b := B100_2) (gs := []) (c' := (39, [some (21, 0), some (0, v1), some (0, v2), some (0, v3)], [(0, v1), (11, 1)], (r2.2, hm, o))) K100_2 rfl trivial ?_
  refine zF_call (k := 101) (cl := 1) (n := 2) (i := .invokevirtual 179) (args := [(11, 1), (0, v1)]) (rest := []) (g1 := (r2.2, hm, o)) (r1 := some (0, r3)) (zCk1_w (by decide +kernel)) rfl rfl rfl (st' := [(0, r3)]) rfl (S101 (Nat.le_trans (by decide) hd) 1 v1 r2.2 _ q4) ?_
  exact zF_riC (zRe1_w (by decide +kernel)) e
noncomputable def B98_0 : List zRow := [(0, .aload_n 0, 1, (0, 0, 0)), (1, .iload_n 1, 1, (0, 0, 0))]
theorem K98_0 : zRk 98 B98_0 = true := zRw_ok (by decide +kernel)
noncomputable def B98_1 : List zRow := [(15, .iconst (-1), 1, (0, 0, 0))]
theorem K98_1 : zRk 98 B98_1 = true := zRw_ok (by decide +kernel)
noncomputable def B98_2 : List zRow := [(8, .iload_n 2, 1, (0, 0, 0))]
theorem K98_2 : zRk 98 B98_2 = true := zRw_ok (by decide +kernel)
noncomputable def B98_3 : List zRow := [(17, .iconst (-1), 1, (0, 0, 0)), (18, .istore_n 3, 1, (0, 0, 0)), (19, .iconst (-1), 1, (0, 0, 0)), (20, .istore 4, 2, (0, 0, 0)), (22, .iconst 0, 1, (0, 0, 0)), (23, .istore 5, 2, (0, 0, 0))]
theorem K98_3 : zRk 98 B98_3 = true := zRw_ok (by decide +kernel)
noncomputable def B98_4 : List zRow := [(12, .ifCond .ne 5, 3, (0, 0, 0))]
theorem K98_4 : zRk 98 B98_4 = true := zRw_ok (by decide +kernel)
noncomputable def B98_5 : List zRow := [(5, .ifCond .eq 10, 3, (0, 0, 0))]
theorem K98_5 : zRk 98 B98_5 = true := zRw_ok (by decide +kernel)
noncomputable def B98_6 : List zRow := [(78, .iload_n 3, 1, (0, 0, 0))]
theorem K98_6 : zRk 98 B98_6 = true := zRw_ok (by decide +kernel)
noncomputable def B98_7 : List zRow := [(32, .aload_n 0, 1, (0, 0, 0)), (33, .getfield 19, 3, (11, 1, 39)), (36, .iload 5, 2, (0, 0, 0))]
theorem K98_7 : zRk 98 B98_7 = true := zRw_ok (by decide +kernel)
noncomputable def B98_8 : List zRow := [(55, .iconst (-1), 1, (0, 0, 0))]
theorem K98_8 : zRk 98 B98_8 = true := zRw_ok (by decide +kernel)
noncomputable def B98_9 : List zRow := [(44, .aload_n 0, 1, (0, 0, 0)), (45, .iload_n 1, 1, (0, 0, 0)), (46, .iload 5, 2, (0, 0, 0)), (48, .iload_n 2, 1, (0, 0, 0))]
theorem K98_9 : zRk 98 B98_9 = true := zRw_ok (by decide +kernel)
noncomputable def B98_10 : List zRow := [(52, .goto 4, 3, (0, 0, 0))]
theorem K98_10 : zRk 98 B98_10 = true := zRw_ok (by decide +kernel)
noncomputable def B98_11 : List zRow := [(41, .ifCond .eq 14, 3, (0, 0, 0))]
theorem K98_11 : zRk 98 B98_11 = true := zRw_ok (by decide +kernel)
noncomputable def B98_12 : List zRow := [(25, .iload 5, 2, (0, 0, 0)), (27, .bipush 100, 2, (0, 0, 0)), (29, .if_icmp .ge 49, 3, (0, 0, 0))]
theorem K98_12 : zRk 98 B98_12 = true := zRw_ok (by decide +kernel)
noncomputable def B98_13 : List zRow := [(65, .iload 6, 2, (0, 0, 0)), (67, .istore 4, 2, (0, 0, 0)), (69, .iload 5, 2, (0, 0, 0)), (71, .istore_n 3, 1, (0, 0, 0))]
theorem K98_13 : zRk 98 B98_13 = true := zRw_ok (by decide +kernel)
noncomputable def B98_14 : List zRow := [(56, .istore 6, 2, (0, 0, 0)), (58, .iload 6, 2, (0, 0, 0)), (60, .iload 4, 2, (0, 0, 0)), (62, .if_icmp .le 10, 3, (0, 0, 0))]
theorem K98_14 : zRk 98 B98_14 = true := zRw_ok (by decide +kernel)
noncomputable def B98_15 : List zRow := [(72, .iinc 5 1, 3, (0, 0, 0)), (75, .goto (-50), 3, (0, 0, 0))]
theorem K98_15 : zRk 98 B98_15 = true := zRw_ok (by decide +kernel)
def F98_2 (k0 : Int → Int → Int → Int → Int → zHC → Option (Int × zHC)) (v1 : Int) (v2 : Int) (v3 : Int) (v4 : Int) (v5 : Int) (h : zHC) : Option (Int × zHC) := k0 v1 v2 v3 v4 (wadd v5 1) h
set_option maxRecDepth 100000 in
theorem T98_2 {spec : zRn zH2} {hm : zHM} {o : Int → Int} {d : Nat} (hd : 7 ≤ d) (k0 : Int → Int → Int → Int → Int → zHC → Option (Int × zHC)) (hk0 : ∀ (v1 : Int) (v2 : Int) (v3 : Int) (v4 : Int) (v5 : Int) (h : zHC) (v : (Int × zHC)), k0 v1 v2 v3 v4 v5 h = some v → zFin 0 (fun _ => 0) (zRu2 spec d) 98 (some (0, v.1)) (v.2, hm, o) (25, [some (21, 0), some (0, v1), some (0, v2), some (0, v3), some (0, v4), some (0, v5), none], [], (h, hm, o))) (v1 : Int) (v2 : Int) (v3 : Int) (v4 : Int) (v5 : Int) (h : zHC) (v : (Int × zHC)) (e : F98_2 k0 v1 v2 v3 v4 v5 h = some v) : zFin 0 (fun _ => 0) (zRu2 spec d) 98 (some (0, v.1)) (v.2, hm, o) (72, [some (21, 0), some (0, v1), some (0, v2), some (0, v3), some (0, v4), some (0, v5), none], [], (h, hm, o)) := by
  unfold F98_2 at e
  refine zF_blk (m := []) (d := 0) (b := B98_15) (gs := []) (c' := (25, [some (21, 0), some (0, v1), some (0, v2), some (0, v3), some (0, v4), some (0, (wadd v5 1)), none], [], (h, hm, o))) K98_15 rfl trivial ?_
  exact hk0 v1 v2 v3 v4 (wadd v5 1) h _ e
def F98_1 (k0 : Int → Int → Int → Int → Int → zHC → Option (Int × zHC)) (v1 : Int) (v2 : Int) (v3 : Int) (v4 : Int) (v5 : Int) (s0 : Int) (h : zHC) : Option (Int × zHC) := if s0 ≤ v4 then F98_2 k0 v1 v2 v3 v4 v5 h else F98_2 k0 v1 v2 v5 s0 v5 h
set_option maxRecDepth 100000 in
theorem T98_1 {spec : zRn zH2} {hm : zHM} {o : Int → Int} {d : Nat} (hd : 7 ≤ d) (k0 : Int → Int → Int → Int → Int → zHC → Option (Int × zHC)) (hk0 : ∀ (v1 : Int) (v2 : Int) (v3 : Int) (v4 : Int) (v5 : Int) (h : zHC) (v : (Int × zHC)), k0 v1 v2 v3 v4 v5 h = some v → zFin 0 (fun _ => 0) (zRu2 spec d) 98 (some (0, v.1)) (v.2, hm, o) (25, [some (21, 0), some (0, v1), some (0, v2), some (0, v3), some (0, v4), some (0, v5), none], [], (h, hm, o))) (v1 : Int) (v2 : Int) (v3 : Int) (v4 : Int) (v5 : Int) (s0 : Int) (h : zHC) (v : (Int × zHC)) (e : F98_1 k0 v1 v2 v3 v4 v5 s0 h = some v) : zFin 0 (fun _ => 0) (zRu2 spec d) 98 (some (0, v.1)) (v.2, hm, o) (56, [some (21, 0), some (0, v1), some (0, v2), some (0, v3), some (0, v4), some (0, v5), none], [(0, s0)], (h, hm, o)) := by
  unfold F98_1 at e
  rcases zI_s e with ⟨q1, e⟩ | ⟨q1, e⟩
  · refine zF_blk (m := []) (d := 1) (b := B98_14) (gs := [s0 ≤ v4]) (c' := (72, [some (21, 0), some (0, v1), some (0, v2), some (0, v3), some (0, v4), some (0, v5), some (0, s0)], [], (h, hm, o))) K98_14 rfl ⟨q1, trivial⟩ ?_
    refine zF_blk (m := [true, true, true, true, true, true, false]) (d := 0) (b := []) (gs := []) (c' := (72, [some (21, 0), some (0, v1), some (0, v2), some (0, v3), some (0, v4), some (0, v5), none], [], (h, hm, o))) rfl rfl trivial ?_
    exact T98_2 hd k0 hk0 v1 v2 v3 v4 v5 h _ e
  · refine zF_blk (m := []) (d := 0) (b := B98_14) (gs := [¬ (s0 ≤ v4)]) (c' := (65, [some (21, 0), some (0, v1), some (0, v2), some (0, v3), some (0, v4), some (0, v5), some (0, s0)], [], (h, hm, o))) K98_14 rfl ⟨q1, trivial⟩ ?_
    refine zF_blk (m := []) (d := 0) (b := B98_13) (gs := []) (c' := (72, [some (21, 0), some (0, v1), some (0, v2), some (0, v5), some (0, s0), some (0, v5), some (0, s0)], [], (h, hm, o))) K98_13 rfl trivial ?_
    refine zF_blk (m := [true, true, true, true, true, true, false]) (d := 0) (b := []) (gs := []) (c' := (72, [some (21, 0), some (0, v1), some (0, v2), some (0, v5), some (0, s0), some (0, v5), none], [], (h, hm, o))) rfl rfl trivial ?_
    exact T98_2 hd k0 hk0 v1 v2 v5 s0 v5 h _ e
def F98_0 : Nat → Int → Int → Int → Int → Int → zHC → Option (Int × zHC)
  | 0, _, _, _, _, _, _ => none
  | n + 1, v1, v2, v3, v4, v5, h => if 100 ≤ v5 then some (v3, h) else (F69 0 v5 h).bind fun r1 => if r1 = 0 then F98_1 (F98_0 n) v1 v2 v3 v4 v5 (-1) h else (F100 v1 v5 v2 h).bind fun r2 => F98_1 (F98_0 n) v1 v2 v3 v4 v5 r2.1 r2.2
set_option maxRecDepth 100000 in
theorem T98_0 {spec : zRn zH2} {hm : zHM} {o : Int → Int} {d : Nat} (hd : 7 ≤ d) : ∀ (n : Nat) (v1 : Int) (v2 : Int) (v3 : Int) (v4 : Int) (v5 : Int) (h : zHC) (v : (Int × zHC)), F98_0 n v1 v2 v3 v4 v5 h = some v → zFin 0 (fun _ => 0) (zRu2 spec d) 98 (some (0, v.1)) (v.2, hm, o) (25, [some (21, 0), some (0, v1), some (0, v2), some (0, v3), some (0, v4), some (0, v5), none], [], (h, hm, o)) := by
  intro n
  induction n with
  | zero => intro v1 v2 v3 v4 v5 h v e; unfold F98_0 at e; cases e
  | succ n hk0 =>
    intro v1 v2 v3 v4 v5 h v e
    unfold F98_0 at e
    rcases zI_s e with ⟨q1, e⟩ | ⟨q1, e⟩
    · refine zF_blk (m := []) (d := 1) (b := B98_12) (gs := [100 ≤ v5]) (c' := (78, [some (21, 0), some (0, v1), some (0, v2), some (0, v3), some (0, v4), some (0, v5), none], [], (h, hm, o))) K98_12 rfl ⟨q1, trivial⟩ ?_
      refine zF_blk (m := []) (d := 0) (b := B98_6) (gs := []) (c' := (79, [some (21, 0), some (0, v1), some (0, v2), some (0, v3), some (0, v4), some (0, v5), none], [(0, v3)], (h, hm, o))) K98_6 rfl trivial ?_
      exact zF_riC (zRe1_w (by decide +kernel)) e
    · refine zF_blk (m := []) (d := 0) (b := B98_12) (gs := [¬ (100 ≤ v5)]) (c' := (32, [some (21, 0), some (0, v1), some (0, v2), some (0, v3), some (0, v4), some (0, v5), none], [], (h, hm, o))) K98_12 rfl ⟨q1, trivial⟩ ?_
      obtain ⟨r1, q2, e⟩ := zB_s e
      refine zF_blk (m := []) (d := 0) (b := B98_7) (gs := []) (c' := (38, [some (21, 0), some (0, v1), some (0, v2), some (0, v3), some (0, v4), some (0, v5), none], [(0, v5), (19, 0)], (h, hm, o))) K98_7 rfl trivial ?_
      refine zF_call (k := 69) (cl := 9) (n := 2) (i := .invokevirtual 214) (args := [(19, 0), (0, v5)]) (rest := []) (g1 := (h, hm, o)) (r1 := some (0, r1)) (zCk1_w (by decide +kernel)) rfl rfl rfl (st' := [(0, r1)]) rfl (S69 (Nat.le_trans (by decide) hd) 0 v5 h _ q2) ?_
      rcases zI_s e with ⟨q3, e⟩ | ⟨q3, e⟩
      · refine zF_blk (m := []) (d := 1) (b := B98_11) (gs := [r1 = 0]) (c' := (55, [some (21, 0), some (0, v1), some (0, v2), some (0, v3), some (0, v4), some (0, v5), none], [], (h, hm, o))) K98_11 rfl ⟨q3, trivial⟩ ?_
        refine zF_blk (m := []) (d := 0) (b := B98_8) (gs := []) (c' := (56, [some (21, 0), some (0, v1), some (0, v2), some (0, v3), some (0, v4), some (0, v5), none], [(0, (-1))], (h, hm, o))) K98_8 rfl trivial ?_
        exact T98_1 hd (F98_0 n) hk0 v1 v2 v3 v4 v5 (-1) h _ e
      · refine zF_blk (m := []) (d := 0) (b := B98_11) (gs := [¬ (r1 = 0)]) (c' := (44, [some (21, 0), some (0, v1), some (0, v2), some (0, v3), some (0, v4), some (0, v5), none], [], (h, hm, o))) K98_11 rfl ⟨q3, trivial⟩ ?_
        obtain ⟨r2, q4, e⟩ := zB_s e
        refine zF_blk (m := []) (d := 0) (b := B98_9) (gs := []) (c' := (49, [some (21, 0), some (0, v1), some (0, v2), some (0, v3), some (0, v4), some (0, v5), none], [(0, v2), (0, v5), (0, v1), (21, 0)], (h, hm, o))) K98_9 rfl trivial ?_
        refine zF_call (k := 100) (cl := 11) (n := 4) (i := .invokevirtual 245) (args := [(21, 0), (0, v1), (0, v5), (0, v2)]) (rest := []) (g1 := (r2.2, hm, o)) (r1 := some (0, r2.1)) (zCk1_w (by decide +kernel)) rfl rfl rfl (st' := [(0, r2.1)]) rfl (S100 (Nat.le_trans (by decide) hd) v1 v5 v2 h _ q4) ?_
        refine zF_blk (m := []) (d := 0) (b := B98_10) (gs := []) (c' := (56, [some (21, 0), some (0, v1), some (0, v2), some (0, v3), some (0, v4), some (0, v5), none], [(0, r2.1)], (r2.2, hm, o))) K98_10 rfl trivial ?_
        exact T98_1 hd (F98_0 n) hk0 v1 v2 v3 v4 v5 r2.1 r2.2 _ e
/-- EchoVale.camp(II)I -/
def F98 (v1 : Int) (v2 : Int) (h : zHC) : Option (Int × zHC) := (F61 v1 h).bind fun r1 => if r1 = 0 then some ((-1), h) else (F99 v2).bind fun r2 => if ¬ r2 = 0 then F98_0 zFu v1 v2 (-1) (-1) 0 h else some ((-1), h)
set_option maxRecDepth 100000 in
theorem S98 {spec : zRn zH2} {hm : zHM} {o : Int → Int} {d : Nat} (hd : 8 ≤ d) (v1 : Int) (v2 : Int) (h : zHC) (v : (Int × zHC)) (e : F98 v1 v2 h = some v) : zRu2 spec d 98 [(21, 0), (0, v1), (0, v2)] (h, hm, o) (some (0, v.1)) (v.2, hm, o) := by
  refine zF_in (D := 7) (mx := 7) (L := [some (21, 0), some (0, v1), some (0, v2), none, none, none, none]) (by decide +kernel) rfl rfl hd (fun d hd => ?_)
  unfold F98 at e
  obtain ⟨r1, q1, e⟩ := zB_s e
  refine zF_blk (m := []) (d := 0) (b := B98_0) (gs := []) (c' := (2, [some (21, 0), some (0, v1), some (0, v2), none, none, none, none], [(0, v1), (21, 0)], (h, hm, o))) K98_0 rfl trivial ?_
  refine zF_call (k := 61) (cl := 11) (n := 2) (i := .invokevirtual 172) (args := [(21, 0), (0, v1)]) (rest := []) (g1 := (h, hm, o)) (r1 := some (0, r1)) (zCk1_w (by decide +kernel)) rfl rfl rfl (st' := [(0, r1)]) rfl (S61 (Nat.le_trans (by decide) hd) v1 h _ q1) ?_
  rcases zI_s e with ⟨q2, e⟩ | ⟨q2, e⟩
  · refine zF_blk (m := []) (d := 1) (b := B98_5) (gs := [r1 = 0]) (c' := (15, [some (21, 0), some (0, v1), some (0, v2), none, none, none, none], [], (h, hm, o))) K98_5 rfl ⟨q2, trivial⟩ ?_
    refine zF_blk (m := []) (d := 0) (b := B98_1) (gs := []) (c' := (16, [some (21, 0), some (0, v1), some (0, v2), none, none, none, none], [(0, (-1))], (h, hm, o))) K98_1 rfl trivial ?_
    exact zF_riC (zRe1_w (by decide +kernel)) e
  · refine zF_blk (m := []) (d := 0) (b := B98_5) (gs := [¬ (r1 = 0)]) (c' := (8, [some (21, 0), some (0, v1), some (0, v2), none, none, none, none], [], (h, hm, o))) K98_5 rfl ⟨q2, trivial⟩ ?_
    obtain ⟨r2, q3, e⟩ := zB_s e
    refine zF_blk (m := []) (d := 0) (b := B98_2) (gs := []) (c' := (9, [some (21, 0), some (0, v1), some (0, v2), none, none, none, none], [(0, v2)], (h, hm, o))) K98_2 rfl trivial ?_
    refine zF_call (k := 99) (cl := 11) (n := 1) (i := .invokestatic 242) (args := [(0, v2)]) (rest := []) (g1 := (h, hm, o)) (r1 := some (0, r2)) (zCk1_w (by decide +kernel)) rfl rfl rfl (st' := [(0, r2)]) rfl (S99 (Nat.le_trans (by decide) hd) v2 h _ q3) ?_
    rcases zI_s e with ⟨q4, e⟩ | ⟨q4, e⟩
    · refine zF_blk (m := []) (d := 1) (b := B98_4) (gs := [¬ r2 = 0]) (c' := (17, [some (21, 0), some (0, v1), some (0, v2), none, none, none, none], [], (h, hm, o))) K98_4 rfl ⟨q4, trivial⟩ ?_
      refine zF_blk (m := []) (d := 0) (b := B98_3) (gs := []) (c' := (25, [some (21, 0), some (0, v1), some (0, v2), some (0, (-1)), some (0, (-1)), some (0, 0), none], [], (h, hm, o))) K98_3 rfl trivial ?_
      exact T98_0 hd zFu v1 v2 (-1) (-1) 0 h _ e
    · refine zF_blk (m := []) (d := 0) (b := B98_4) (gs := [¬ (¬ r2 = 0)]) (c' := (15, [some (21, 0), some (0, v1), some (0, v2), none, none, none, none], [], (h, hm, o))) K98_4 rfl ⟨q4, trivial⟩ ?_
      refine zF_blk (m := []) (d := 0) (b := B98_1) (gs := []) (c' := (16, [some (21, 0), some (0, v1), some (0, v2), none, none, none, none], [(0, (-1))], (h, hm, o))) K98_1 rfl trivial ?_
      exact zF_riC (zRe1_w (by decide +kernel)) e
noncomputable def B242_0 : List zRow := [(0, .iload_n 0, 1, (0, 0, 0)), (1, .iconst 1, 1, (0, 0, 0)), (2, .bipush 60, 2, (0, 0, 0))]
theorem K242_0 : zRk 242 B242_0 = true := zRw_ok (by decide +kernel)
/-- EchoValeModel.isTime(I)Z -/
def F242 (v0 : Int) : Option Int := (F188 v0 1 60).bind fun r1 => zG (r1 = 0 ∨ r1 = 1) (some r1)
set_option maxRecDepth 100000 in
theorem S242 {spec : zRn zH2} {hc : zHC} {o : Int → Int} {d : Nat} (hd : 2 ≤ d) (v0 : Int) (h : zHM) (v : Int) (e : F242 v0 = some v) : zRu2 spec d 242 [(0, v0)] (hc, h, o) (some (0, v)) (hc, h, o) := by
  refine zF_in (D := 1) (mx := 1) (L := [some (0, v0)]) (by decide +kernel) rfl rfl hd (fun d hd => ?_)
  unfold F242 at e
  obtain ⟨r1, q1, e⟩ := zB_s e
  refine zF_blk (m := []) (d := 0) (b := B242_0) (gs := []) (c' := (4, [some (0, v0)], [(0, 60), (0, 1), (0, v0)], (hc, h, o))) K242_0 rfl trivial ?_
  refine zF_call (k := 188) (cl := 12) (n := 3) (i := .invokestatic 151) (args := [(0, v0), (0, 1), (0, 60)]) (rest := []) (g1 := (hc, h, o)) (r1 := some (0, r1)) (zCk1_w (by decide +kernel)) rfl rfl rfl (st' := [(0, r1)]) rfl (S188 (Nat.le_trans (by decide) hd) v0 1 60 h _ q1) ?_
  obtain ⟨q2, e⟩ := zG_s e
  obtain rfl := Option.some.inj e
  exact zF_rb (zRe1_w (by decide +kernel)) q2
noncomputable def B244_0 : List zRow := [(0, .iconst 0, 1, (0, 0, 0)), (1, .istore_n 1, 1, (0, 0, 0))]
theorem K244_0 : zRk 244 B244_0 = true := zRw_ok (by decide +kernel)
noncomputable def B244_1 : List zRow := [(9, .aload_n 0, 1, (0, 0, 0)), (10, .getfield 25, 3, (12, 18, 5249638)), (13, .iload_n 1, 1, (0, 0, 0)), (14, .aload_n 0, 1, (0, 0, 0)), (15, .getfield 13, 3, (12, 14, 5251442)), (18, .sipush 209, 3, (0, 0, 0)), (21, .iload_n 1, 1, (0, 0, 0))]
theorem K244_1 : zRk 244 B244_1 = true := zRw_ok (by decide +kernel)
noncomputable def B244_2 : List zRow := [(22, .iadd, 1, (0, 0, 0)), (23, .iaload, 1, (0, 0, 0)), (24, .iastore, 1, (0, 0, 0)), (25, .iinc 1 1, 3, (0, 0, 0)), (28, .goto (-26), 3, (0, 0, 0))]
theorem K244_2 : zRk 244 B244_2 = true := zRw_ok (by decide +kernel)
noncomputable def B244_3 : List zRow := [(2, .iload_n 1, 1, (0, 0, 0)), (3, .sipush 1689, 3, (0, 0, 0)), (6, .if_icmp .ge 25, 3, (0, 0, 0))]
theorem K244_3 : zRk 244 B244_3 = true := zRw_ok (by decide +kernel)
def F244_0 : Nat → Int → zHM → Option zHM
  | 0, _, _ => none
  | n + 1, v1, h => if 1689 ≤ v1 then some h else zG (0 ≤ (wadd 209 v1) ∧ (wadd 209 v1) < 2140) (zG (0 ≤ v1 ∧ v1 < 1689) ((F244_0 n) (wadd v1 1) (mset h 18 v1 (h 14 (wadd 209 v1)))))
set_option maxRecDepth 100000 in
theorem T244_0 {spec : zRn zH2} {hc : zHC} {o : Int → Int} {d : Nat} (hd : 0 ≤ d) : ∀ (n : Nat) (v1 : Int) (h : zHM) (v : zHM), F244_0 n v1 h = some v → zFin 0 (fun _ => 0) (zRu2 spec d) 244 none (hc, v, o) (2, [some (22, 0), some (0, v1)], [], (hc, h, o)) := by
  intro n
  induction n with
  | zero => intro v1 h v e; unfold F244_0 at e; cases e
  | succ n hk0 =>
    intro v1 h v e
    unfold F244_0 at e
    rcases zI_s e with ⟨q1, e⟩ | ⟨q1, e⟩
    · refine zF_blk (m := []) (d := 1) (b := B244_3) (gs := [1689 ≤ v1]) (c' := (31, [some (22, 0), some (0, v1)], [], (hc, h, o))) K244_3 rfl ⟨q1, trivial⟩ ?_
      obtain rfl := Option.some.inj e
      exact zF_rv (zRe1_w (by decide +kernel))
    · refine zF_blk (m := []) (d := 0) (b := B244_3) (gs := [¬ (1689 ≤ v1)]) (c' := (9, [some (22, 0), some (0, v1)], [], (hc, h, o))) K244_3 rfl ⟨q1, trivial⟩ ?_
      obtain ⟨q2, e⟩ := zG_s e
      obtain ⟨q3, e⟩ := zG_s e
      refine zF_blk (m := []) (d := 0) (b := B244_1) (gs := []) (c' := (22, [some (22, 0), some (0, v1)], [(0, v1), (0, 209), (1344370422, 0), (0, v1), (1343908602, 0)], (hc, h, o))) K244_1 rfl trivial ?_
      refine zF_blk (m := []) (d := 0) (b := B244_2) (gs := [0 ≤ (wadd 209 v1) ∧ (wadd 209 v1) < 2140, 0 ≤ v1 ∧ v1 < 1689]) (c' := (2, [some (22, 0), some (0, (wadd v1 1))], [], (hc, (mset h 18 v1 (h 14 (wadd 209 v1))), o))) K244_2 rfl ⟨q2, q3, trivial⟩ ?_
      exact hk0 (wadd v1 1) (mset h 18 v1 (h 14 (wadd 209 v1))) _ e
/-- EchoValeModel.layAside()V -/
def F244 (h : zHM) : Option zHM := F244_0 zFu 0 h
set_option maxRecDepth 100000 in
theorem S244 {spec : zRn zH2} {hc : zHC} {o : Int → Int} {d : Nat} (hd : 1 ≤ d) (h : zHM) (v : zHM) (e : F244 h = some v) : zRu2 spec d 244 [(22, 0)] (hc, h, o) none (hc, v, o) := by
  refine zF_in (D := 0) (mx := 2) (L := [some (22, 0), none]) (by decide +kernel) rfl rfl hd (fun d hd => ?_)
  unfold F244 at e
  refine zF_blk (m := []) (d := 0) (b := B244_0) (gs := []) (c' := (2, [some (22, 0), some (0, 0)], [], (hc, h, o))) K244_0 rfl trivial ?_
  exact T244_0 hd zFu 0 h _ e
noncomputable def B245_0 : List zRow := [(0, .iconst 0, 1, (0, 0, 0)), (1, .istore_n 1, 1, (0, 0, 0))]
theorem K245_0 : zRk 245 B245_0 = true := zRw_ok (by decide +kernel)
noncomputable def B245_1 : List zRow := [(9, .aload_n 0, 1, (0, 0, 0)), (10, .getfield 13, 3, (12, 14, 5251442)), (13, .sipush 209, 3, (0, 0, 0)), (16, .iload_n 1, 1, (0, 0, 0))]
theorem K245_1 : zRk 245 B245_1 = true := zRw_ok (by decide +kernel)
noncomputable def B245_2 : List zRow := [(17, .iadd, 1, (0, 0, 0)), (18, .aload_n 0, 1, (0, 0, 0)), (19, .getfield 25, 3, (12, 18, 5249638)), (22, .iload_n 1, 1, (0, 0, 0)), (23, .iaload, 1, (0, 0, 0)), (24, .iastore, 1, (0, 0, 0)), (25, .iinc 1 1, 3, (0, 0, 0)), (28, .goto (-26), 3, (0, 0, 0))]
theorem K245_2 : zRk 245 B245_2 = true := zRw_ok (by decide +kernel)
noncomputable def B245_3 : List zRow := [(2, .iload_n 1, 1, (0, 0, 0)), (3, .sipush 1689, 3, (0, 0, 0)), (6, .if_icmp .ge 25, 3, (0, 0, 0))]
theorem K245_3 : zRk 245 B245_3 = true := zRw_ok (by decide +kernel)
def F245_0 : Nat → Int → zHM → Option zHM
  | 0, _, _ => none
  | n + 1, v1, h => if 1689 ≤ v1 then some h else zG (0 ≤ v1 ∧ v1 < 1689) (zG (0 ≤ (wadd 209 v1) ∧ (wadd 209 v1) < 2140) ((F245_0 n) (wadd v1 1) (mset h 14 (wadd 209 v1) (h 18 v1))))
set_option maxRecDepth 100000 in
theorem T245_0 {spec : zRn zH2} {hc : zHC} {o : Int → Int} {d : Nat} (hd : 0 ≤ d) : ∀ (n : Nat) (v1 : Int) (h : zHM) (v : zHM), F245_0 n v1 h = some v → zFin 0 (fun _ => 0) (zRu2 spec d) 245 none (hc, v, o) (2, [some (22, 0), some (0, v1)], [], (hc, h, o)) := by
  intro n
  induction n with
  | zero => intro v1 h v e; unfold F245_0 at e; cases e
  | succ n hk0 =>
    intro v1 h v e
    unfold F245_0 at e
    rcases zI_s e with ⟨q1, e⟩ | ⟨q1, e⟩
    · refine zF_blk (m := []) (d := 1) (b := B245_3) (gs := [1689 ≤ v1]) (c' := (31, [some (22, 0), some (0, v1)], [], (hc, h, o))) K245_3 rfl ⟨q1, trivial⟩ ?_
      obtain rfl := Option.some.inj e
      exact zF_rv (zRe1_w (by decide +kernel))
    · refine zF_blk (m := []) (d := 0) (b := B245_3) (gs := [¬ (1689 ≤ v1)]) (c' := (9, [some (22, 0), some (0, v1)], [], (hc, h, o))) K245_3 rfl ⟨q1, trivial⟩ ?_
      obtain ⟨q2, e⟩ := zG_s e
      obtain ⟨q3, e⟩ := zG_s e
      refine zF_blk (m := []) (d := 0) (b := B245_1) (gs := []) (c' := (17, [some (22, 0), some (0, v1)], [(0, v1), (0, 209), (1344370422, 0)], (hc, h, o))) K245_1 rfl trivial ?_
      refine zF_blk (m := []) (d := 0) (b := B245_2) (gs := [0 ≤ v1 ∧ v1 < 1689, 0 ≤ (wadd 209 v1) ∧ (wadd 209 v1) < 2140]) (c' := (2, [some (22, 0), some (0, (wadd v1 1))], [], (hc, (mset h 14 (wadd 209 v1) (h 18 v1)), o))) K245_2 rfl ⟨q2, q3, trivial⟩ ?_
      exact hk0 (wadd v1 1) (mset h 14 (wadd 209 v1) (h 18 v1)) _ e
/-- EchoValeModel.layBack()V -/
def F245 (h : zHM) : Option zHM := F245_0 zFu 0 h
set_option maxRecDepth 100000 in
theorem S245 {spec : zRn zH2} {hc : zHC} {o : Int → Int} {d : Nat} (hd : 1 ≤ d) (h : zHM) (v : zHM) (e : F245 h = some v) : zRu2 spec d 245 [(22, 0)] (hc, h, o) none (hc, v, o) := by
  refine zF_in (D := 0) (mx := 2) (L := [some (22, 0), none]) (by decide +kernel) rfl rfl hd (fun d hd => ?_)
  unfold F245 at e
  refine zF_blk (m := []) (d := 0) (b := B245_0) (gs := []) (c' := (2, [some (22, 0), some (0, 0)], [], (hc, h, o))) K245_0 rfl trivial ?_
  exact T245_0 hd zFu 0 h _ e
noncomputable def B243_0 : List zRow := [(0, .aload_n 0, 1, (0, 0, 0))]
theorem K243_0 : zRk 243 B243_0 = true := zRw_ok (by decide +kernel)
noncomputable def B243_1 : List zRow := [(4, .aload_n 0, 1, (0, 0, 0)), (5, .getfield 13, 3, (12, 14, 5251442)), (8, .sipush 210, 3, (0, 0, 0)), (11, .iload_n 1, 1, (0, 0, 0))]
theorem K243_1 : zRk 243 B243_1 = true := zRw_ok (by decide +kernel)
noncomputable def B243_2 : List zRow := [(12, .iadd, 1, (0, 0, 0)), (13, .iload_n 2, 1, (0, 0, 0)), (14, .iastore, 1, (0, 0, 0)), (15, .aload_n 0, 1, (0, 0, 0)), (16, .iload_n 3, 1, (0, 0, 0))]
theorem K243_2 : zRk 243 B243_2 = true := zRw_ok (by decide +kernel)
noncomputable def B243_3 : List zRow := [(20, .pop, 1, (0, 0, 0)), (21, .aload_n 0, 1, (0, 0, 0)), (22, .iload_n 1, 1, (0, 0, 0))]
theorem K243_3 : zRk 243 B243_3 = true := zRw_ok (by decide +kernel)
noncomputable def B243_4 : List zRow := [(26, .istore 4, 2, (0, 0, 0)), (28, .aload_n 0, 1, (0, 0, 0))]
theorem K243_4 : zRk 243 B243_4 = true := zRw_ok (by decide +kernel)
noncomputable def B243_5 : List zRow := [(32, .iload 4, 2, (0, 0, 0))]
theorem K243_5 : zRk 243 B243_5 = true := zRw_ok (by decide +kernel)
/-- EchoValeModel.campingBy(III)I -/
def F243 (v1 : Int) (v2 : Int) (v3 : Int) (h : zHM) : Option (Int × zHM) := (F244 h).bind fun r1 => zG (0 ≤ (wadd 210 v1) ∧ (wadd 210 v1) < 2140) ((F235 v3 (mset r1 14 (wadd 210 v1) v2)).bind fun r2 => (F211 v1 r2.2).bind fun r3 => (F245 r2.2).bind fun r4 => some (r3, r4))
set_option maxRecDepth 100000 in
theorem S243 {spec : zRn zH2} {hc : zHC} {o : Int → Int} {d : Nat} (hd : 7 ≤ d) (v1 : Int) (v2 : Int) (v3 : Int) (h : zHM) (v : (Int × zHM)) (e : F243 v1 v2 v3 h = some v) : zRu2 spec d 243 [(22, 0), (0, v1), (0, v2), (0, v3)] (hc, h, o) (some (0, v.1)) (hc, v.2, o) := by
  refine zF_in (D := 6) (mx := 5) (L := [some (22, 0), some (0, v1), some (0, v2), some (0, v3), none]) (by decide +kernel) rfl rfl hd (fun d hd => ?_)
  unfold F243 at e
  obtain ⟨r1, q1, e⟩ := zB_s e
  refine zF_blk (m := []) (d := 0) (b := B243_0) (gs := []) (c' := (1, [some (22, 0), some (0, v1), some (0, v2), some (0, v3), none], [(22, 0)], (hc, h, o))) K243_0 rfl trivial ?_
  refine zF_call (k := 244) (cl := 12) (n := 1) (i := .invokevirtual 317) (args := [(22, 0)]) (rest := []) (g1 := (hc, r1, o)) (r1 := none) (zCk1_w (by decide +kernel)) rfl rfl rfl (st' := []) rfl (S244 (Nat.le_trans (by decide) hd)  h _ q1) ?_
  obtain ⟨q2, e⟩ := zG_s e
  refine zF_blk (m := []) (d := 0) (b := B243_1) (gs := []) (c' := (12, [some (22, 0), some (0, v1), some (0, v2), some (0, v3), none], [(0, v1), (0, 210), (1344370422, 0)], (hc, r1, o))) K243_1 rfl trivial ?_
  obtain ⟨r2, q3, e⟩ := zB_s e
  refine zF_blk (m := []) (d := 0) (b := B243_2) (gs := [0 ≤ (wadd 210 v1) ∧ (wadd 210 v1) < 2140]) (c' := (17, [some (22, 0), some (0, v1), some (0, v2), some (0, v3), none], [(0, v3), (22, 0)], (hc, (mset r1 14 (wadd 210 v1) v2), o))) K243_2 rfl ⟨q2, trivial⟩ ?_
  refine zF_call (k := 235) (cl := 12) (n := 2) (i := .invokevirtual 314) (args := [(22, 0), (0, v3)]) (rest := []) (g1 := (hc, r2.2, o)) (r1 := some (0, r2.1)) (zCk1_w (by decide +kernel)) rfl rfl rfl (st' := [(0, r2.1)]) rfl (S235 (Nat.le_trans (by decide) hd) v3 (mset r1 14 (wadd 210 v1) v2) _ q3) ?_
  obtain ⟨r3, q4, e⟩ := zB_s e
  refine zF_blk (m := []) (d := 0) (b := B243_3) (gs := []) (c' := (23, [some (22, 0), some (0, v1), some (0, v2), some (0, v3), none], [(0, v1), (22, 0)], (hc, r2.2, o))) K243_3 rfl trivial ?_
  refine zF_call (k := 211) (cl := 12) (n := 2) (i := .invokevirtual 263) (args := [(22, 0), (0, v1)]) (rest := []) (g1 := (hc, r2.2, o)) (r1 := some (0, r3)) (zCk1_w (by decide +kernel)) rfl rfl rfl (st' := [(0, r3)]) rfl (S211 (Nat.le_trans (by decide) hd) v1 r2.2 _ q4) ?_
  obtain ⟨r4, q5, e⟩ := zB_s e
  refine zF_blk (m := []) (d := 0) (b := B243_4) (gs := []) (c' := (29, [some (22, 0), some (0, v1), some (0, v2), some (0, v3), some (0, r3)], [(22, 0)], (hc, r2.2, o))) K243_4 rfl trivial ?_
  refine zF_call (k := 245) (cl := 12) (n := 1) (i := .invokevirtual 320) (args := [(22, 0)]) (rest := []) (g1 := (hc, r4, o)) (r1 := none) (zCk1_w (by decide +kernel)) rfl rfl rfl (st' := []) rfl (S245 (Nat.le_trans (by decide) hd)  r2.2 _ q5) ?_
  refine zF_blk (m := []) (d := 0) (b := B243_5) (gs := []) (c' := (34, [some (22, 0), some (0, v1), some (0, v2), some (0, v3), some (0, r3)], [(0, r3)], (hc, r4, o))) K243_5 rfl trivial ?_
  exact zF_riM (zRe1_w (by decide +kernel)) e
noncomputable def B241_0 : List zRow := [(0, .aload_n 0, 1, (0, 0, 0)), (1, .iconst 0, 1, (0, 0, 0)), (2, .putfield 81, 3, (12, 0, 0)), (5, .aload_n 0, 1, (0, 0, 0)), (6, .iload_n 1, 1, (0, 0, 0))]
theorem K241_0 : zRk 241 B241_0 = true := zRw_ok (by decide +kernel)
noncomputable def B241_1 : List zRow := [(20, .iconst (-1), 1, (0, 0, 0))]
theorem K241_1 : zRk 241 B241_1 = true := zRw_ok (by decide +kernel)
noncomputable def B241_2 : List zRow := [(13, .iload_n 2, 1, (0, 0, 0))]
theorem K241_2 : zRk 241 B241_2 = true := zRw_ok (by decide +kernel)
noncomputable def B241_3 : List zRow := [(22, .iconst (-1), 1, (0, 0, 0)), (23, .istore_n 3, 1, (0, 0, 0)), (24, .iconst (-1), 1, (0, 0, 0)), (25, .istore 4, 2, (0, 0, 0)), (27, .iconst 0, 1, (0, 0, 0)), (28, .istore 5, 2, (0, 0, 0))]
theorem K241_3 : zRk 241 B241_3 = true := zRw_ok (by decide +kernel)
noncomputable def B241_4 : List zRow := [(17, .ifCond .ne 5, 3, (0, 0, 0))]
theorem K241_4 : zRk 241 B241_4 = true := zRw_ok (by decide +kernel)
noncomputable def B241_5 : List zRow := [(10, .ifCond .eq 10, 3, (0, 0, 0))]
theorem K241_5 : zRk 241 B241_5 = true := zRw_ok (by decide +kernel)
noncomputable def B241_6 : List zRow := [(83, .iload_n 3, 1, (0, 0, 0))]
theorem K241_6 : zRk 241 B241_6 = true := zRw_ok (by decide +kernel)
noncomputable def B241_7 : List zRow := [(37, .aload_n 0, 1, (0, 0, 0)), (38, .iload 5, 2, (0, 0, 0))]
theorem K241_7 : zRk 241 B241_7 = true := zRw_ok (by decide +kernel)
noncomputable def B241_8 : List zRow := [(57, .iconst (-1), 1, (0, 0, 0))]
theorem K241_8 : zRk 241 B241_8 = true := zRw_ok (by decide +kernel)
noncomputable def B241_9 : List zRow := [(46, .aload_n 0, 1, (0, 0, 0)), (47, .iload_n 1, 1, (0, 0, 0)), (48, .iload 5, 2, (0, 0, 0)), (50, .iload_n 2, 1, (0, 0, 0))]
theorem K241_9 : zRk 241 B241_9 = true := zRw_ok (by decide +kernel)
noncomputable def B241_10 : List zRow := [(54, .goto 4, 3, (0, 0, 0))]
theorem K241_10 : zRk 241 B241_10 = true := zRw_ok (by decide +kernel)
noncomputable def B241_11 : List zRow := [(43, .ifCond .eq 14, 3, (0, 0, 0))]
theorem K241_11 : zRk 241 B241_11 = true := zRw_ok (by decide +kernel)
noncomputable def B241_12 : List zRow := [(30, .iload 5, 2, (0, 0, 0)), (32, .bipush 100, 2, (0, 0, 0)), (34, .if_icmp .ge 49, 3, (0, 0, 0))]
theorem K241_12 : zRk 241 B241_12 = true := zRw_ok (by decide +kernel)
noncomputable def B241_13 : List zRow := [(70, .iload 5, 2, (0, 0, 0)), (72, .istore_n 3, 1, (0, 0, 0)), (73, .iload 6, 2, (0, 0, 0)), (75, .istore 4, 2, (0, 0, 0))]
theorem K241_13 : zRk 241 B241_13 = true := zRw_ok (by decide +kernel)
noncomputable def B241_14 : List zRow := [(67, .goto 10, 3, (0, 0, 0))]
theorem K241_14 : zRk 241 B241_14 = true := zRw_ok (by decide +kernel)
noncomputable def B241_15 : List zRow := [(58, .istore 6, 2, (0, 0, 0)), (60, .iload 6, 2, (0, 0, 0)), (62, .iload 4, 2, (0, 0, 0)), (64, .if_icmp .gt 6, 3, (0, 0, 0))]
theorem K241_15 : zRk 241 B241_15 = true := zRw_ok (by decide +kernel)
noncomputable def B241_16 : List zRow := [(77, .iinc 5 1, 3, (0, 0, 0)), (80, .goto (-50), 3, (0, 0, 0))]
theorem K241_16 : zRk 241 B241_16 = true := zRw_ok (by decide +kernel)
def F241_2 (k0 : Int → Int → Int → Int → Int → zHM → Option (Int × zHM)) (v1 : Int) (v2 : Int) (v3 : Int) (v4 : Int) (v5 : Int) (h : zHM) : Option (Int × zHM) := k0 v1 v2 v3 v4 (wadd v5 1) h
set_option maxRecDepth 100000 in
theorem T241_2 {spec : zRn zH2} {hc : zHC} {o : Int → Int} {d : Nat} (hd : 7 ≤ d) (k0 : Int → Int → Int → Int → Int → zHM → Option (Int × zHM)) (hk0 : ∀ (v1 : Int) (v2 : Int) (v3 : Int) (v4 : Int) (v5 : Int) (h : zHM) (v : (Int × zHM)), k0 v1 v2 v3 v4 v5 h = some v → zFin 0 (fun _ => 0) (zRu2 spec d) 241 (some (0, v.1)) (hc, v.2, o) (30, [some (22, 0), some (0, v1), some (0, v2), some (0, v3), some (0, v4), some (0, v5), none], [], (hc, h, o))) (v1 : Int) (v2 : Int) (v3 : Int) (v4 : Int) (v5 : Int) (h : zHM) (v : (Int × zHM)) (e : F241_2 k0 v1 v2 v3 v4 v5 h = some v) : zFin 0 (fun _ => 0) (zRu2 spec d) 241 (some (0, v.1)) (hc, v.2, o) (77, [some (22, 0), some (0, v1), some (0, v2), some (0, v3), some (0, v4), some (0, v5), none], [], (hc, h, o)) := by
  unfold F241_2 at e
  refine zF_blk (m := []) (d := 0) (b := B241_16) (gs := []) (c' := (30, [some (22, 0), some (0, v1), some (0, v2), some (0, v3), some (0, v4), some (0, (wadd v5 1)), none], [], (hc, h, o))) K241_16 rfl trivial ?_
  exact hk0 v1 v2 v3 v4 (wadd v5 1) h _ e
def F241_1 (k0 : Int → Int → Int → Int → Int → zHM → Option (Int × zHM)) (v1 : Int) (v2 : Int) (v3 : Int) (v4 : Int) (v5 : Int) (s0 : Int) (h : zHM) : Option (Int × zHM) := if v4 < s0 then F241_2 k0 v1 v2 v5 s0 v5 h else F241_2 k0 v1 v2 v3 v4 v5 h
set_option maxRecDepth 100000 in
theorem T241_1 {spec : zRn zH2} {hc : zHC} {o : Int → Int} {d : Nat} (hd : 7 ≤ d) (k0 : Int → Int → Int → Int → Int → zHM → Option (Int × zHM)) (hk0 : ∀ (v1 : Int) (v2 : Int) (v3 : Int) (v4 : Int) (v5 : Int) (h : zHM) (v : (Int × zHM)), k0 v1 v2 v3 v4 v5 h = some v → zFin 0 (fun _ => 0) (zRu2 spec d) 241 (some (0, v.1)) (hc, v.2, o) (30, [some (22, 0), some (0, v1), some (0, v2), some (0, v3), some (0, v4), some (0, v5), none], [], (hc, h, o))) (v1 : Int) (v2 : Int) (v3 : Int) (v4 : Int) (v5 : Int) (s0 : Int) (h : zHM) (v : (Int × zHM)) (e : F241_1 k0 v1 v2 v3 v4 v5 s0 h = some v) : zFin 0 (fun _ => 0) (zRu2 spec d) 241 (some (0, v.1)) (hc, v.2, o) (58, [some (22, 0), some (0, v1), some (0, v2), some (0, v3), some (0, v4), some (0, v5), none], [(0, s0)], (hc, h, o)) := by
  unfold F241_1 at e
  rcases zI_s e with ⟨q1, e⟩ | ⟨q1, e⟩
  · refine zF_blk (m := []) (d := 1) (b := B241_15) (gs := [v4 < s0]) (c' := (70, [some (22, 0), some (0, v1), some (0, v2), some (0, v3), some (0, v4), some (0, v5), some (0, s0)], [], (hc, h, o))) K241_15 rfl ⟨q1, trivial⟩ ?_
    refine zF_blk (m := []) (d := 0) (b := B241_13) (gs := []) (c' := (77, [some (22, 0), some (0, v1), some (0, v2), some (0, v5), some (0, s0), some (0, v5), some (0, s0)], [], (hc, h, o))) K241_13 rfl trivial ?_
    refine zF_blk (m := [true, true, true, true, true, true, false]) (d := 0) (b := []) (gs := []) (c' := (77, [some (22, 0), some (0, v1), some (0, v2), some (0, v5), some (0, s0), some (0, v5), none], [], (hc, h, o))) rfl rfl trivial ?_
    exact T241_2 hd k0 hk0 v1 v2 v5 s0 v5 h _ e
  · refine zF_blk (m := []) (d := 0) (b := B241_15) (gs := [¬ (v4 < s0)]) (c' := (67, [some (22, 0), some (0, v1), some (0, v2), some (0, v3), some (0, v4), some (0, v5), some (0, s0)], [], (hc, h, o))) K241_15 rfl ⟨q1, trivial⟩ ?_
    refine zF_blk (m := []) (d := 0) (b := B241_14) (gs := []) (c' := (77, [some (22, 0), some (0, v1), some (0, v2), some (0, v3), some (0, v4), some (0, v5), some (0, s0)], [], (hc, h, o))) K241_14 rfl trivial ?_
    refine zF_blk (m := [true, true, true, true, true, true, false]) (d := 0) (b := []) (gs := []) (c' := (77, [some (22, 0), some (0, v1), some (0, v2), some (0, v3), some (0, v4), some (0, v5), none], [], (hc, h, o))) rfl rfl trivial ?_
    exact T241_2 hd k0 hk0 v1 v2 v3 v4 v5 h _ e
def F241_0 : Nat → Int → Int → Int → Int → Int → zHM → Option (Int × zHM)
  | 0, _, _, _, _, _, _ => none
  | n + 1, v1, v2, v3, v4, v5, h => if 100 ≤ v5 then some (v3, h) else (F224 v5 h).bind fun r1 => if r1 = 0 then F241_1 (F241_0 n) v1 v2 v3 v4 v5 (-1) h else (F243 v1 v5 v2 h).bind fun r2 => F241_1 (F241_0 n) v1 v2 v3 v4 v5 r2.1 r2.2
set_option maxRecDepth 100000 in
theorem T241_0 {spec : zRn zH2} {hc : zHC} {o : Int → Int} {d : Nat} (hd : 7 ≤ d) : ∀ (n : Nat) (v1 : Int) (v2 : Int) (v3 : Int) (v4 : Int) (v5 : Int) (h : zHM) (v : (Int × zHM)), F241_0 n v1 v2 v3 v4 v5 h = some v → zFin 0 (fun _ => 0) (zRu2 spec d) 241 (some (0, v.1)) (hc, v.2, o) (30, [some (22, 0), some (0, v1), some (0, v2), some (0, v3), some (0, v4), some (0, v5), none], [], (hc, h, o)) := by
  intro n
  induction n with
  | zero => intro v1 v2 v3 v4 v5 h v e; unfold F241_0 at e; cases e
  | succ n hk0 =>
    intro v1 v2 v3 v4 v5 h v e
    unfold F241_0 at e
    rcases zI_s e with ⟨q1, e⟩ | ⟨q1, e⟩
    · refine zF_blk (m := []) (d := 1) (b := B241_12) (gs := [100 ≤ v5]) (c' := (83, [some (22, 0), some (0, v1), some (0, v2), some (0, v3), some (0, v4), some (0, v5), none], [], (hc, h, o))) K241_12 rfl ⟨q1, trivial⟩ ?_
      refine zF_blk (m := []) (d := 0) (b := B241_6) (gs := []) (c' := (84, [some (22, 0), some (0, v1), some (0, v2), some (0, v3), some (0, v4), some (0, v5), none], [(0, v3)], (hc, h, o))) K241_6 rfl trivial ?_
      exact zF_riM (zRe1_w (by decide +kernel)) e
    · refine zF_blk (m := []) (d := 0) (b := B241_12) (gs := [¬ (100 ≤ v5)]) (c' := (37, [some (22, 0), some (0, v1), some (0, v2), some (0, v3), some (0, v4), some (0, v5), none], [], (hc, h, o))) K241_12 rfl ⟨q1, trivial⟩ ?_
      obtain ⟨r1, q2, e⟩ := zB_s e
      refine zF_blk (m := []) (d := 0) (b := B241_7) (gs := []) (c' := (40, [some (22, 0), some (0, v1), some (0, v2), some (0, v3), some (0, v4), some (0, v5), none], [(0, v5), (22, 0)], (hc, h, o))) K241_7 rfl trivial ?_
      refine zF_call (k := 224) (cl := 12) (n := 2) (i := .invokevirtual 305) (args := [(22, 0), (0, v5)]) (rest := []) (g1 := (hc, h, o)) (r1 := some (0, r1)) (zCk1_w (by decide +kernel)) rfl rfl rfl (st' := [(0, r1)]) rfl (S224 (Nat.le_trans (by decide) hd) v5 h _ q2) ?_
      rcases zI_s e with ⟨q3, e⟩ | ⟨q3, e⟩
      · refine zF_blk (m := []) (d := 1) (b := B241_11) (gs := [r1 = 0]) (c' := (57, [some (22, 0), some (0, v1), some (0, v2), some (0, v3), some (0, v4), some (0, v5), none], [], (hc, h, o))) K241_11 rfl ⟨q3, trivial⟩ ?_
        refine zF_blk (m := []) (d := 0) (b := B241_8) (gs := []) (c' := (58, [some (22, 0), some (0, v1), some (0, v2), some (0, v3), some (0, v4), some (0, v5), none], [(0, (-1))], (hc, h, o))) K241_8 rfl trivial ?_
        exact T241_1 hd (F241_0 n) hk0 v1 v2 v3 v4 v5 (-1) h _ e
      · refine zF_blk (m := []) (d := 0) (b := B241_11) (gs := [¬ (r1 = 0)]) (c' := (46, [some (22, 0), some (0, v1), some (0, v2), some (0, v3), some (0, v4), some (0, v5), none], [], (hc, h, o))) K241_11 rfl ⟨q3, trivial⟩ ?_
        obtain ⟨r2, q4, e⟩ := zB_s e
        refine zF_blk (m := []) (d := 0) (b := B241_9) (gs := []) (c' := (51, [some (22, 0), some (0, v1), some (0, v2), some (0, v3), some (0, v4), some (0, v5), none], [(0, v2), (0, v5), (0, v1), (22, 0)], (hc, h, o))) K241_9 rfl trivial ?_
        refine zF_call (k := 243) (cl := 12) (n := 4) (i := .invokevirtual 326) (args := [(22, 0), (0, v1), (0, v5), (0, v2)]) (rest := []) (g1 := (hc, r2.2, o)) (r1 := some (0, r2.1)) (zCk1_w (by decide +kernel)) rfl rfl rfl (st' := [(0, r2.1)]) rfl (S243 (Nat.le_trans (by decide) hd) v1 v5 v2 h _ q4) ?_
        refine zF_blk (m := []) (d := 0) (b := B241_10) (gs := []) (c' := (58, [some (22, 0), some (0, v1), some (0, v2), some (0, v3), some (0, v4), some (0, v5), none], [(0, r2.1)], (hc, r2.2, o))) K241_10 rfl trivial ?_
        exact T241_1 hd (F241_0 n) hk0 v1 v2 v3 v4 v5 r2.1 r2.2 _ e
/-- EchoValeModel.camp(II)I -/
def F241 (v1 : Int) (v2 : Int) (h : zHM) : Option (Int × zHM) := (F210 v1 (mset h 0 0 0)).bind fun r1 => if r1 = 0 then some ((-1), (mset h 0 0 0)) else (F242 v2).bind fun r2 => if ¬ r2 = 0 then F241_0 zFu v1 v2 (-1) (-1) 0 (mset h 0 0 0) else some ((-1), (mset h 0 0 0))
set_option maxRecDepth 100000 in
theorem S241 {spec : zRn zH2} {hc : zHC} {o : Int → Int} {d : Nat} (hd : 8 ≤ d) (v1 : Int) (v2 : Int) (h : zHM) (v : (Int × zHM)) (e : F241 v1 v2 h = some v) : zRu2 spec d 241 [(22, 0), (0, v1), (0, v2)] (hc, h, o) (some (0, v.1)) (hc, v.2, o) := by
  refine zF_in (D := 7) (mx := 7) (L := [some (22, 0), some (0, v1), some (0, v2), none, none, none, none]) (by decide +kernel) rfl rfl hd (fun d hd => ?_)
  unfold F241 at e
  obtain ⟨r1, q1, e⟩ := zB_s e
  refine zF_blk (m := []) (d := 0) (b := B241_0) (gs := []) (c' := (7, [some (22, 0), some (0, v1), some (0, v2), none, none, none, none], [(0, v1), (22, 0)], (hc, (mset h 0 0 0), o))) K241_0 rfl trivial ?_
  refine zF_call (k := 210) (cl := 12) (n := 2) (i := .invokevirtual 260) (args := [(22, 0), (0, v1)]) (rest := []) (g1 := (hc, (mset h 0 0 0), o)) (r1 := some (0, r1)) (zCk1_w (by decide +kernel)) rfl rfl rfl (st' := [(0, r1)]) rfl (S210 (Nat.le_trans (by decide) hd) v1 (mset h 0 0 0) _ q1) ?_
  rcases zI_s e with ⟨q2, e⟩ | ⟨q2, e⟩
  · refine zF_blk (m := []) (d := 1) (b := B241_5) (gs := [r1 = 0]) (c' := (20, [some (22, 0), some (0, v1), some (0, v2), none, none, none, none], [], (hc, (mset h 0 0 0), o))) K241_5 rfl ⟨q2, trivial⟩ ?_
    refine zF_blk (m := []) (d := 0) (b := B241_1) (gs := []) (c' := (21, [some (22, 0), some (0, v1), some (0, v2), none, none, none, none], [(0, (-1))], (hc, (mset h 0 0 0), o))) K241_1 rfl trivial ?_
    exact zF_riM (zRe1_w (by decide +kernel)) e
  · refine zF_blk (m := []) (d := 0) (b := B241_5) (gs := [¬ (r1 = 0)]) (c' := (13, [some (22, 0), some (0, v1), some (0, v2), none, none, none, none], [], (hc, (mset h 0 0 0), o))) K241_5 rfl ⟨q2, trivial⟩ ?_
    obtain ⟨r2, q3, e⟩ := zB_s e
    refine zF_blk (m := []) (d := 0) (b := B241_2) (gs := []) (c' := (14, [some (22, 0), some (0, v1), some (0, v2), none, none, none, none], [(0, v2)], (hc, (mset h 0 0 0), o))) K241_2 rfl trivial ?_
    refine zF_call (k := 242) (cl := 12) (n := 1) (i := .invokestatic 323) (args := [(0, v2)]) (rest := []) (g1 := (hc, (mset h 0 0 0), o)) (r1 := some (0, r2)) (zCk1_w (by decide +kernel)) rfl rfl rfl (st' := [(0, r2)]) rfl (S242 (Nat.le_trans (by decide) hd) v2 (mset h 0 0 0) _ q3) ?_
    rcases zI_s e with ⟨q4, e⟩ | ⟨q4, e⟩
    · refine zF_blk (m := []) (d := 1) (b := B241_4) (gs := [¬ r2 = 0]) (c' := (22, [some (22, 0), some (0, v1), some (0, v2), none, none, none, none], [], (hc, (mset h 0 0 0), o))) K241_4 rfl ⟨q4, trivial⟩ ?_
      refine zF_blk (m := []) (d := 0) (b := B241_3) (gs := []) (c' := (30, [some (22, 0), some (0, v1), some (0, v2), some (0, (-1)), some (0, (-1)), some (0, 0), none], [], (hc, (mset h 0 0 0), o))) K241_3 rfl trivial ?_
      exact T241_0 hd zFu v1 v2 (-1) (-1) 0 (mset h 0 0 0) _ e
    · refine zF_blk (m := []) (d := 0) (b := B241_4) (gs := [¬ (¬ r2 = 0)]) (c' := (20, [some (22, 0), some (0, v1), some (0, v2), none, none, none, none], [], (hc, (mset h 0 0 0), o))) K241_4 rfl ⟨q4, trivial⟩ ?_
      refine zF_blk (m := []) (d := 0) (b := B241_1) (gs := []) (c' := (21, [some (22, 0), some (0, v1), some (0, v2), none, none, none, none], [(0, (-1))], (hc, (mset h 0 0 0), o))) K241_1 rfl trivial ?_
      exact zF_riM (zRe1_w (by decide +kernel)) e
noncomputable def B102_0 : List zRow := [(0, .aload_n 0, 1, (0, 0, 0)), (1, .iload_n 1, 1, (0, 0, 0))]
theorem K102_0 : zRk 102 B102_0 = true := zRw_ok (by decide +kernel)
noncomputable def B102_1 : List zRow := [(26, .iconst (-1), 1, (0, 0, 0))]
theorem K102_1 : zRk 102 B102_1 = true := zRw_ok (by decide +kernel)
noncomputable def B102_2 : List zRow := [(8, .aload_n 0, 1, (0, 0, 0)), (9, .getfield 19, 3, (11, 1, 39)), (12, .iload_n 2, 1, (0, 0, 0))]
theorem K102_2 : zRk 102 B102_2 = true := zRw_ok (by decide +kernel)
noncomputable def B102_3 : List zRow := [(19, .iload_n 3, 1, (0, 0, 0))]
theorem K102_3 : zRk 102 B102_3 = true := zRw_ok (by decide +kernel)
noncomputable def B102_4 : List zRow := [(28, .aload_n 0, 1, (0, 0, 0)), (29, .iload_n 1, 1, (0, 0, 0)), (30, .iload_n 2, 1, (0, 0, 0)), (31, .iload_n 3, 1, (0, 0, 0))]
theorem K102_4 : zRk 102 B102_4 = true := zRw_ok (by decide +kernel)
noncomputable def B102_5 : List zRow := [(23, .ifCond .ne 5, 3, (0, 0, 0))]
theorem K102_5 : zRk 102 B102_5 = true := zRw_ok (by decide +kernel)
noncomputable def B102_6 : List zRow := [(16, .ifCond .eq 10, 3, (0, 0, 0))]
theorem K102_6 : zRk 102 B102_6 = true := zRw_ok (by decide +kernel)
noncomputable def B102_7 : List zRow := [(5, .ifCond .eq 21, 3, (0, 0, 0))]
theorem K102_7 : zRk 102 B102_7 = true := zRw_ok (by decide +kernel)
/-- EchoVale.camping(III)I -/
def F102 (v1 : Int) (v2 : Int) (v3 : Int) (h : zHC) : Option (Int × zHC) := (F61 v1 h).bind fun r1 => if r1 = 0 then some ((-1), h) else (F69 0 v2 h).bind fun r2 => if r2 = 0 then some ((-1), h) else (F99 v3).bind fun r3 => if ¬ r3 = 0 then (F100 v1 v2 v3 h).bind fun r4 => some (r4.1, r4.2) else some ((-1), h)
set_option maxRecDepth 100000 in
theorem S102 {spec : zRn zH2} {hm : zHM} {o : Int → Int} {d : Nat} (hd : 8 ≤ d) (v1 : Int) (v2 : Int) (v3 : Int) (h : zHC) (v : (Int × zHC)) (e : F102 v1 v2 v3 h = some v) : zRu2 spec d 102 [(21, 0), (0, v1), (0, v2), (0, v3)] (h, hm, o) (some (0, v.1)) (v.2, hm, o) := by
  refine zF_in (D := 7) (mx := 4) (L := [some (21, 0), some (0, v1), some (0, v2), some (0, v3)]) (by decide +kernel) rfl rfl hd (fun d hd => ?_)
  unfold F102 at e
  obtain ⟨r1, q1, e⟩ := zB_s e
  refine zF_blk (m := []) (d := 0) (b := B102_0) (gs := []) (c' := (2, [some (21, 0), some (0, v1), some (0, v2), some (0, v3)], [(0, v1), (21, 0)], (h, hm, o))) K102_0 rfl trivial ?_
  refine zF_call (k := 61) (cl := 11) (n := 2) (i := .invokevirtual 172) (args := [(21, 0), (0, v1)]) (rest := []) (g1 := (h, hm, o)) (r1 := some (0, r1)) (zCk1_w (by decide +kernel)) rfl rfl rfl (st' := [(0, r1)]) rfl (S61 (Nat.le_trans (by decide) hd) v1 h _ q1) ?_
  rcases zI_s e with ⟨q2, e⟩ | ⟨q2, e⟩
  · refine zF_blk (m := []) (d := 1) (b := B102_7) (gs := [r1 = 0]) (c' := (26, [some (21, 0), some (0, v1), some (0, v2), some (0, v3)], [], (h, hm, o))) K102_7 rfl ⟨q2, trivial⟩ ?_
    refine zF_blk (m := []) (d := 0) (b := B102_1) (gs := []) (c' := (27, [some (21, 0), some (0, v1), some (0, v2), some (0, v3)], [(0, (-1))], (h, hm, o))) K102_1 rfl trivial ?_
    exact zF_riC (zRe1_w (by decide +kernel)) e
  · refine zF_blk (m := []) (d := 0) (b := B102_7) (gs := [¬ (r1 = 0)]) (c' := (8, [some (21, 0), some (0, v1), some (0, v2), some (0, v3)], [], (h, hm, o))) K102_7 rfl ⟨q2, trivial⟩ ?_
    obtain ⟨r2, q3, e⟩ := zB_s e
    refine zF_blk (m := []) (d := 0) (b := B102_2) (gs := []) (c' := (13, [some (21, 0), some (0, v1), some (0, v2), some (0, v3)], [(0, v2), (19, 0)], (h, hm, o))) K102_2 rfl trivial ?_
    refine zF_call (k := 69) (cl := 9) (n := 2) (i := .invokevirtual 214) (args := [(19, 0), (0, v2)]) (rest := []) (g1 := (h, hm, o)) (r1 := some (0, r2)) (zCk1_w (by decide +kernel)) rfl rfl rfl (st' := [(0, r2)]) rfl (S69 (Nat.le_trans (by decide) hd) 0 v2 h _ q3) ?_
    rcases zI_s e with ⟨q4, e⟩ | ⟨q4, e⟩
    · refine zF_blk (m := []) (d := 1) (b := B102_6) (gs := [r2 = 0]) (c' := (26, [some (21, 0), some (0, v1), some (0, v2), some (0, v3)], [], (h, hm, o))) K102_6 rfl ⟨q4, trivial⟩ ?_
      refine zF_blk (m := []) (d := 0) (b := B102_1) (gs := []) (c' := (27, [some (21, 0), some (0, v1), some (0, v2), some (0, v3)], [(0, (-1))], (h, hm, o))) K102_1 rfl trivial ?_
      exact zF_riC (zRe1_w (by decide +kernel)) e
    · refine zF_blk (m := []) (d := 0) (b := B102_6) (gs := [¬ (r2 = 0)]) (c' := (19, [some (21, 0), some (0, v1), some (0, v2), some (0, v3)], [], (h, hm, o))) K102_6 rfl ⟨q4, trivial⟩ ?_
      obtain ⟨r3, q5, e⟩ := zB_s e
      refine zF_blk (m := []) (d := 0) (b := B102_3) (gs := []) (c' := (20, [some (21, 0), some (0, v1), some (0, v2), some (0, v3)], [(0, v3)], (h, hm, o))) K102_3 rfl trivial ?_
      refine zF_call (k := 99) (cl := 11) (n := 1) (i := .invokestatic 242) (args := [(0, v3)]) (rest := []) (g1 := (h, hm, o)) (r1 := some (0, r3)) (zCk1_w (by decide +kernel)) rfl rfl rfl (st' := [(0, r3)]) rfl (S99 (Nat.le_trans (by decide) hd) v3 h _ q5) ?_
      rcases zI_s e with ⟨q6, e⟩ | ⟨q6, e⟩
      · refine zF_blk (m := []) (d := 1) (b := B102_5) (gs := [¬ r3 = 0]) (c' := (28, [some (21, 0), some (0, v1), some (0, v2), some (0, v3)], [], (h, hm, o))) K102_5 rfl ⟨q6, trivial⟩ ?_
        obtain ⟨r4, q7, e⟩ := zB_s e
        refine zF_blk (m := []) (d := 0) (b := B102_4) (gs := []) (c' := (32, [some (21, 0), some (0, v1), some (0, v2), some (0, v3)], [(0, v3), (0, v2), (0, v1), (21, 0)], (h, hm, o))) K102_4 rfl trivial ?_
        refine zF_call (k := 100) (cl := 11) (n := 4) (i := .invokevirtual 245) (args := [(21, 0), (0, v1), (0, v2), (0, v3)]) (rest := []) (g1 := (r4.2, hm, o)) (r1 := some (0, r4.1)) (zCk1_w (by decide +kernel)) rfl rfl rfl (st' := [(0, r4.1)]) rfl (S100 (Nat.le_trans (by decide) hd) v1 v2 v3 h _ q7) ?_
        exact zF_riC (zRe1_w (by decide +kernel)) e
      · refine zF_blk (m := []) (d := 0) (b := B102_5) (gs := [¬ (¬ r3 = 0)]) (c' := (26, [some (21, 0), some (0, v1), some (0, v2), some (0, v3)], [], (h, hm, o))) K102_5 rfl ⟨q6, trivial⟩ ?_
        refine zF_blk (m := []) (d := 0) (b := B102_1) (gs := []) (c' := (27, [some (21, 0), some (0, v1), some (0, v2), some (0, v3)], [(0, (-1))], (h, hm, o))) K102_1 rfl trivial ?_
        exact zF_riC (zRe1_w (by decide +kernel)) e
noncomputable def B246_0 : List zRow := [(0, .aload_n 0, 1, (0, 0, 0)), (1, .iconst 0, 1, (0, 0, 0)), (2, .putfield 81, 3, (12, 0, 0)), (5, .aload_n 0, 1, (0, 0, 0)), (6, .iload_n 1, 1, (0, 0, 0))]
theorem K246_0 : zRk 246 B246_0 = true := zRw_ok (by decide +kernel)
noncomputable def B246_1 : List zRow := [(38, .iconst (-1), 1, (0, 0, 0))]
theorem K246_1 : zRk 246 B246_1 = true := zRw_ok (by decide +kernel)
noncomputable def B246_2 : List zRow := [(13, .aload_n 0, 1, (0, 0, 0)), (14, .iload_n 2, 1, (0, 0, 0))]
theorem K246_2 : zRk 246 B246_2 = true := zRw_ok (by decide +kernel)
noncomputable def B246_3 : List zRow := [(21, .iload_n 3, 1, (0, 0, 0))]
theorem K246_3 : zRk 246 B246_3 = true := zRw_ok (by decide +kernel)
noncomputable def B246_4 : List zRow := [(28, .aload_n 0, 1, (0, 0, 0)), (29, .iload_n 1, 1, (0, 0, 0)), (30, .iload_n 2, 1, (0, 0, 0)), (31, .iload_n 3, 1, (0, 0, 0))]
theorem K246_4 : zRk 246 B246_4 = true := zRw_ok (by decide +kernel)
noncomputable def B246_5 : List zRow := [(35, .goto 4, 3, (0, 0, 0))]
theorem K246_5 : zRk 246 B246_5 = true := zRw_ok (by decide +kernel)
noncomputable def B246_6 : List zRow := [(25, .ifCond .eq 13, 3, (0, 0, 0))]
theorem K246_6 : zRk 246 B246_6 = true := zRw_ok (by decide +kernel)
noncomputable def B246_7 : List zRow := [(18, .ifCond .eq 20, 3, (0, 0, 0))]
theorem K246_7 : zRk 246 B246_7 = true := zRw_ok (by decide +kernel)
noncomputable def B246_8 : List zRow := [(10, .ifCond .eq 28, 3, (0, 0, 0))]
theorem K246_8 : zRk 246 B246_8 = true := zRw_ok (by decide +kernel)
/-- EchoValeModel.camping(III)I -/
def F246 (v1 : Int) (v2 : Int) (v3 : Int) (h : zHM) : Option (Int × zHM) := (F210 v1 (mset h 0 0 0)).bind fun r1 => if r1 = 0 then some ((-1), (mset h 0 0 0)) else (F224 v2 (mset h 0 0 0)).bind fun r2 => if r2 = 0 then some ((-1), (mset h 0 0 0)) else (F242 v3).bind fun r3 => if r3 = 0 then some ((-1), (mset h 0 0 0)) else (F243 v1 v2 v3 (mset h 0 0 0)).bind fun r4 => some (r4.1, r4.2)
set_option maxRecDepth 100000 in
theorem S246 {spec : zRn zH2} {hc : zHC} {o : Int → Int} {d : Nat} (hd : 8 ≤ d) (v1 : Int) (v2 : Int) (v3 : Int) (h : zHM) (v : (Int × zHM)) (e : F246 v1 v2 v3 h = some v) : zRu2 spec d 246 [(22, 0), (0, v1), (0, v2), (0, v3)] (hc, h, o) (some (0, v.1)) (hc, v.2, o) := by
  refine zF_in (D := 7) (mx := 4) (L := [some (22, 0), some (0, v1), some (0, v2), some (0, v3)]) (by decide +kernel) rfl rfl hd (fun d hd => ?_)
  unfold F246 at e
  obtain ⟨r1, q1, e⟩ := zB_s e
  refine zF_blk (m := []) (d := 0) (b := B246_0) (gs := []) (c' := (7, [some (22, 0), some (0, v1), some (0, v2), some (0, v3)], [(0, v1), (22, 0)], (hc, (mset h 0 0 0), o))) K246_0 rfl trivial ?_
  refine zF_call (k := 210) (cl := 12) (n := 2) (i := .invokevirtual 260) (args := [(22, 0), (0, v1)]) (rest := []) (g1 := (hc, (mset h 0 0 0), o)) (r1 := some (0, r1)) (zCk1_w (by decide +kernel)) rfl rfl rfl (st' := [(0, r1)]) rfl (S210 (Nat.le_trans (by decide) hd) v1 (mset h 0 0 0) _ q1) ?_
  rcases zI_s e with ⟨q2, e⟩ | ⟨q2, e⟩
  · refine zF_blk (m := []) (d := 1) (b := B246_8) (gs := [r1 = 0]) (c' := (38, [some (22, 0), some (0, v1), some (0, v2), some (0, v3)], [], (hc, (mset h 0 0 0), o))) K246_8 rfl ⟨q2, trivial⟩ ?_
    refine zF_blk (m := []) (d := 0) (b := B246_1) (gs := []) (c' := (39, [some (22, 0), some (0, v1), some (0, v2), some (0, v3)], [(0, (-1))], (hc, (mset h 0 0 0), o))) K246_1 rfl trivial ?_
    exact zF_riM (zRe1_w (by decide +kernel)) e
  · refine zF_blk (m := []) (d := 0) (b := B246_8) (gs := [¬ (r1 = 0)]) (c' := (13, [some (22, 0), some (0, v1), some (0, v2), some (0, v3)], [], (hc, (mset h 0 0 0), o))) K246_8 rfl ⟨q2, trivial⟩ ?_
    obtain ⟨r2, q3, e⟩ := zB_s e
    refine zF_blk (m := []) (d := 0) (b := B246_2) (gs := []) (c' := (15, [some (22, 0), some (0, v1), some (0, v2), some (0, v3)], [(0, v2), (22, 0)], (hc, (mset h 0 0 0), o))) K246_2 rfl trivial ?_
    refine zF_call (k := 224) (cl := 12) (n := 2) (i := .invokevirtual 305) (args := [(22, 0), (0, v2)]) (rest := []) (g1 := (hc, (mset h 0 0 0), o)) (r1 := some (0, r2)) (zCk1_w (by decide +kernel)) rfl rfl rfl (st' := [(0, r2)]) rfl (S224 (Nat.le_trans (by decide) hd) v2 (mset h 0 0 0) _ q3) ?_
    rcases zI_s e with ⟨q4, e⟩ | ⟨q4, e⟩
    · refine zF_blk (m := []) (d := 1) (b := B246_7) (gs := [r2 = 0]) (c' := (38, [some (22, 0), some (0, v1), some (0, v2), some (0, v3)], [], (hc, (mset h 0 0 0), o))) K246_7 rfl ⟨q4, trivial⟩ ?_
      refine zF_blk (m := []) (d := 0) (b := B246_1) (gs := []) (c' := (39, [some (22, 0), some (0, v1), some (0, v2), some (0, v3)], [(0, (-1))], (hc, (mset h 0 0 0), o))) K246_1 rfl trivial ?_
      exact zF_riM (zRe1_w (by decide +kernel)) e
    · refine zF_blk (m := []) (d := 0) (b := B246_7) (gs := [¬ (r2 = 0)]) (c' := (21, [some (22, 0), some (0, v1), some (0, v2), some (0, v3)], [], (hc, (mset h 0 0 0), o))) K246_7 rfl ⟨q4, trivial⟩ ?_
      obtain ⟨r3, q5, e⟩ := zB_s e
      refine zF_blk (m := []) (d := 0) (b := B246_3) (gs := []) (c' := (22, [some (22, 0), some (0, v1), some (0, v2), some (0, v3)], [(0, v3)], (hc, (mset h 0 0 0), o))) K246_3 rfl trivial ?_
      refine zF_call (k := 242) (cl := 12) (n := 1) (i := .invokestatic 323) (args := [(0, v3)]) (rest := []) (g1 := (hc, (mset h 0 0 0), o)) (r1 := some (0, r3)) (zCk1_w (by decide +kernel)) rfl rfl rfl (st' := [(0, r3)]) rfl (S242 (Nat.le_trans (by decide) hd) v3 (mset h 0 0 0) _ q5) ?_
      rcases zI_s e with ⟨q6, e⟩ | ⟨q6, e⟩
      · refine zF_blk (m := []) (d := 1) (b := B246_6) (gs := [r3 = 0]) (c' := (38, [some (22, 0), some (0, v1), some (0, v2), some (0, v3)], [], (hc, (mset h 0 0 0), o))) K246_6 rfl ⟨q6, trivial⟩ ?_
        refine zF_blk (m := []) (d := 0) (b := B246_1) (gs := []) (c' := (39, [some (22, 0), some (0, v1), some (0, v2), some (0, v3)], [(0, (-1))], (hc, (mset h 0 0 0), o))) K246_1 rfl trivial ?_
        exact zF_riM (zRe1_w (by decide +kernel)) e
      · refine zF_blk (m := []) (d := 0) (b := B246_6) (gs := [¬ (r3 = 0)]) (c' := (28, [some (22, 0), some (0, v1), some (0, v2), some (0, v3)], [], (hc, (mset h 0 0 0), o))) K246_6 rfl ⟨q6, trivial⟩ ?_
        obtain ⟨r4, q7, e⟩ := zB_s e
        refine zF_blk (m := []) (d := 0) (b := B246_4) (gs := []) (c' := (32, [some (22, 0), some (0, v1), some (0, v2), some (0, v3)], [(0, v3), (0, v2), (0, v1), (22, 0)], (hc, (mset h 0 0 0), o))) K246_4 rfl trivial ?_
        refine zF_call (k := 243) (cl := 12) (n := 4) (i := .invokevirtual 326) (args := [(22, 0), (0, v1), (0, v2), (0, v3)]) (rest := []) (g1 := (hc, r4.2, o)) (r1 := some (0, r4.1)) (zCk1_w (by decide +kernel)) rfl rfl rfl (st' := [(0, r4.1)]) rfl (S243 (Nat.le_trans (by decide) hd) v1 v2 v3 (mset h 0 0 0) _ q7) ?_
        refine zF_blk (m := []) (d := 0) (b := B246_5) (gs := []) (c' := (39, [some (22, 0), some (0, v1), some (0, v2), some (0, v3)], [(0, r4.1)], (hc, r4.2, o))) K246_5 rfl trivial ?_
        exact zF_riM (zRe1_w (by decide +kernel)) e
noncomputable def B105_0 : List zRow := [(0, .iconst 0, 1, (0, 0, 0)), (1, .istore_n 1, 1, (0, 0, 0)), (2, .iconst 0, 1, (0, 0, 0)), (3, .istore_n 2, 1, (0, 0, 0))]
theorem K105_0 : zRk 105 B105_0 = true := zRw_ok (by decide +kernel)
noncomputable def B105_1 : List zRow := [(34, .iload_n 1, 1, (0, 0, 0))]
theorem K105_1 : zRk 105 B105_1 = true := zRw_ok (by decide +kernel)
noncomputable def B105_2 : List zRow := [(22, .iload_n 1, 1, (0, 0, 0)), (23, .iconst 1, 1, (0, 0, 0)), (24, .iload_n 2, 1, (0, 0, 0)), (25, .ishl, 1, (0, 0, 0)), (26, .ior, 1, (0, 0, 0)), (27, .istore_n 1, 1, (0, 0, 0))]
theorem K105_2 : zRk 105 B105_2 = true := zRw_ok (by decide +kernel)
noncomputable def B105_3 : List zRow := [(12, .aload_n 0, 1, (0, 0, 0)), (13, .getfield 31, 3, (9, 13, 5242906)), (16, .iload_n 2, 1, (0, 0, 0)), (17, .iaload, 1, (0, 0, 0)), (18, .iconst (-1), 1, (0, 0, 0)), (19, .if_icmp .eq 9, 3, (0, 0, 0))]
theorem K105_3 : zRk 105 B105_3 = true := zRw_ok (by decide +kernel)
noncomputable def B105_4 : List zRow := [(4, .iload_n 2, 1, (0, 0, 0)), (5, .aload_n 0, 1, (0, 0, 0)), (6, .getfield 62, 3, (9, 3, 0)), (9, .if_icmp .ge 25, 3, (0, 0, 0))]
theorem K105_4 : zRk 105 B105_4 = true := zRw_ok (by decide +kernel)
noncomputable def B105_5 : List zRow := [(28, .iinc 2 1, 3, (0, 0, 0)), (31, .goto (-27), 3, (0, 0, 0))]
theorem K105_5 : zRk 105 B105_5 = true := zRw_ok (by decide +kernel)
def F105_1 (k0 : Int → Int → Int → Option Int) (h : zHC) (v0 : Int) (v1 : Int) (v2 : Int) : Option Int := k0 v0 v1 (wadd v2 1)
set_option maxRecDepth 100000 in
theorem T105_1 {spec : zRn zH2} {hm : zHM} {o : Int → Int} {d : Nat} (hd : 0 ≤ d) (h : zHC) (k0 : Int → Int → Int → Option Int) (hk0 : ∀ (v0 : Int) (v1 : Int) (v2 : Int) (v : Int), k0 v0 v1 v2 = some v → zFin 0 (fun _ => 0) (zRu2 spec d) 105 (some (0, v)) (h, hm, o) (4, [some (19, v0), some (0, v1), some (0, v2)], [], (h, hm, o))) (v0 : Int) (v1 : Int) (v2 : Int) (v : Int) (e : F105_1 k0 h v0 v1 v2 = some v) : zFin 0 (fun _ => 0) (zRu2 spec d) 105 (some (0, v)) (h, hm, o) (28, [some (19, v0), some (0, v1), some (0, v2)], [], (h, hm, o)) := by
  unfold F105_1 at e
  refine zF_blk (m := []) (d := 0) (b := B105_5) (gs := []) (c' := (4, [some (19, v0), some (0, v1), some (0, (wadd v2 1))], [], (h, hm, o))) K105_5 rfl trivial ?_
  exact hk0 v0 v1 (wadd v2 1) _ e
def F105_0 (h : zHC) : Nat → Int → Int → Int → Option Int
  | 0, _, _, _ => none
  | n + 1, v0, v1, v2 => if (h 579 v0 0) ≤ v2 then some v1 else zG (0 ≤ v2 ∧ v2 < 6) (if (h 589 v0 v2) = (-1) then F105_1 (F105_0 h n) h v0 v1 v2 else F105_1 (F105_0 h n) h v0 (wor v1 (wshl 1 v2)) v2)
set_option maxRecDepth 100000 in
theorem T105_0 {spec : zRn zH2} {hm : zHM} {o : Int → Int} {d : Nat} (hd : 0 ≤ d) (h : zHC) : ∀ (n : Nat) (v0 : Int) (v1 : Int) (v2 : Int) (v : Int), F105_0 h n v0 v1 v2 = some v → zFin 0 (fun _ => 0) (zRu2 spec d) 105 (some (0, v)) (h, hm, o) (4, [some (19, v0), some (0, v1), some (0, v2)], [], (h, hm, o)) := by
  intro n
  induction n with
  | zero => intro v0 v1 v2 v e; unfold F105_0 at e; cases e
  | succ n hk0 =>
    intro v0 v1 v2 v e
    unfold F105_0 at e
    rcases zI_s e with ⟨q1, e⟩ | ⟨q1, e⟩
    · refine zF_blk (m := []) (d := 1) (b := B105_4) (gs := [(h 579 v0 0) ≤ v2]) (c' := (34, [some (19, v0), some (0, v1), some (0, v2)], [], (h, hm, o))) K105_4 rfl ⟨q1, trivial⟩ ?_
      refine zF_blk (m := []) (d := 0) (b := B105_1) (gs := []) (c' := (35, [some (19, v0), some (0, v1), some (0, v2)], [(0, v1)], (h, hm, o))) K105_1 rfl trivial ?_
      obtain rfl := Option.some.inj e
      exact zF_ri (zRe1_w (by decide +kernel))
    · refine zF_blk (m := []) (d := 0) (b := B105_4) (gs := [¬ ((h 579 v0 0) ≤ v2)]) (c' := (12, [some (19, v0), some (0, v1), some (0, v2)], [], (h, hm, o))) K105_4 rfl ⟨q1, trivial⟩ ?_
      obtain ⟨q2, e⟩ := zG_s e
      rcases zI_s e with ⟨q3, e⟩ | ⟨q3, e⟩
      · refine zF_blk (m := []) (d := 1) (b := B105_3) (gs := [0 ≤ v2 ∧ v2 < 6, (h 589 v0 v2) = (-1)]) (c' := (28, [some (19, v0), some (0, v1), some (0, v2)], [], (h, hm, o))) K105_3 rfl ⟨q2, q3, trivial⟩ ?_
        exact T105_1 hd h (F105_0 h n) hk0 v0 v1 v2 _ e
      · refine zF_blk (m := []) (d := 0) (b := B105_3) (gs := [0 ≤ v2 ∧ v2 < 6, ¬ ((h 589 v0 v2) = (-1))]) (c' := (22, [some (19, v0), some (0, v1), some (0, v2)], [], (h, hm, o))) K105_3 rfl ⟨q2, q3, trivial⟩ ?_
        refine zF_blk (m := []) (d := 0) (b := B105_2) (gs := []) (c' := (28, [some (19, v0), some (0, (wor v1 (wshl 1 v2))), some (0, v2)], [], (h, hm, o))) K105_2 rfl trivial ?_
        exact T105_1 hd h (F105_0 h n) hk0 v0 (wor v1 (wshl 1 v2)) v2 _ e
/-- EchoVale$Valley.campers()I -/
def F105 (v0 : Int) (h : zHC) : Option Int := F105_0 h zFu v0 0 0
set_option maxRecDepth 100000 in
theorem S105 {spec : zRn zH2} {hm : zHM} {o : Int → Int} {d : Nat} (hd : 1 ≤ d) (v0 : Int) (h : zHC) (v : Int) (e : F105 v0 h = some v) : zRu2 spec d 105 [(19, v0)] (h, hm, o) (some (0, v)) (h, hm, o) := by
  refine zF_in (D := 0) (mx := 3) (L := [some (19, v0), none, none]) (by decide +kernel) rfl rfl hd (fun d hd => ?_)
  unfold F105 at e
  refine zF_blk (m := []) (d := 0) (b := B105_0) (gs := []) (c' := (4, [some (19, v0), some (0, 0), some (0, 0)], [], (h, hm, o))) K105_0 rfl trivial ?_
  exact T105_0 hd h zFu v0 0 0 _ e
noncomputable def B104_0 : List zRow := [(0, .iload_n 1, 1, (0, 0, 0)), (1, .aload_n 0, 1, (0, 0, 0)), (2, .getfield 19, 3, (11, 1, 39))]
theorem K104_0 : zRk 104 B104_0 = true := zRw_ok (by decide +kernel)
noncomputable def B104_1 : List zRow := [(18, .iconst 0, 1, (0, 0, 0))]
theorem K104_1 : zRk 104 B104_1 = true := zRw_ok (by decide +kernel)
noncomputable def B104_2 : List zRow := [(14, .iconst 1, 1, (0, 0, 0)), (15, .goto 4, 3, (0, 0, 0))]
theorem K104_2 : zRk 104 B104_2 = true := zRw_ok (by decide +kernel)
noncomputable def B104_3 : List zRow := [(8, .iconst (-1), 1, (0, 0, 0)), (9, .ixor, 1, (0, 0, 0)), (10, .iand, 1, (0, 0, 0)), (11, .ifCond .ne 7, 3, (0, 0, 0))]
theorem K104_3 : zRk 104 B104_3 = true := zRw_ok (by decide +kernel)
/-- EchoVale.areCamps(I)Z -/
def F104 (v1 : Int) (h : zHC) : Option Int := (F105 0 h).bind fun r1 => if ¬ (wand v1 (wxor r1 (-1))) = 0 then some 0 else some 1
set_option maxRecDepth 100000 in
theorem S104 {spec : zRn zH2} {hm : zHM} {o : Int → Int} {d : Nat} (hd : 2 ≤ d) (v1 : Int) (h : zHC) (v : Int) (e : F104 v1 h = some v) : zRu2 spec d 104 [(21, 0), (0, v1)] (h, hm, o) (some (0, v)) (h, hm, o) := by
  refine zF_in (D := 1) (mx := 2) (L := [some (21, 0), some (0, v1)]) (by decide +kernel) rfl rfl hd (fun d hd => ?_)
  unfold F104 at e
  obtain ⟨r1, q1, e⟩ := zB_s e
  refine zF_blk (m := []) (d := 0) (b := B104_0) (gs := []) (c' := (5, [some (21, 0), some (0, v1)], [(19, 0), (0, v1)], (h, hm, o))) K104_0 rfl trivial ?_
  refine zF_call (k := 105) (cl := 9) (n := 1) (i := .invokevirtual 371) (args := [(19, 0)]) (rest := [(0, v1)]) (g1 := (h, hm, o)) (r1 := some (0, r1)) (zCk1_w (by decide +kernel)) rfl rfl rfl (st' := [(0, r1), (0, v1)]) rfl (S105 (Nat.le_trans (by decide) hd) 0 h _ q1) ?_
  rcases zI_s e with ⟨q2, e⟩ | ⟨q2, e⟩
  · refine zF_blk (m := []) (d := 1) (b := B104_3) (gs := [¬ (wand v1 (wxor r1 (-1))) = 0]) (c' := (18, [some (21, 0), some (0, v1)], [], (h, hm, o))) K104_3 rfl ⟨q2, trivial⟩ ?_
    refine zF_blk (m := []) (d := 0) (b := B104_1) (gs := []) (c' := (19, [some (21, 0), some (0, v1)], [(0, 0)], (h, hm, o))) K104_1 rfl trivial ?_
    obtain rfl := Option.some.inj e
    exact zF_rb (zRe1_w (by decide +kernel)) (Or.inl rfl)
  · refine zF_blk (m := []) (d := 0) (b := B104_3) (gs := [¬ (¬ (wand v1 (wxor r1 (-1))) = 0)]) (c' := (14, [some (21, 0), some (0, v1)], [], (h, hm, o))) K104_3 rfl ⟨q2, trivial⟩ ?_
    refine zF_blk (m := []) (d := 0) (b := B104_2) (gs := []) (c' := (19, [some (21, 0), some (0, v1)], [(0, 1)], (h, hm, o))) K104_2 rfl trivial ?_
    obtain rfl := Option.some.inj e
    exact zF_rb (zRe1_w (by decide +kernel)) (Or.inr rfl)
noncomputable def B106_0 : List zRow := [(0, .aload_n 0, 1, (0, 0, 0)), (1, .getfield 60, 3, (11, 7, 135)), (4, .aload_n 0, 1, (0, 0, 0)), (5, .getfield 56, 3, (11, 6, 7))]
theorem K106_0 : zRk 106 B106_0 = true := zRw_ok (by decide +kernel)
noncomputable def B106_1 : List zRow := [(11, .iconst 0, 1, (0, 0, 0)), (12, .istore_n 3, 1, (0, 0, 0))]
theorem K106_1 : zRk 106 B106_1 = true := zRw_ok (by decide +kernel)
noncomputable def B106_2 : List zRow := [(56, .aload_n 0, 1, (0, 0, 0)), (57, .getfield 60, 3, (11, 7, 135)), (60, .aload_n 0, 1, (0, 0, 0)), (61, .getfield 19, 3, (11, 1, 39)), (64, .iload_n 2, 1, (0, 0, 0))]
theorem K106_2 : zRk 106 B106_2 = true := zRw_ok (by decide +kernel)
noncomputable def B106_3 : List zRow := [(68, .pop, 1, (0, 0, 0))]
theorem K106_3 : zRk 106 B106_3 = true := zRw_ok (by decide +kernel)
noncomputable def B106_4 : List zRow := [(24, .iload_n 1, 1, (0, 0, 0)), (25, .iload_n 3, 1, (0, 0, 0))]
theorem K106_4 : zRk 106 B106_4 = true := zRw_ok (by decide +kernel)
noncomputable def B106_5 : List zRow := [(32, .aload_n 0, 1, (0, 0, 0)), (33, .getfield 60, 3, (11, 7, 135)), (36, .getfield 177, 3, (1, 3, 5242906)), (39, .iload_n 3, 1, (0, 0, 0)), (40, .aload_n 0, 1, (0, 0, 0)), (41, .getfield 19, 3, (11, 1, 39)), (44, .getfield 188, 3, (9, 13, 5242906)), (47, .iload_n 3, 1, (0, 0, 0)), (48, .iaload, 1, (0, 0, 0)), (49, .iastore, 1, (0, 0, 0))]
theorem K106_5 : zRk 106 B106_5 = true := zRw_ok (by decide +kernel)
noncomputable def B106_6 : List zRow := [(29, .ifCond .eq 21, 3, (0, 0, 0))]
theorem K106_6 : zRk 106 B106_6 = true := zRw_ok (by decide +kernel)
noncomputable def B106_7 : List zRow := [(13, .iload_n 3, 1, (0, 0, 0)), (14, .aload_n 0, 1, (0, 0, 0)), (15, .getfield 19, 3, (11, 1, 39)), (18, .getfield 311, 3, (9, 3, 0)), (21, .if_icmp .ge 35, 3, (0, 0, 0))]
theorem K106_7 : zRk 106 B106_7 = true := zRw_ok (by decide +kernel)
noncomputable def B106_8 : List zRow := [(50, .iinc 3 1, 3, (0, 0, 0)), (53, .goto (-40), 3, (0, 0, 0))]
theorem K106_8 : zRk 106 B106_8 = true := zRw_ok (by decide +kernel)
def F106_1 (k0 : Int → Int → Int → zHC → Option zHC) (v1 : Int) (v2 : Int) (v3 : Int) (h : zHC) : Option zHC := k0 v1 v2 (wadd v3 1) h
set_option maxRecDepth 100000 in
theorem T106_1 {spec : zRn zH2} {hm : zHM} {o : Int → Int} {d : Nat} (hd : 6 ≤ d) (k0 : Int → Int → Int → zHC → Option zHC) (hk0 : ∀ (v1 : Int) (v2 : Int) (v3 : Int) (h : zHC) (v : zHC), k0 v1 v2 v3 h = some v → zFin 0 (fun _ => 0) (zRu2 spec d) 106 none (v, hm, o) (13, [some (21, 0), some (0, v1), some (0, v2), some (0, v3)], [], (h, hm, o))) (v1 : Int) (v2 : Int) (v3 : Int) (h : zHC) (v : zHC) (e : F106_1 k0 v1 v2 v3 h = some v) : zFin 0 (fun _ => 0) (zRu2 spec d) 106 none (v, hm, o) (50, [some (21, 0), some (0, v1), some (0, v2), some (0, v3)], [], (h, hm, o)) := by
  unfold F106_1 at e
  refine zF_blk (m := []) (d := 0) (b := B106_8) (gs := []) (c' := (13, [some (21, 0), some (0, v1), some (0, v2), some (0, (wadd v3 1))], [], (h, hm, o))) K106_8 rfl trivial ?_
  exact hk0 v1 v2 (wadd v3 1) h _ e
def F106_0 : Nat → Int → Int → Int → zHC → Option zHC
  | 0, _, _, _, _ => none
  | n + 1, v1, v2, v3, h => if (h 579 0 0) ≤ v3 then (F88 1 0 v2 h).bind fun r1 => some r1.2 else (F65 v1 v3).bind fun r2 => if r2 = 0 then F106_1 (F106_0 n) v1 v2 v3 h else zG (0 ≤ v3 ∧ v3 < 6) (zG (0 ≤ v3 ∧ v3 < 6) (F106_1 (F106_0 n) v1 v2 v3 (hset h 67 1 v3 (h 589 0 v3))))
set_option maxRecDepth 100000 in
theorem T106_0 {spec : zRn zH2} {hm : zHM} {o : Int → Int} {d : Nat} (hd : 6 ≤ d) : ∀ (n : Nat) (v1 : Int) (v2 : Int) (v3 : Int) (h : zHC) (v : zHC), F106_0 n v1 v2 v3 h = some v → zFin 0 (fun _ => 0) (zRu2 spec d) 106 none (v, hm, o) (13, [some (21, 0), some (0, v1), some (0, v2), some (0, v3)], [], (h, hm, o)) := by
  intro n
  induction n with
  | zero => intro v1 v2 v3 h v e; unfold F106_0 at e; cases e
  | succ n hk0 =>
    intro v1 v2 v3 h v e
    unfold F106_0 at e
    rcases zI_s e with ⟨q1, e⟩ | ⟨q1, e⟩
    · refine zF_blk (m := []) (d := 1) (b := B106_7) (gs := [(h 579 0 0) ≤ v3]) (c' := (56, [some (21, 0), some (0, v1), some (0, v2), some (0, v3)], [], (h, hm, o))) K106_7 rfl ⟨q1, trivial⟩ ?_
      obtain ⟨r1, q2, e⟩ := zB_s e
      refine zF_blk (m := []) (d := 0) (b := B106_2) (gs := []) (c' := (65, [some (21, 0), some (0, v1), some (0, v2), some (0, v3)], [(0, v2), (19, 0), (11, 1)], (h, hm, o))) K106_2 rfl trivial ?_
      refine zF_call (k := 88) (cl := 1) (n := 3) (i := .invokevirtual 231) (args := [(11, 1), (19, 0), (0, v2)]) (rest := []) (g1 := (r1.2, hm, o)) (r1 := some (0, r1.1)) (zCk1_w (by decide +kernel)) rfl rfl rfl (st' := [(0, r1.1)]) rfl (S88 (Nat.le_trans (by decide) hd) 1 0 v2 h _ q2) ?_
      refine zF_blk (m := []) (d := 0) (b := B106_3) (gs := []) (c' := (69, [some (21, 0), some (0, v1), some (0, v2), some (0, v3)], [], (r1.2, hm, o))) K106_3 rfl trivial ?_
      obtain rfl := Option.some.inj e
      exact zF_rv (zRe1_w (by decide +kernel))
    · refine zF_blk (m := []) (d := 0) (b := B106_7) (gs := [¬ ((h 579 0 0) ≤ v3)]) (c' := (24, [some (21, 0), some (0, v1), some (0, v2), some (0, v3)], [], (h, hm, o))) K106_7 rfl ⟨q1, trivial⟩ ?_
      obtain ⟨r2, q3, e⟩ := zB_s e
      refine zF_blk (m := []) (d := 0) (b := B106_4) (gs := []) (c' := (26, [some (21, 0), some (0, v1), some (0, v2), some (0, v3)], [(0, v3), (0, v1)], (h, hm, o))) K106_4 rfl trivial ?_
      refine zF_call (k := 65) (cl := 11) (n := 2) (i := .invokestatic 272) (args := [(0, v1), (0, v3)]) (rest := []) (g1 := (h, hm, o)) (r1 := some (0, r2)) (zCk1_w (by decide +kernel)) rfl rfl rfl (st' := [(0, r2)]) rfl (S65 (Nat.le_trans (by decide) hd) v1 v3 h _ q3) ?_
      rcases zI_s e with ⟨q4, e⟩ | ⟨q4, e⟩
      · refine zF_blk (m := []) (d := 1) (b := B106_6) (gs := [r2 = 0]) (c' := (50, [some (21, 0), some (0, v1), some (0, v2), some (0, v3)], [], (h, hm, o))) K106_6 rfl ⟨q4, trivial⟩ ?_
        exact T106_1 hd (F106_0 n) hk0 v1 v2 v3 h _ e
      · refine zF_blk (m := []) (d := 0) (b := B106_6) (gs := [¬ (r2 = 0)]) (c' := (32, [some (21, 0), some (0, v1), some (0, v2), some (0, v3)], [], (h, hm, o))) K106_6 rfl ⟨q4, trivial⟩ ?_
        obtain ⟨q5, e⟩ := zG_s e
        obtain ⟨q5, e⟩ := zG_s e
        refine zF_blk (m := []) (d := 0) (b := B106_5) (gs := [0 ≤ v3 ∧ v3 < 6, 0 ≤ v3 ∧ v3 < 6]) (c' := (50, [some (21, 0), some (0, v1), some (0, v2), some (0, v3)], [], ((hset h 67 1 v3 (h 589 0 v3)), hm, o))) K106_5 rfl ⟨q5, q5, trivial⟩ ?_
        exact T106_1 hd (F106_0 n) hk0 v1 v2 v3 (hset h 67 1 v3 (h 589 0 v3)) _ e
/-- EchoVale.passByCamps(II)V -/
def F106 (v1 : Int) (v2 : Int) (h : zHC) : Option zHC := (F71 1 0 h).bind fun r1 => F106_0 zFu v1 v2 0 r1
set_option maxRecDepth 100000 in
theorem S106 {spec : zRn zH2} {hm : zHM} {o : Int → Int} {d : Nat} (hd : 7 ≤ d) (v1 : Int) (v2 : Int) (h : zHC) (v : zHC) (e : F106 v1 v2 h = some v) : zRu2 spec d 106 [(21, 0), (0, v1), (0, v2)] (h, hm, o) none (v, hm, o) := by
  refine zF_in (D := 6) (mx := 4) (L := [some (21, 0), some (0, v1), some (0, v2), none]) (by decide +kernel) rfl rfl hd (fun d hd => ?_)
  unfold F106 at e
  obtain ⟨r1, q1, e⟩ := zB_s e
  refine zF_blk (m := []) (d := 0) (b := B106_0) (gs := []) (c' := (8, [some (21, 0), some (0, v1), some (0, v2), none], [(11, 0), (11, 1)], (h, hm, o))) K106_0 rfl trivial ?_
  refine zF_call (k := 71) (cl := 1) (n := 2) (i := .invokevirtual 266) (args := [(11, 1), (11, 0)]) (rest := []) (g1 := (r1, hm, o)) (r1 := none) (zCk1_w (by decide +kernel)) rfl rfl rfl (st' := []) rfl (S71 (Nat.le_trans (by decide) hd) 1 0 h _ q1) ?_
  refine zF_blk (m := []) (d := 0) (b := B106_1) (gs := []) (c' := (13, [some (21, 0), some (0, v1), some (0, v2), some (0, 0)], [], (r1, hm, o))) K106_1 rfl trivial ?_
  exact T106_0 hd zFu v1 v2 0 r1 _ e
noncomputable def B103_0 : List zRow := [(0, .aload_n 0, 1, (0, 0, 0)), (1, .iload_n 1, 1, (0, 0, 0))]
theorem K103_0 : zRk 103 B103_0 = true := zRw_ok (by decide +kernel)
noncomputable def B103_1 : List zRow := [(23, .iconst (-1), 1, (0, 0, 0))]
theorem K103_1 : zRk 103 B103_1 = true := zRw_ok (by decide +kernel)
noncomputable def B103_2 : List zRow := [(8, .iload_n 3, 1, (0, 0, 0))]
theorem K103_2 : zRk 103 B103_2 = true := zRw_ok (by decide +kernel)
noncomputable def B103_3 : List zRow := [(15, .aload_n 0, 1, (0, 0, 0)), (16, .iload_n 2, 1, (0, 0, 0))]
theorem K103_3 : zRk 103 B103_3 = true := zRw_ok (by decide +kernel)
noncomputable def B103_4 : List zRow := [(25, .aload_n 0, 1, (0, 0, 0)), (26, .iload_n 2, 1, (0, 0, 0)), (27, .iload_n 3, 1, (0, 0, 0))]
theorem K103_4 : zRk 103 B103_4 = true := zRw_ok (by decide +kernel)
noncomputable def B103_5 : List zRow := [(31, .aload_n 0, 1, (0, 0, 0)), (32, .getfield 60, 3, (11, 7, 135)), (35, .iload_n 1, 1, (0, 0, 0))]
theorem K103_5 : zRk 103 B103_5 = true := zRw_ok (by decide +kernel)
noncomputable def B103_6 : List zRow := [(20, .ifCond .ne 5, 3, (0, 0, 0))]
theorem K103_6 : zRk 103 B103_6 = true := zRw_ok (by decide +kernel)
noncomputable def B103_7 : List zRow := [(12, .ifCond .eq 11, 3, (0, 0, 0))]
theorem K103_7 : zRk 103 B103_7 = true := zRw_ok (by decide +kernel)
noncomputable def B103_8 : List zRow := [(5, .ifCond .eq 18, 3, (0, 0, 0))]
theorem K103_8 : zRk 103 B103_8 = true := zRw_ok (by decide +kernel)
/-- EchoVale.has(III)I -/
def F103 (v1 : Int) (v2 : Int) (v3 : Int) (h : zHC) : Option (Int × zHC) := (F61 v1 h).bind fun r1 => if r1 = 0 then some ((-1), h) else (F99 v3).bind fun r2 => if r2 = 0 then some ((-1), h) else (F104 v2 h).bind fun r3 => if ¬ r3 = 0 then (F106 v2 v3 h).bind fun r4 => (F101 1 v1 r4).bind fun r5 => some (r5, r4) else some ((-1), h)
set_option maxRecDepth 100000 in
theorem S103 {spec : zRn zH2} {hm : zHM} {o : Int → Int} {d : Nat} (hd : 8 ≤ d) (v1 : Int) (v2 : Int) (v3 : Int) (h : zHC) (v : (Int × zHC)) (e : F103 v1 v2 v3 h = some v) : zRu2 spec d 103 [(21, 0), (0, v1), (0, v2), (0, v3)] (h, hm, o) (some (0, v.1)) (v.2, hm, o) := by
  refine zF_in (D := 7) (mx := 4) (L := [some (21, 0), some (0, v1), some (0, v2), some (0, v3)]) (by decide +kernel) rfl rfl hd (fun d hd => ?_)
  unfold F103 at e
  obtain ⟨r1, q1, e⟩ := zB_s e
  refine zF_blk (m := []) (d := 0) (b := B103_0) (gs := []) (c' := (2, [some (21, 0), some (0, v1), some (0, v2), some (0, v3)], [(0, v1), (21, 0)], (h, hm, o))) K103_0 rfl trivial ?_
  refine zF_call (k := 61) (cl := 11) (n := 2) (i := .invokevirtual 172) (args := [(21, 0), (0, v1)]) (rest := []) (g1 := (h, hm, o)) (r1 := some (0, r1)) (zCk1_w (by decide +kernel)) rfl rfl rfl (st' := [(0, r1)]) rfl (S61 (Nat.le_trans (by decide) hd) v1 h _ q1) ?_
  rcases zI_s e with ⟨q2, e⟩ | ⟨q2, e⟩
  · refine zF_blk (m := []) (d := 1) (b := B103_8) (gs := [r1 = 0]) (c' := (23, [some (21, 0), some (0, v1), some (0, v2), some (0, v3)], [], (h, hm, o))) K103_8 rfl ⟨q2, trivial⟩ ?_
    refine zF_blk (m := []) (d := 0) (b := B103_1) (gs := []) (c' := (24, [some (21, 0), some (0, v1), some (0, v2), some (0, v3)], [(0, (-1))], (h, hm, o))) K103_1 rfl trivial ?_
    exact zF_riC (zRe1_w (by decide +kernel)) e
  · refine zF_blk (m := []) (d := 0) (b := B103_8) (gs := [¬ (r1 = 0)]) (c' := (8, [some (21, 0), some (0, v1), some (0, v2), some (0, v3)], [], (h, hm, o))) K103_8 rfl ⟨q2, trivial⟩ ?_
    obtain ⟨r2, q3, e⟩ := zB_s e
    refine zF_blk (m := []) (d := 0) (b := B103_2) (gs := []) (c' := (9, [some (21, 0), some (0, v1), some (0, v2), some (0, v3)], [(0, v3)], (h, hm, o))) K103_2 rfl trivial ?_
    refine zF_call (k := 99) (cl := 11) (n := 1) (i := .invokestatic 242) (args := [(0, v3)]) (rest := []) (g1 := (h, hm, o)) (r1 := some (0, r2)) (zCk1_w (by decide +kernel)) rfl rfl rfl (st' := [(0, r2)]) rfl (S99 (Nat.le_trans (by decide) hd) v3 h _ q3) ?_
    rcases zI_s e with ⟨q4, e⟩ | ⟨q4, e⟩
    · refine zF_blk (m := []) (d := 1) (b := B103_7) (gs := [r2 = 0]) (c' := (23, [some (21, 0), some (0, v1), some (0, v2), some (0, v3)], [], (h, hm, o))) K103_7 rfl ⟨q4, trivial⟩ ?_
      refine zF_blk (m := []) (d := 0) (b := B103_1) (gs := []) (c' := (24, [some (21, 0), some (0, v1), some (0, v2), some (0, v3)], [(0, (-1))], (h, hm, o))) K103_1 rfl trivial ?_
      exact zF_riC (zRe1_w (by decide +kernel)) e
    · refine zF_blk (m := []) (d := 0) (b := B103_7) (gs := [¬ (r2 = 0)]) (c' := (15, [some (21, 0), some (0, v1), some (0, v2), some (0, v3)], [], (h, hm, o))) K103_7 rfl ⟨q4, trivial⟩ ?_
      obtain ⟨r3, q5, e⟩ := zB_s e
      refine zF_blk (m := []) (d := 0) (b := B103_3) (gs := []) (c' := (17, [some (21, 0), some (0, v1), some (0, v2), some (0, v3)], [(0, v2), (21, 0)], (h, hm, o))) K103_3 rfl trivial ?_
      refine zF_call (k := 104) (cl := 11) (n := 2) (i := .invokevirtual 249) (args := [(21, 0), (0, v2)]) (rest := []) (g1 := (h, hm, o)) (r1 := some (0, r3)) (zCk1_w (by decide +kernel)) rfl rfl rfl (st' := [(0, r3)]) rfl (S104 (Nat.le_trans (by decide) hd) v2 h _ q5) ?_
      rcases zI_s e with ⟨q6, e⟩ | ⟨q6, e⟩
      · refine zF_blk (m := []) (d := 1) (b := B103_6) (gs := [¬ r3 = 0]) (c' := (25, [some (21, 0), some (0, v1), some (0, v2), some (0, v3)], [], (h, hm, o))) K103_6 rfl ⟨q6, trivial⟩ ?_
        obtain ⟨r4, q7, e⟩ := zB_s e
        refine zF_blk (m := []) (d := 0) (b := B103_4) (gs := []) (c' := (28, [some (21, 0), some (0, v1), some (0, v2), some (0, v3)], [(0, v3), (0, v2), (21, 0)], (h, hm, o))) K103_4 rfl trivial ?_
        refine zF_call (k := 106) (cl := 11) (n := 3) (i := .invokevirtual 252) (args := [(21, 0), (0, v2), (0, v3)]) (rest := []) (g1 := (r4, hm, o)) (r1 := none) (zCk1_w (by decide +kernel)) rfl rfl rfl (st' := []) rfl (S106 (Nat.le_trans (by decide) hd) v2 v3 h _ q7) ?_
        obtain ⟨r5, q8, e⟩ := zB_s e
        refine zF_blk (m := []) (d := 0) (b := B103_5) (gs := []) (c' := (36, [some (21, 0), some (0, v1), some (0, v2), some (0, v3)], [(0, v1), (11, 1)], (r4, hm, o))) K103_5 rfl trivial ?_
        refine zF_call (k := 101) (cl := 1) (n := 2) (i := .invokevirtual 179) (args := [(11, 1), (0, v1)]) (rest := []) (g1 := (r4, hm, o)) (r1 := some (0, r5)) (zCk1_w (by decide +kernel)) rfl rfl rfl (st' := [(0, r5)]) rfl (S101 (Nat.le_trans (by decide) hd) 1 v1 r4 _ q8) ?_
        exact zF_riC (zRe1_w (by decide +kernel)) e
      · refine zF_blk (m := []) (d := 0) (b := B103_6) (gs := [¬ (¬ r3 = 0)]) (c' := (23, [some (21, 0), some (0, v1), some (0, v2), some (0, v3)], [], (h, hm, o))) K103_6 rfl ⟨q6, trivial⟩ ?_
        refine zF_blk (m := []) (d := 0) (b := B103_1) (gs := []) (c' := (24, [some (21, 0), some (0, v1), some (0, v2), some (0, v3)], [(0, (-1))], (h, hm, o))) K103_1 rfl trivial ?_
        exact zF_riC (zRe1_w (by decide +kernel)) e
noncomputable def B248_0 : List zRow := [(0, .iconst 0, 1, (0, 0, 0)), (1, .istore_n 1, 1, (0, 0, 0)), (2, .iconst 0, 1, (0, 0, 0)), (3, .istore_n 2, 1, (0, 0, 0))]
theorem K248_0 : zRk 248 B248_0 = true := zRw_ok (by decide +kernel)
noncomputable def B248_1 : List zRow := [(43, .iload_n 1, 1, (0, 0, 0))]
theorem K248_1 : zRk 248 B248_1 = true := zRw_ok (by decide +kernel)
noncomputable def B248_2 : List zRow := [(14, .aload_n 0, 1, (0, 0, 0)), (15, .getfield 13, 3, (12, 14, 5251442)), (18, .bipush 25, 2, (0, 0, 0)), (20, .iconst 2, 1, (0, 0, 0)), (21, .iload_n 2, 1, (0, 0, 0))]
theorem K248_2 : zRk 248 B248_2 = true := zRw_ok (by decide +kernel)
noncomputable def B248_3 : List zRow := [(22, .imul, 1, (0, 0, 0))]
theorem K248_3 : zRk 248 B248_3 = true := zRw_ok (by decide +kernel)
noncomputable def B248_4 : List zRow := [(31, .iload_n 1, 1, (0, 0, 0)), (32, .iconst 1, 1, (0, 0, 0)), (33, .iload_n 2, 1, (0, 0, 0)), (34, .ishl, 1, (0, 0, 0)), (35, .ior, 1, (0, 0, 0)), (36, .istore_n 1, 1, (0, 0, 0))]
theorem K248_4 : zRk 248 B248_4 = true := zRw_ok (by decide +kernel)
noncomputable def B248_5 : List zRow := [(23, .iadd, 1, (0, 0, 0)), (24, .iconst 1, 1, (0, 0, 0)), (25, .iadd, 1, (0, 0, 0)), (26, .iaload, 1, (0, 0, 0)), (27, .iconst (-1), 1, (0, 0, 0)), (28, .if_icmp .eq 9, 3, (0, 0, 0))]
theorem K248_5 : zRk 248 B248_5 = true := zRw_ok (by decide +kernel)
noncomputable def B248_6 : List zRow := [(4, .iload_n 2, 1, (0, 0, 0)), (5, .aload_n 0, 1, (0, 0, 0)), (6, .getfield 13, 3, (12, 14, 5251442)), (9, .iconst 3, 1, (0, 0, 0)), (10, .iaload, 1, (0, 0, 0)), (11, .if_icmp .ge 32, 3, (0, 0, 0))]
theorem K248_6 : zRk 248 B248_6 = true := zRw_ok (by decide +kernel)
noncomputable def B248_7 : List zRow := [(37, .iinc 2 1, 3, (0, 0, 0)), (40, .goto (-36), 3, (0, 0, 0))]
theorem K248_7 : zRk 248 B248_7 = true := zRw_ok (by decide +kernel)
def F248_1 (k0 : Int → Int → Option Int) (h : zHM) (v1 : Int) (v2 : Int) : Option Int := k0 v1 (wadd v2 1)
set_option maxRecDepth 100000 in
theorem T248_1 {spec : zRn zH2} {hc : zHC} {o : Int → Int} {d : Nat} (hd : 0 ≤ d) (h : zHM) (k0 : Int → Int → Option Int) (hk0 : ∀ (v1 : Int) (v2 : Int) (v : Int), k0 v1 v2 = some v → zFin 0 (fun _ => 0) (zRu2 spec d) 248 (some (0, v)) (hc, h, o) (4, [some (22, 0), some (0, v1), some (0, v2)], [], (hc, h, o))) (v1 : Int) (v2 : Int) (v : Int) (e : F248_1 k0 h v1 v2 = some v) : zFin 0 (fun _ => 0) (zRu2 spec d) 248 (some (0, v)) (hc, h, o) (37, [some (22, 0), some (0, v1), some (0, v2)], [], (hc, h, o)) := by
  unfold F248_1 at e
  refine zF_blk (m := []) (d := 0) (b := B248_7) (gs := []) (c' := (4, [some (22, 0), some (0, v1), some (0, (wadd v2 1))], [], (hc, h, o))) K248_7 rfl trivial ?_
  exact hk0 v1 (wadd v2 1) _ e
def F248_0 (h : zHM) : Nat → Int → Int → Option Int
  | 0, _, _ => none
  | n + 1, v1, v2 => if (h 14 3) ≤ v2 then some v1 else zG (0 ≤ (wadd (wadd 25 (wmul 2 v2)) 1) ∧ (wadd (wadd 25 (wmul 2 v2)) 1) < 2140) (if (h 14 (wadd (wadd 25 (wmul 2 v2)) 1)) = (-1) then F248_1 (F248_0 h n) h v1 v2 else F248_1 (F248_0 h n) h (wor v1 (wshl 1 v2)) v2)
set_option maxRecDepth 100000 in
theorem T248_0 {spec : zRn zH2} {hc : zHC} {o : Int → Int} {d : Nat} (hd : 0 ≤ d) (h : zHM) : ∀ (n : Nat) (v1 : Int) (v2 : Int) (v : Int), F248_0 h n v1 v2 = some v → zFin 0 (fun _ => 0) (zRu2 spec d) 248 (some (0, v)) (hc, h, o) (4, [some (22, 0), some (0, v1), some (0, v2)], [], (hc, h, o)) := by
  intro n
  induction n with
  | zero => intro v1 v2 v e; unfold F248_0 at e; cases e
  | succ n hk0 =>
    intro v1 v2 v e
    unfold F248_0 at e
    rcases zI_s e with ⟨q1, e⟩ | ⟨q1, e⟩
    · refine zF_blk (m := []) (d := 1) (b := B248_6) (gs := [0 ≤ 3 ∧ 3 < 2140, (h 14 3) ≤ v2]) (c' := (43, [some (22, 0), some (0, v1), some (0, v2)], [], (hc, h, o))) K248_6 rfl ⟨by decide, q1, trivial⟩ ?_
      refine zF_blk (m := []) (d := 0) (b := B248_1) (gs := []) (c' := (44, [some (22, 0), some (0, v1), some (0, v2)], [(0, v1)], (hc, h, o))) K248_1 rfl trivial ?_
      obtain rfl := Option.some.inj e
      exact zF_ri (zRe1_w (by decide +kernel))
    · refine zF_blk (m := []) (d := 0) (b := B248_6) (gs := [0 ≤ 3 ∧ 3 < 2140, ¬ ((h 14 3) ≤ v2)]) (c' := (14, [some (22, 0), some (0, v1), some (0, v2)], [], (hc, h, o))) K248_6 rfl ⟨by decide, q1, trivial⟩ ?_
      obtain ⟨q2, e⟩ := zG_s e
      refine zF_blk (m := []) (d := 0) (b := B248_2) (gs := []) (c' := (22, [some (22, 0), some (0, v1), some (0, v2)], [(0, v2), (0, 2), (0, 25), (1344370422, 0)], (hc, h, o))) K248_2 rfl trivial ?_
      refine zF_blk (m := []) (d := 0) (b := B248_3) (gs := []) (c' := (23, [some (22, 0), some (0, v1), some (0, v2)], [(0, (wmul 2 v2)), (0, 25), (1344370422, 0)], (hc, h, o))) K248_3 rfl trivial ?_
      rcases zI_s e with ⟨q3, e⟩ | ⟨q3, e⟩
      · refine zF_blk (m := []) (d := 1) (b := B248_5) (gs := [0 ≤ (wadd (wadd 25 (wmul 2 v2)) 1) ∧ (wadd (wadd 25 (wmul 2 v2)) 1) < 2140, (h 14 (wadd (wadd 25 (wmul 2 v2)) 1)) = (-1)]) (c' := (37, [some (22, 0), some (0, v1), some (0, v2)], [], (hc, h, o))) K248_5 rfl ⟨q2, q3, trivial⟩ ?_
        exact T248_1 hd h (F248_0 h n) hk0 v1 v2 _ e
      · refine zF_blk (m := []) (d := 0) (b := B248_5) (gs := [0 ≤ (wadd (wadd 25 (wmul 2 v2)) 1) ∧ (wadd (wadd 25 (wmul 2 v2)) 1) < 2140, ¬ ((h 14 (wadd (wadd 25 (wmul 2 v2)) 1)) = (-1))]) (c' := (31, [some (22, 0), some (0, v1), some (0, v2)], [], (hc, h, o))) K248_5 rfl ⟨q2, q3, trivial⟩ ?_
        refine zF_blk (m := []) (d := 0) (b := B248_4) (gs := []) (c' := (37, [some (22, 0), some (0, (wor v1 (wshl 1 v2))), some (0, v2)], [], (hc, h, o))) K248_4 rfl trivial ?_
        exact T248_1 hd h (F248_0 h n) hk0 (wor v1 (wshl 1 v2)) v2 _ e
/-- EchoValeModel.campers()I -/
def F248 (h : zHM) : Option Int := F248_0 h zFu 0 0
set_option maxRecDepth 100000 in
theorem S248 {spec : zRn zH2} {hc : zHC} {o : Int → Int} {d : Nat} (hd : 1 ≤ d) (h : zHM) (v : Int) (e : F248 h = some v) : zRu2 spec d 248 [(22, 0)] (hc, h, o) (some (0, v)) (hc, h, o) := by
  refine zF_in (D := 0) (mx := 3) (L := [some (22, 0), none, none]) (by decide +kernel) rfl rfl hd (fun d hd => ?_)
  unfold F248 at e
  refine zF_blk (m := []) (d := 0) (b := B248_0) (gs := []) (c' := (4, [some (22, 0), some (0, 0), some (0, 0)], [], (hc, h, o))) K248_0 rfl trivial ?_
  exact T248_0 hd h zFu 0 0 _ e
noncomputable def B249_0 : List zRow := [(0, .aload_n 0, 1, (0, 0, 0))]
theorem K249_0 : zRk 249 B249_0 = true := zRw_ok (by decide +kernel)
noncomputable def B249_1 : List zRow := [(4, .iconst 0, 1, (0, 0, 0)), (5, .istore_n 3, 1, (0, 0, 0))]
theorem K249_1 : zRk 249 B249_1 = true := zRw_ok (by decide +kernel)
noncomputable def B249_2 : List zRow := [(53, .aload_n 0, 1, (0, 0, 0)), (54, .iload_n 2, 1, (0, 0, 0))]
theorem K249_2 : zRk 249 B249_2 = true := zRw_ok (by decide +kernel)
noncomputable def B249_3 : List zRow := [(58, .pop, 1, (0, 0, 0)), (59, .iconst 0, 1, (0, 0, 0)), (60, .istore_n 3, 1, (0, 0, 0))]
theorem K249_3 : zRk 249 B249_3 = true := zRw_ok (by decide +kernel)
noncomputable def B249_4 : List zRow := [(16, .iload_n 1, 1, (0, 0, 0)), (17, .iload_n 3, 1, (0, 0, 0))]
theorem K249_4 : zRk 249 B249_4 = true := zRw_ok (by decide +kernel)
noncomputable def B249_5 : List zRow := [(24, .aload_n 0, 1, (0, 0, 0)), (25, .getfield 13, 3, (12, 14, 5251442)), (28, .sipush 210, 3, (0, 0, 0)), (31, .iload_n 3, 1, (0, 0, 0))]
theorem K249_5 : zRk 249 B249_5 = true := zRw_ok (by decide +kernel)
noncomputable def B249_6 : List zRow := [(32, .iadd, 1, (0, 0, 0)), (33, .aload_n 0, 1, (0, 0, 0)), (34, .getfield 13, 3, (12, 14, 5251442)), (37, .bipush 25, 2, (0, 0, 0)), (39, .iconst 2, 1, (0, 0, 0)), (40, .iload_n 3, 1, (0, 0, 0))]
theorem K249_6 : zRk 249 B249_6 = true := zRw_ok (by decide +kernel)
noncomputable def B249_7 : List zRow := [(41, .imul, 1, (0, 0, 0))]
theorem K249_7 : zRk 249 B249_7 = true := zRw_ok (by decide +kernel)
noncomputable def B249_8 : List zRow := [(42, .iadd, 1, (0, 0, 0)), (43, .iconst 1, 1, (0, 0, 0)), (44, .iadd, 1, (0, 0, 0)), (45, .iaload, 1, (0, 0, 0)), (46, .iastore, 1, (0, 0, 0))]
theorem K249_8 : zRk 249 B249_8 = true := zRw_ok (by decide +kernel)
noncomputable def B249_9 : List zRow := [(21, .ifCond .eq 26, 3, (0, 0, 0))]
theorem K249_9 : zRk 249 B249_9 = true := zRw_ok (by decide +kernel)
noncomputable def B249_10 : List zRow := [(6, .iload_n 3, 1, (0, 0, 0)), (7, .aload_n 0, 1, (0, 0, 0)), (8, .getfield 13, 3, (12, 14, 5251442)), (11, .iconst 3, 1, (0, 0, 0)), (12, .iaload, 1, (0, 0, 0)), (13, .if_icmp .ge 40, 3, (0, 0, 0))]
theorem K249_10 : zRk 249 B249_10 = true := zRw_ok (by decide +kernel)
noncomputable def B249_11 : List zRow := [(47, .iinc 3 1, 3, (0, 0, 0)), (50, .goto (-44), 3, (0, 0, 0))]
theorem K249_11 : zRk 249 B249_11 = true := zRw_ok (by decide +kernel)
noncomputable def B249_12 : List zRow := [(93, .aload_n 0, 1, (0, 0, 0))]
theorem K249_12 : zRk 249 B249_12 = true := zRw_ok (by decide +kernel)
noncomputable def B249_13 : List zRow := [(71, .aload_n 0, 1, (0, 0, 0)), (72, .getfield 42, 3, (12, 25, 5244418)), (75, .bipush 6, 2, (0, 0, 0)), (77, .iload_n 1, 1, (0, 0, 0))]
theorem K249_13 : zRk 249 B249_13 = true := zRw_ok (by decide +kernel)
noncomputable def B249_14 : List zRow := [(78, .imul, 1, (0, 0, 0)), (79, .iload_n 3, 1, (0, 0, 0)), (80, .iadd, 1, (0, 0, 0)), (81, .aload_n 0, 1, (0, 0, 0)), (82, .iload_n 3, 1, (0, 0, 0))]
theorem K249_14 : zRk 249 B249_14 = true := zRw_ok (by decide +kernel)
noncomputable def B249_15 : List zRow := [(86, .iastore, 1, (0, 0, 0)), (87, .iinc 3 1, 3, (0, 0, 0)), (90, .goto (-29), 3, (0, 0, 0))]
theorem K249_15 : zRk 249 B249_15 = true := zRw_ok (by decide +kernel)
noncomputable def B249_16 : List zRow := [(61, .iload_n 3, 1, (0, 0, 0)), (62, .aload_n 0, 1, (0, 0, 0)), (63, .getfield 13, 3, (12, 14, 5251442)), (66, .iconst 3, 1, (0, 0, 0)), (67, .iaload, 1, (0, 0, 0)), (68, .if_icmp .ge 25, 3, (0, 0, 0))]
theorem K249_16 : zRk 249 B249_16 = true := zRw_ok (by decide +kernel)
def F249_1 : Nat → Int → Int → zHM → Option zHM
  | 0, _, _, _ => none
  | n + 1, v1, v3, h => if (h 14 3) ≤ v3 then (F245 h).bind fun r1 => some r1 else (F211 v3 h).bind fun r2 => zG (0 ≤ (wadd (wmul 6 v1) v3) ∧ (wadd (wmul 6 v1) v3) < 384) ((F249_1 n) v1 (wadd v3 1) (mset h 25 (wadd (wmul 6 v1) v3) r2))
set_option maxRecDepth 100000 in
theorem T249_1 {spec : zRn zH2} {hc : zHC} {o : Int → Int} {d : Nat} (hd : 6 ≤ d) : ∀ (n : Nat) (v1 : Int) (v3 : Int) (h : zHM) (v : zHM), F249_1 n v1 v3 h = some v → zFin 0 (fun _ => 0) (zRu2 spec d) 249 none (hc, v, o) (61, [some (22, 0), some (0, v1), none, some (0, v3)], [], (hc, h, o)) := by
  intro n
  induction n with
  | zero => intro v1 v3 h v e; unfold F249_1 at e; cases e
  | succ n hk0 =>
    intro v1 v3 h v e
    unfold F249_1 at e
    rcases zI_s e with ⟨q1, e⟩ | ⟨q1, e⟩
    · refine zF_blk (m := []) (d := 1) (b := B249_16) (gs := [0 ≤ 3 ∧ 3 < 2140, (h 14 3) ≤ v3]) (c' := (93, [some (22, 0), some (0, v1), none, some (0, v3)], [], (hc, h, o))) K249_16 rfl ⟨by decide, q1, trivial⟩ ?_
      obtain ⟨r1, q2, e⟩ := zB_s e
      refine zF_blk (m := []) (d := 0) (b := B249_12) (gs := []) (c' := (94, [some (22, 0), some (0, v1), none, some (0, v3)], [(22, 0)], (hc, h, o))) K249_12 rfl trivial ?_
      refine zF_call (k := 245) (cl := 12) (n := 1) (i := .invokevirtual 320) (args := [(22, 0)]) (rest := []) (g1 := (hc, r1, o)) (r1 := none) (zCk1_w (by decide +kernel)) rfl rfl rfl (st' := []) rfl (S245 (Nat.le_trans (by decide) hd)  h _ q2) ?_
      obtain rfl := Option.some.inj e
      exact zF_rv (zRe1_w (by decide +kernel))
    · refine zF_blk (m := []) (d := 0) (b := B249_16) (gs := [0 ≤ 3 ∧ 3 < 2140, ¬ ((h 14 3) ≤ v3)]) (c' := (71, [some (22, 0), some (0, v1), none, some (0, v3)], [], (hc, h, o))) K249_16 rfl ⟨by decide, q1, trivial⟩ ?_
      refine zF_blk (m := []) (d := 0) (b := B249_13) (gs := []) (c' := (78, [some (22, 0), some (0, v1), none, some (0, v3)], [(0, v1), (0, 6), (1342572289, 0)], (hc, h, o))) K249_13 rfl trivial ?_
      obtain ⟨r2, q3, e⟩ := zB_s e
      refine zF_blk (m := []) (d := 0) (b := B249_14) (gs := []) (c' := (83, [some (22, 0), some (0, v1), none, some (0, v3)], [(0, v3), (22, 0), (0, (wadd (wmul 6 v1) v3)), (1342572289, 0)], (hc, h, o))) K249_14 rfl trivial ?_
      refine zF_call (k := 211) (cl := 12) (n := 2) (i := .invokevirtual 263) (args := [(22, 0), (0, v3)]) (rest := [(0, (wadd (wmul 6 v1) v3)), (1342572289, 0)]) (g1 := (hc, h, o)) (r1 := some (0, r2)) (zCk1_w (by decide +kernel)) rfl rfl rfl (st' := [(0, r2), (0, (wadd (wmul 6 v1) v3)), (1342572289, 0)]) rfl (S211 (Nat.le_trans (by decide) hd) v3 h _ q3) ?_
      obtain ⟨q4, e⟩ := zG_s e
      refine zF_blk (m := []) (d := 0) (b := B249_15) (gs := [0 ≤ (wadd (wmul 6 v1) v3) ∧ (wadd (wmul 6 v1) v3) < 384]) (c' := (61, [some (22, 0), some (0, v1), none, some (0, (wadd v3 1))], [], (hc, (mset h 25 (wadd (wmul 6 v1) v3) r2), o))) K249_15 rfl ⟨q4, trivial⟩ ?_
      exact hk0 v1 (wadd v3 1) (mset h 25 (wadd (wmul 6 v1) v3) r2) _ e
def F249_2 (k0 : Int → Int → Int → zHM → Option zHM) (v1 : Int) (v2 : Int) (v3 : Int) (h : zHM) : Option zHM := k0 v1 v2 (wadd v3 1) h
set_option maxRecDepth 100000 in
theorem T249_2 {spec : zRn zH2} {hc : zHC} {o : Int → Int} {d : Nat} (hd : 6 ≤ d) (k0 : Int → Int → Int → zHM → Option zHM) (hk0 : ∀ (v1 : Int) (v2 : Int) (v3 : Int) (h : zHM) (v : zHM), k0 v1 v2 v3 h = some v → zFin 0 (fun _ => 0) (zRu2 spec d) 249 none (hc, v, o) (6, [some (22, 0), some (0, v1), some (0, v2), some (0, v3)], [], (hc, h, o))) (v1 : Int) (v2 : Int) (v3 : Int) (h : zHM) (v : zHM) (e : F249_2 k0 v1 v2 v3 h = some v) : zFin 0 (fun _ => 0) (zRu2 spec d) 249 none (hc, v, o) (47, [some (22, 0), some (0, v1), some (0, v2), some (0, v3)], [], (hc, h, o)) := by
  unfold F249_2 at e
  refine zF_blk (m := []) (d := 0) (b := B249_11) (gs := []) (c' := (6, [some (22, 0), some (0, v1), some (0, v2), some (0, (wadd v3 1))], [], (hc, h, o))) K249_11 rfl trivial ?_
  exact hk0 v1 v2 (wadd v3 1) h _ e
def F249_0 : Nat → Int → Int → Int → zHM → Option zHM
  | 0, _, _, _, _ => none
  | n + 1, v1, v2, v3, h => if (h 14 3) ≤ v3 then (F235 v2 h).bind fun r1 => F249_1 zFu v1 0 r1.2 else (F214 v1 v3).bind fun r2 => if r2 = 0 then F249_2 (F249_0 n) v1 v2 v3 h else zG (0 ≤ (wadd (wadd 25 (wmul 2 v3)) 1) ∧ (wadd (wadd 25 (wmul 2 v3)) 1) < 2140) (zG (0 ≤ (wadd 210 v3) ∧ (wadd 210 v3) < 2140) (F249_2 (F249_0 n) v1 v2 v3 (mset h 14 (wadd 210 v3) (h 14 (wadd (wadd 25 (wmul 2 v3)) 1)))))
set_option maxRecDepth 100000 in
theorem T249_0 {spec : zRn zH2} {hc : zHC} {o : Int → Int} {d : Nat} (hd : 6 ≤ d) : ∀ (n : Nat) (v1 : Int) (v2 : Int) (v3 : Int) (h : zHM) (v : zHM), F249_0 n v1 v2 v3 h = some v → zFin 0 (fun _ => 0) (zRu2 spec d) 249 none (hc, v, o) (6, [some (22, 0), some (0, v1), some (0, v2), some (0, v3)], [], (hc, h, o)) := by
  intro n
  induction n with
  | zero => intro v1 v2 v3 h v e; unfold F249_0 at e; cases e
  | succ n hk0 =>
    intro v1 v2 v3 h v e
    unfold F249_0 at e
    rcases zI_s e with ⟨q1, e⟩ | ⟨q1, e⟩
    · refine zF_blk (m := []) (d := 1) (b := B249_10) (gs := [0 ≤ 3 ∧ 3 < 2140, (h 14 3) ≤ v3]) (c' := (53, [some (22, 0), some (0, v1), some (0, v2), some (0, v3)], [], (hc, h, o))) K249_10 rfl ⟨by decide, q1, trivial⟩ ?_
      obtain ⟨r1, q2, e⟩ := zB_s e
      refine zF_blk (m := []) (d := 0) (b := B249_2) (gs := []) (c' := (55, [some (22, 0), some (0, v1), some (0, v2), some (0, v3)], [(0, v2), (22, 0)], (hc, h, o))) K249_2 rfl trivial ?_
      refine zF_call (k := 235) (cl := 12) (n := 2) (i := .invokevirtual 314) (args := [(22, 0), (0, v2)]) (rest := []) (g1 := (hc, r1.2, o)) (r1 := some (0, r1.1)) (zCk1_w (by decide +kernel)) rfl rfl rfl (st' := [(0, r1.1)]) rfl (S235 (Nat.le_trans (by decide) hd) v2 h _ q2) ?_
      refine zF_blk (m := []) (d := 0) (b := B249_3) (gs := []) (c' := (61, [some (22, 0), some (0, v1), some (0, v2), some (0, 0)], [], (hc, r1.2, o))) K249_3 rfl trivial ?_
      refine zF_blk (m := [true, true, false, true]) (d := 0) (b := []) (gs := []) (c' := (61, [some (22, 0), some (0, v1), none, some (0, 0)], [], (hc, r1.2, o))) rfl rfl trivial ?_
      exact T249_1 hd zFu v1 0 r1.2 _ e
    · refine zF_blk (m := []) (d := 0) (b := B249_10) (gs := [0 ≤ 3 ∧ 3 < 2140, ¬ ((h 14 3) ≤ v3)]) (c' := (16, [some (22, 0), some (0, v1), some (0, v2), some (0, v3)], [], (hc, h, o))) K249_10 rfl ⟨by decide, q1, trivial⟩ ?_
      obtain ⟨r2, q3, e⟩ := zB_s e
      refine zF_blk (m := []) (d := 0) (b := B249_4) (gs := []) (c' := (18, [some (22, 0), some (0, v1), some (0, v2), some (0, v3)], [(0, v3), (0, v1)], (hc, h, o))) K249_4 rfl trivial ?_
      refine zF_call (k := 214) (cl := 12) (n := 2) (i := .invokestatic 251) (args := [(0, v1), (0, v3)]) (rest := []) (g1 := (hc, h, o)) (r1 := some (0, r2)) (zCk1_w (by decide +kernel)) rfl rfl rfl (st' := [(0, r2)]) rfl (S214 (Nat.le_trans (by decide) hd) v1 v3 h _ q3) ?_
      rcases zI_s e with ⟨q4, e⟩ | ⟨q4, e⟩
      · refine zF_blk (m := []) (d := 1) (b := B249_9) (gs := [r2 = 0]) (c' := (47, [some (22, 0), some (0, v1), some (0, v2), some (0, v3)], [], (hc, h, o))) K249_9 rfl ⟨q4, trivial⟩ ?_
        exact T249_2 hd (F249_0 n) hk0 v1 v2 v3 h _ e
      · refine zF_blk (m := []) (d := 0) (b := B249_9) (gs := [¬ (r2 = 0)]) (c' := (24, [some (22, 0), some (0, v1), some (0, v2), some (0, v3)], [], (hc, h, o))) K249_9 rfl ⟨q4, trivial⟩ ?_
        obtain ⟨q5, e⟩ := zG_s e
        obtain ⟨q6, e⟩ := zG_s e
        refine zF_blk (m := []) (d := 0) (b := B249_5) (gs := []) (c' := (32, [some (22, 0), some (0, v1), some (0, v2), some (0, v3)], [(0, v3), (0, 210), (1344370422, 0)], (hc, h, o))) K249_5 rfl trivial ?_
        refine zF_blk (m := []) (d := 0) (b := B249_6) (gs := []) (c' := (41, [some (22, 0), some (0, v1), some (0, v2), some (0, v3)], [(0, v3), (0, 2), (0, 25), (1344370422, 0), (0, (wadd 210 v3)), (1344370422, 0)], (hc, h, o))) K249_6 rfl trivial ?_
        refine zF_blk (m := []) (d := 0) (b := B249_7) (gs := []) (c' := (42, [some (22, 0), some (0, v1), some (0, v2), some (0, v3)], [(0, (wmul 2 v3)), (0, 25), (1344370422, 0), (0, (wadd 210 v3)), (1344370422, 0)], (hc, h, o))) K249_7 rfl trivial ?_
        refine zF_blk (m := []) (d := 0) (b := B249_8) (gs := [0 ≤ (wadd (wadd 25 (wmul 2 v3)) 1) ∧ (wadd (wadd 25 (wmul 2 v3)) 1) < 2140, 0 ≤ (wadd 210 v3) ∧ (wadd 210 v3) < 2140]) (c' := (47, [some (22, 0), some (0, v1), some (0, v2), some (0, v3)], [], (hc, (mset h 14 (wadd 210 v3) (h 14 (wadd (wadd 25 (wmul 2 v3)) 1))), o))) K249_8 rfl ⟨q5, q6, trivial⟩ ?_
        exact T249_2 hd (F249_0 n) hk0 v1 v2 v3 (mset h 14 (wadd 210 v3) (h 14 (wadd (wadd 25 (wmul 2 v3)) 1))) _ e
/-- EchoValeModel.layHas(II)V -/
def F249 (v1 : Int) (v2 : Int) (h : zHM) : Option zHM := (F244 h).bind fun r1 => F249_0 zFu v1 v2 0 r1
set_option maxRecDepth 100000 in
theorem S249 {spec : zRn zH2} {hc : zHC} {o : Int → Int} {d : Nat} (hd : 7 ≤ d) (v1 : Int) (v2 : Int) (h : zHM) (v : zHM) (e : F249 v1 v2 h = some v) : zRu2 spec d 249 [(22, 0), (0, v1), (0, v2)] (hc, h, o) none (hc, v, o) := by
  refine zF_in (D := 6) (mx := 4) (L := [some (22, 0), some (0, v1), some (0, v2), none]) (by decide +kernel) rfl rfl hd (fun d hd => ?_)
  unfold F249 at e
  obtain ⟨r1, q1, e⟩ := zB_s e
  refine zF_blk (m := []) (d := 0) (b := B249_0) (gs := []) (c' := (1, [some (22, 0), some (0, v1), some (0, v2), none], [(22, 0)], (hc, h, o))) K249_0 rfl trivial ?_
  refine zF_call (k := 244) (cl := 12) (n := 1) (i := .invokevirtual 317) (args := [(22, 0)]) (rest := []) (g1 := (hc, r1, o)) (r1 := none) (zCk1_w (by decide +kernel)) rfl rfl rfl (st' := []) rfl (S244 (Nat.le_trans (by decide) hd)  h _ q1) ?_
  refine zF_blk (m := []) (d := 0) (b := B249_1) (gs := []) (c' := (6, [some (22, 0), some (0, v1), some (0, v2), some (0, 0)], [], (hc, r1, o))) K249_1 rfl trivial ?_
  exact T249_0 hd zFu v1 v2 0 r1 _ e
noncomputable def B247_0 : List zRow := [(0, .aload_n 0, 1, (0, 0, 0)), (1, .iconst 0, 1, (0, 0, 0)), (2, .putfield 81, 3, (12, 0, 0)), (5, .aload_n 0, 1, (0, 0, 0)), (6, .iload_n 1, 1, (0, 0, 0))]
theorem K247_0 : zRk 247 B247_0 = true := zRw_ok (by decide +kernel)
noncomputable def B247_1 : List zRow := [(35, .iconst (-1), 1, (0, 0, 0))]
theorem K247_1 : zRk 247 B247_1 = true := zRw_ok (by decide +kernel)
noncomputable def B247_2 : List zRow := [(17, .iload_n 2, 1, (0, 0, 0)), (18, .aload_n 0, 1, (0, 0, 0))]
theorem K247_2 : zRk 247 B247_2 = true := zRw_ok (by decide +kernel)
noncomputable def B247_3 : List zRow := [(28, .iload_n 3, 1, (0, 0, 0))]
theorem K247_3 : zRk 247 B247_3 = true := zRw_ok (by decide +kernel)
noncomputable def B247_4 : List zRow := [(37, .aload_n 0, 1, (0, 0, 0)), (38, .iload_n 2, 1, (0, 0, 0)), (39, .iload_n 3, 1, (0, 0, 0))]
theorem K247_4 : zRk 247 B247_4 = true := zRw_ok (by decide +kernel)
noncomputable def B247_5 : List zRow := [(43, .aload_n 0, 1, (0, 0, 0)), (44, .getfield 42, 3, (12, 25, 5244418)), (47, .bipush 6, 2, (0, 0, 0)), (49, .iload_n 2, 1, (0, 0, 0))]
theorem K247_5 : zRk 247 B247_5 = true := zRw_ok (by decide +kernel)
noncomputable def B247_6 : List zRow := [(50, .imul, 1, (0, 0, 0)), (51, .iload_n 1, 1, (0, 0, 0)), (52, .iadd, 1, (0, 0, 0)), (53, .iaload, 1, (0, 0, 0))]
theorem K247_6 : zRk 247 B247_6 = true := zRw_ok (by decide +kernel)
noncomputable def B247_7 : List zRow := [(32, .ifCond .ne 5, 3, (0, 0, 0))]
theorem K247_7 : zRk 247 B247_7 = true := zRw_ok (by decide +kernel)
noncomputable def B247_8 : List zRow := [(22, .iconst (-1), 1, (0, 0, 0)), (23, .ixor, 1, (0, 0, 0)), (24, .iand, 1, (0, 0, 0)), (25, .ifCond .ne 10, 3, (0, 0, 0))]
theorem K247_8 : zRk 247 B247_8 = true := zRw_ok (by decide +kernel)
noncomputable def B247_9 : List zRow := [(13, .iload_n 2, 1, (0, 0, 0)), (14, .ifCond .lt 21, 3, (0, 0, 0))]
theorem K247_9 : zRk 247 B247_9 = true := zRw_ok (by decide +kernel)
noncomputable def B247_10 : List zRow := [(10, .ifCond .eq 25, 3, (0, 0, 0))]
theorem K247_10 : zRk 247 B247_10 = true := zRw_ok (by decide +kernel)
/-- EchoValeModel.has(III)I -/
def F247 (v1 : Int) (v2 : Int) (v3 : Int) (h : zHM) : Option (Int × zHM) := (F210 v1 (mset h 0 0 0)).bind fun r1 => if r1 = 0 then some ((-1), (mset h 0 0 0)) else if v2 < 0 then some ((-1), (mset h 0 0 0)) else (F248 (mset h 0 0 0)).bind fun r2 => if ¬ (wand v2 (wxor r2 (-1))) = 0 then some ((-1), (mset h 0 0 0)) else (F242 v3).bind fun r3 => if ¬ r3 = 0 then (F249 v2 v3 (mset h 0 0 0)).bind fun r4 => zG (0 ≤ (wadd (wmul 6 v2) v1) ∧ (wadd (wmul 6 v2) v1) < 384) (some ((r4 25 (wadd (wmul 6 v2) v1)), r4)) else some ((-1), (mset h 0 0 0))
set_option maxRecDepth 100000 in
theorem S247 {spec : zRn zH2} {hc : zHC} {o : Int → Int} {d : Nat} (hd : 8 ≤ d) (v1 : Int) (v2 : Int) (v3 : Int) (h : zHM) (v : (Int × zHM)) (e : F247 v1 v2 v3 h = some v) : zRu2 spec d 247 [(22, 0), (0, v1), (0, v2), (0, v3)] (hc, h, o) (some (0, v.1)) (hc, v.2, o) := by
  refine zF_in (D := 7) (mx := 4) (L := [some (22, 0), some (0, v1), some (0, v2), some (0, v3)]) (by decide +kernel) rfl rfl hd (fun d hd => ?_)
  unfold F247 at e
  obtain ⟨r1, q1, e⟩ := zB_s e
  refine zF_blk (m := []) (d := 0) (b := B247_0) (gs := []) (c' := (7, [some (22, 0), some (0, v1), some (0, v2), some (0, v3)], [(0, v1), (22, 0)], (hc, (mset h 0 0 0), o))) K247_0 rfl trivial ?_
  refine zF_call (k := 210) (cl := 12) (n := 2) (i := .invokevirtual 260) (args := [(22, 0), (0, v1)]) (rest := []) (g1 := (hc, (mset h 0 0 0), o)) (r1 := some (0, r1)) (zCk1_w (by decide +kernel)) rfl rfl rfl (st' := [(0, r1)]) rfl (S210 (Nat.le_trans (by decide) hd) v1 (mset h 0 0 0) _ q1) ?_
  rcases zI_s e with ⟨q2, e⟩ | ⟨q2, e⟩
  · refine zF_blk (m := []) (d := 1) (b := B247_10) (gs := [r1 = 0]) (c' := (35, [some (22, 0), some (0, v1), some (0, v2), some (0, v3)], [], (hc, (mset h 0 0 0), o))) K247_10 rfl ⟨q2, trivial⟩ ?_
    refine zF_blk (m := []) (d := 0) (b := B247_1) (gs := []) (c' := (36, [some (22, 0), some (0, v1), some (0, v2), some (0, v3)], [(0, (-1))], (hc, (mset h 0 0 0), o))) K247_1 rfl trivial ?_
    exact zF_riM (zRe1_w (by decide +kernel)) e
  · refine zF_blk (m := []) (d := 0) (b := B247_10) (gs := [¬ (r1 = 0)]) (c' := (13, [some (22, 0), some (0, v1), some (0, v2), some (0, v3)], [], (hc, (mset h 0 0 0), o))) K247_10 rfl ⟨q2, trivial⟩ ?_
    rcases zI_s e with ⟨q3, e⟩ | ⟨q3, e⟩
    · refine zF_blk (m := []) (d := 1) (b := B247_9) (gs := [v2 < 0]) (c' := (35, [some (22, 0), some (0, v1), some (0, v2), some (0, v3)], [], (hc, (mset h 0 0 0), o))) K247_9 rfl ⟨q3, trivial⟩ ?_
      refine zF_blk (m := []) (d := 0) (b := B247_1) (gs := []) (c' := (36, [some (22, 0), some (0, v1), some (0, v2), some (0, v3)], [(0, (-1))], (hc, (mset h 0 0 0), o))) K247_1 rfl trivial ?_
      exact zF_riM (zRe1_w (by decide +kernel)) e
    · refine zF_blk (m := []) (d := 0) (b := B247_9) (gs := [¬ (v2 < 0)]) (c' := (17, [some (22, 0), some (0, v1), some (0, v2), some (0, v3)], [], (hc, (mset h 0 0 0), o))) K247_9 rfl ⟨q3, trivial⟩ ?_
      obtain ⟨r2, q4, e⟩ := zB_s e
      refine zF_blk (m := []) (d := 0) (b := B247_2) (gs := []) (c' := (19, [some (22, 0), some (0, v1), some (0, v2), some (0, v3)], [(22, 0), (0, v2)], (hc, (mset h 0 0 0), o))) K247_2 rfl trivial ?_
      refine zF_call (k := 248) (cl := 12) (n := 1) (i := .invokevirtual 329) (args := [(22, 0)]) (rest := [(0, v2)]) (g1 := (hc, (mset h 0 0 0), o)) (r1 := some (0, r2)) (zCk1_w (by decide +kernel)) rfl rfl rfl (st' := [(0, r2), (0, v2)]) rfl (S248 (Nat.le_trans (by decide) hd)  (mset h 0 0 0) _ q4) ?_
      rcases zI_s e with ⟨q5, e⟩ | ⟨q5, e⟩
      · refine zF_blk (m := []) (d := 1) (b := B247_8) (gs := [¬ (wand v2 (wxor r2 (-1))) = 0]) (c' := (35, [some (22, 0), some (0, v1), some (0, v2), some (0, v3)], [], (hc, (mset h 0 0 0), o))) K247_8 rfl ⟨q5, trivial⟩ ?_
        refine zF_blk (m := []) (d := 0) (b := B247_1) (gs := []) (c' := (36, [some (22, 0), some (0, v1), some (0, v2), some (0, v3)], [(0, (-1))], (hc, (mset h 0 0 0), o))) K247_1 rfl trivial ?_
        exact zF_riM (zRe1_w (by decide +kernel)) e
      · refine zF_blk (m := []) (d := 0) (b := B247_8) (gs := [¬ (¬ (wand v2 (wxor r2 (-1))) = 0)]) (c' := (28, [some (22, 0), some (0, v1), some (0, v2), some (0, v3)], [], (hc, (mset h 0 0 0), o))) K247_8 rfl ⟨q5, trivial⟩ ?_
        obtain ⟨r3, q6, e⟩ := zB_s e
        refine zF_blk (m := []) (d := 0) (b := B247_3) (gs := []) (c' := (29, [some (22, 0), some (0, v1), some (0, v2), some (0, v3)], [(0, v3)], (hc, (mset h 0 0 0), o))) K247_3 rfl trivial ?_
        refine zF_call (k := 242) (cl := 12) (n := 1) (i := .invokestatic 323) (args := [(0, v3)]) (rest := []) (g1 := (hc, (mset h 0 0 0), o)) (r1 := some (0, r3)) (zCk1_w (by decide +kernel)) rfl rfl rfl (st' := [(0, r3)]) rfl (S242 (Nat.le_trans (by decide) hd) v3 (mset h 0 0 0) _ q6) ?_
        rcases zI_s e with ⟨q7, e⟩ | ⟨q7, e⟩
        · refine zF_blk (m := []) (d := 1) (b := B247_7) (gs := [¬ r3 = 0]) (c' := (37, [some (22, 0), some (0, v1), some (0, v2), some (0, v3)], [], (hc, (mset h 0 0 0), o))) K247_7 rfl ⟨q7, trivial⟩ ?_
          obtain ⟨r4, q8, e⟩ := zB_s e
          refine zF_blk (m := []) (d := 0) (b := B247_4) (gs := []) (c' := (40, [some (22, 0), some (0, v1), some (0, v2), some (0, v3)], [(0, v3), (0, v2), (22, 0)], (hc, (mset h 0 0 0), o))) K247_4 rfl trivial ?_
          refine zF_call (k := 249) (cl := 12) (n := 3) (i := .invokevirtual 332) (args := [(22, 0), (0, v2), (0, v3)]) (rest := []) (g1 := (hc, r4, o)) (r1 := none) (zCk1_w (by decide +kernel)) rfl rfl rfl (st' := []) rfl (S249 (Nat.le_trans (by decide) hd) v2 v3 (mset h 0 0 0) _ q8) ?_
          obtain ⟨q9, e⟩ := zG_s e
          refine zF_blk (m := []) (d := 0) (b := B247_5) (gs := []) (c' := (50, [some (22, 0), some (0, v1), some (0, v2), some (0, v3)], [(0, v2), (0, 6), (1342572289, 0)], (hc, r4, o))) K247_5 rfl trivial ?_
          refine zF_blk (m := []) (d := 0) (b := B247_6) (gs := [0 ≤ (wadd (wmul 6 v2) v1) ∧ (wadd (wmul 6 v2) v1) < 384]) (c' := (54, [some (22, 0), some (0, v1), some (0, v2), some (0, v3)], [(0, (r4 25 (wadd (wmul 6 v2) v1)))], (hc, r4, o))) K247_6 rfl ⟨q9, trivial⟩ ?_
          exact zF_riM (zRe1_w (by decide +kernel)) e
        · refine zF_blk (m := []) (d := 0) (b := B247_7) (gs := [¬ (¬ r3 = 0)]) (c' := (35, [some (22, 0), some (0, v1), some (0, v2), some (0, v3)], [], (hc, (mset h 0 0 0), o))) K247_7 rfl ⟨q7, trivial⟩ ?_
          refine zF_blk (m := []) (d := 0) (b := B247_1) (gs := []) (c' := (36, [some (22, 0), some (0, v1), some (0, v2), some (0, v3)], [(0, (-1))], (hc, (mset h 0 0 0), o))) K247_1 rfl trivial ?_
          exact zF_riM (zRe1_w (by decide +kernel)) e
