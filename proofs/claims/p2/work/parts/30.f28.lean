/-! Functions of the methods, by wip/gen/lift.py. -/
def B236_0 : List zRow := [(0, .aload_n 0, 1, (0, 0, 0)), (1, .getfield 13, 3, (12, 14, 5251442)), (4, .sipush 209, 3, (0, 0, 0)), (7, .dup2, 1, (0, 0, 0)), (8, .iaload, 1, (0, 0, 0)), (9, .iconst 1, 1, (0, 0, 0)), (10, .iadd, 1, (0, 0, 0)), (11, .iastore, 1, (0, 0, 0)), (12, .aload_n 0, 1, (0, 0, 0)), (13, .aload_n 0, 1, (0, 0, 0)), (14, .getfield 13, 3, (12, 14, 5251442)), (17, .sipush 209, 3, (0, 0, 0)), (20, .iaload, 1, (0, 0, 0))]
theorem K236_0 : zRk 236 B236_0 = true := by decide +kernel
def B236_1 : List zRow := [(24, .aload_n 0, 1, (0, 0, 0)), (25, .aload_n 0, 1, (0, 0, 0)), (26, .getfield 13, 3, (12, 14, 5251442)), (29, .sipush 209, 3, (0, 0, 0)), (32, .iaload, 1, (0, 0, 0))]
theorem K236_1 : zRk 236 B236_1 = true := by decide +kernel
def B236_2 : List zRow := [(36, .iload_n 1, 1, (0, 0, 0)), (37, .iadd, 1, (0, 0, 0)), (38, .istore_n 2, 1, (0, 0, 0)), (39, .iconst 0, 1, (0, 0, 0)), (40, .istore_n 3, 1, (0, 0, 0))]
theorem K236_2 : zRk 236 B236_2 = true := by decide +kernel
def B236_3 : List zRow := [(53, .iconst 0, 1, (0, 0, 0)), (54, .istore 4, 2, (0, 0, 0))]
theorem K236_3 : zRk 236 B236_3 = true := by decide +kernel
def B236_4 : List zRow := [(41, .iload_n 3, 1, (0, 0, 0)), (42, .aload_n 0, 1, (0, 0, 0)), (43, .getfield 13, 3, (12, 14, 5251442)), (46, .sipush 216, 3, (0, 0, 0)), (49, .iaload, 1, (0, 0, 0)), (50, .if_icmp .ge 123, 3, (0, 0, 0))]
theorem K236_4 : zRk 236 B236_4 = true := by decide +kernel
def B236_5 : List zRow := [(167, .iinc 3 1, 3, (0, 0, 0)), (170, .goto (-129), 3, (0, 0, 0))]
theorem K236_5 : zRk 236 B236_5 = true := by decide +kernel
def B236_6 : List zRow := [(67, .sipush 457, 3, (0, 0, 0)), (70, .bipush 18, 2, (0, 0, 0)), (72, .iload_n 3, 1, (0, 0, 0))]
theorem K236_6 : zRk 236 B236_6 = true := by decide +kernel
def B236_7 : List zRow := [(73, .imul, 1, (0, 0, 0))]
theorem K236_7 : zRk 236 B236_7 = true := by decide +kernel
def B236_8 : List zRow := [(74, .iadd, 1, (0, 0, 0)), (75, .iconst 3, 1, (0, 0, 0)), (76, .iload 4, 2, (0, 0, 0))]
theorem K236_8 : zRk 236 B236_8 = true := by decide +kernel
def B236_9 : List zRow := [(115, .aload_n 0, 1, (0, 0, 0)), (116, .getfield 13, 3, (12, 14, 5251442)), (119, .iload 5, 2, (0, 0, 0)), (121, .iconst 2, 1, (0, 0, 0)), (122, .iadd, 1, (0, 0, 0)), (123, .iconst 1, 1, (0, 0, 0)), (124, .iastore, 1, (0, 0, 0)), (125, .aload_n 0, 1, (0, 0, 0)), (126, .getfield 13, 3, (12, 14, 5251442)), (129, .iload 5, 2, (0, 0, 0)), (131, .iconst 1, 1, (0, 0, 0)), (132, .iadd, 1, (0, 0, 0)), (133, .iaload, 1, (0, 0, 0)), (134, .aload_n 0, 1, (0, 0, 0)), (135, .iload 4, 2, (0, 0, 0))]
theorem K236_9 : zRk 236 B236_9 = true := by decide +kernel
def B236_10 : List zRow := [(140, .iload_n 2, 1, (0, 0, 0)), (141, .isub, 1, (0, 0, 0))]
theorem K236_10 : zRk 236 B236_10 = true := by decide +kernel
def B236_11 : List zRow := [(152, .aload_n 0, 1, (0, 0, 0)), (153, .iload_n 3, 1, (0, 0, 0)), (154, .iload 4, 2, (0, 0, 0)), (156, .iload 6, 2, (0, 0, 0))]
theorem K236_11 : zRk 236 B236_11 = true := by decide +kernel
def B236_12 : List zRow := [(145, .istore 6, 2, (0, 0, 0)), (147, .iload 6, 2, (0, 0, 0)), (149, .ifCond .le 12, 3, (0, 0, 0))]
theorem K236_12 : zRk 236 B236_12 = true := by decide +kernel
def B236_13 : List zRow := [(112, .goto 49, 3, (0, 0, 0))]
theorem K236_13 : zRk 236 B236_13 = true := by decide +kernel
def B236_14 : List zRow := [(100, .aload_n 0, 1, (0, 0, 0)), (101, .getfield 13, 3, (12, 14, 5251442)), (104, .iload 5, 2, (0, 0, 0)), (106, .iconst 2, 1, (0, 0, 0)), (107, .iadd, 1, (0, 0, 0)), (108, .iaload, 1, (0, 0, 0)), (109, .ifCond .le 6, 3, (0, 0, 0))]
theorem K236_14 : zRk 236 B236_14 = true := by decide +kernel
def B236_15 : List zRow := [(78, .imul, 1, (0, 0, 0)), (79, .iadd, 1, (0, 0, 0)), (80, .istore 5, 2, (0, 0, 0)), (82, .aload_n 0, 1, (0, 0, 0)), (83, .getfield 13, 3, (12, 14, 5251442)), (86, .iload 5, 2, (0, 0, 0)), (88, .iaload, 1, (0, 0, 0)), (89, .aload_n 0, 1, (0, 0, 0)), (90, .getfield 13, 3, (12, 14, 5251442)), (93, .sipush 209, 3, (0, 0, 0)), (96, .iaload, 1, (0, 0, 0)), (97, .if_icmp .ne 64, 3, (0, 0, 0))]
theorem K236_15 : zRk 236 B236_15 = true := by decide +kernel
def B236_16 : List zRow := [(56, .iload 4, 2, (0, 0, 0)), (58, .aload_n 0, 1, (0, 0, 0)), (59, .getfield 13, 3, (12, 14, 5251442)), (62, .iconst 2, 1, (0, 0, 0)), (63, .iaload, 1, (0, 0, 0)), (64, .if_icmp .ge 103, 3, (0, 0, 0))]
theorem K236_16 : zRk 236 B236_16 = true := by decide +kernel
def B236_17 : List zRow := [(161, .iinc 4 1, 3, (0, 0, 0)), (164, .goto (-108), 3, (0, 0, 0))]
theorem K236_17 : zRk 236 B236_17 = true := by decide +kernel
def F236_2 (k0 : Int → Int → zHM → Option zHM) (k1 : Int → Int → Int → zHM → Option zHM) (v2 : Int) (v3 : Int) (v4 : Int) (h : zHM) : Option zHM := k1 v2 v3 (wadd v4 1) h
set_option maxRecDepth 100000 in
theorem T236_2 {spec : zRn zH2} {hc : zHC} {o : Int → Int} {d : Nat} (hd : 4 ≤ d) (k0 : Int → Int → zHM → Option zHM) (hk0 : ∀ (v2 : Int) (v3 : Int) (h : zHM) (v : zHM), k0 v2 v3 h = some v → zFin 0 (fun _ => 0) (zRu2 spec d) 236 none (hc, v, o) (41, [some (22, 0), none, some (0, v2), some (0, v3), none, none, none], [], (hc, h, o))) (k1 : Int → Int → Int → zHM → Option zHM) (hk1 : ∀ (v2 : Int) (v3 : Int) (v4 : Int) (h : zHM) (v : zHM), k1 v2 v3 v4 h = some v → zFin 0 (fun _ => 0) (zRu2 spec d) 236 none (hc, v, o) (56, [some (22, 0), none, some (0, v2), some (0, v3), some (0, v4), none, none], [], (hc, h, o))) (v2 : Int) (v3 : Int) (v4 : Int) (h : zHM) (v : zHM) (e : F236_2 k0 k1 v2 v3 v4 h = some v) : zFin 0 (fun _ => 0) (zRu2 spec d) 236 none (hc, v, o) (161, [some (22, 0), none, some (0, v2), some (0, v3), some (0, v4), none, none], [], (hc, h, o)) := by
  unfold F236_2 at e
  refine zF_blk (m := []) (d := 0) (b := B236_17) (gs := []) (c' := (56, [some (22, 0), none, some (0, v2), some (0, v3), some (0, (wadd v4 1)), none, none], [], (hc, h, o))) K236_17 rfl trivial ?_
  exact hk1 v2 v3 (wadd v4 1) h _ e
def F236_1 (k0 : Int → Int → zHM → Option zHM) : Nat → Int → Int → Int → zHM → Option zHM
  | 0, _, _, _, _ => none
  | n + 1, v2, v3, v4, h => if (h 14 2) ≤ v4 then k0 v2 (wadd v3 1) h else zG (0 ≤ (wadd (wadd 457 (wmul 18 v3)) (wmul 3 v4)) ∧ (wadd (wadd 457 (wmul 18 v3)) (wmul 3 v4)) < 2140) (if ¬ (h 14 (wadd (wadd 457 (wmul 18 v3)) (wmul 3 v4))) = (h 14 209) then F236_2 k0 (F236_1 k0 n) v2 v3 v4 h else zG (0 ≤ (wadd (wadd (wadd 457 (wmul 18 v3)) (wmul 3 v4)) 2) ∧ (wadd (wadd (wadd 457 (wmul 18 v3)) (wmul 3 v4)) 2) < 2140) (if (h 14 (wadd (wadd (wadd 457 (wmul 18 v3)) (wmul 3 v4)) 2)) ≤ 0 then zG (0 ≤ (wadd (wadd (wadd 457 (wmul 18 v3)) (wmul 3 v4)) 2) ∧ (wadd (wadd (wadd 457 (wmul 18 v3)) (wmul 3 v4)) 2) < 2140) (zG (0 ≤ (wadd (wadd (wadd 457 (wmul 18 v3)) (wmul 3 v4)) 1) ∧ (wadd (wadd (wadd 457 (wmul 18 v3)) (wmul 3 v4)) 1) < 2140) ((F207 v4 (mset h 14 (wadd (wadd (wadd 457 (wmul 18 v3)) (wmul 3 v4)) 2) 1)).bind fun r1 => (F238 ((mset h 14 (wadd (wadd (wadd 457 (wmul 18 v3)) (wmul 3 v4)) 2) 1) 14 (wadd (wadd (wadd 457 (wmul 18 v3)) (wmul 3 v4)) 1)) (wsub r1 v2)).bind fun r2 => if r2 ≤ 0 then F236_2 k0 (F236_1 k0 n) v2 v3 v4 (mset h 14 (wadd (wadd (wadd 457 (wmul 18 v3)) (wmul 3 v4)) 2) 1) else (F239 v3 v4 r2 (mset h 14 (wadd (wadd (wadd 457 (wmul 18 v3)) (wmul 3 v4)) 2) 1)).bind fun r3 => F236_2 k0 (F236_1 k0 n) v2 v3 v4 r3)) else F236_2 k0 (F236_1 k0 n) v2 v3 v4 h))
set_option maxRecDepth 100000 in
theorem T236_1 {spec : zRn zH2} {hc : zHC} {o : Int → Int} {d : Nat} (hd : 4 ≤ d) (k0 : Int → Int → zHM → Option zHM) (hk0 : ∀ (v2 : Int) (v3 : Int) (h : zHM) (v : zHM), k0 v2 v3 h = some v → zFin 0 (fun _ => 0) (zRu2 spec d) 236 none (hc, v, o) (41, [some (22, 0), none, some (0, v2), some (0, v3), none, none, none], [], (hc, h, o))) : ∀ (n : Nat) (v2 : Int) (v3 : Int) (v4 : Int) (h : zHM) (v : zHM), F236_1 k0 n v2 v3 v4 h = some v → zFin 0 (fun _ => 0) (zRu2 spec d) 236 none (hc, v, o) (56, [some (22, 0), none, some (0, v2), some (0, v3), some (0, v4), none, none], [], (hc, h, o)) := by
  intro n
  induction n with
  | zero => intro v2 v3 v4 h v e; unfold F236_1 at e; cases e
  | succ n hk1 =>
    intro v2 v3 v4 h v e
    unfold F236_1 at e
    rcases zI_s e with ⟨q1, e⟩ | ⟨q1, e⟩
    · refine zF_blk (m := []) (d := 1) (b := B236_16) (gs := [0 ≤ 2 ∧ 2 < 2140, (h 14 2) ≤ v4]) (c' := (167, [some (22, 0), none, some (0, v2), some (0, v3), some (0, v4), none, none], [], (hc, h, o))) K236_16 rfl ⟨by decide, q1, trivial⟩ ?_
      refine zF_blk (m := []) (d := 0) (b := B236_5) (gs := []) (c' := (41, [some (22, 0), none, some (0, v2), some (0, (wadd v3 1)), some (0, v4), none, none], [], (hc, h, o))) K236_5 rfl trivial ?_
      refine zF_blk (m := [true, false, true, true, false, false, false]) (d := 0) (b := []) (gs := []) (c' := (41, [some (22, 0), none, some (0, v2), some (0, (wadd v3 1)), none, none, none], [], (hc, h, o))) rfl rfl trivial ?_
      exact hk0 v2 (wadd v3 1) h _ e
    · refine zF_blk (m := []) (d := 0) (b := B236_16) (gs := [0 ≤ 2 ∧ 2 < 2140, ¬ ((h 14 2) ≤ v4)]) (c' := (67, [some (22, 0), none, some (0, v2), some (0, v3), some (0, v4), none, none], [], (hc, h, o))) K236_16 rfl ⟨by decide, q1, trivial⟩ ?_
      obtain ⟨q2, e⟩ := zG_s e
      refine zF_blk (m := []) (d := 0) (b := B236_6) (gs := []) (c' := (73, [some (22, 0), none, some (0, v2), some (0, v3), some (0, v4), none, none], [(0, v3), (0, 18), (0, 457)], (hc, h, o))) K236_6 rfl trivial ?_
      refine zF_blk (m := []) (d := 0) (b := B236_7) (gs := []) (c' := (74, [some (22, 0), none, some (0, v2), some (0, v3), some (0, v4), none, none], [(0, (wmul 18 v3)), (0, 457)], (hc, h, o))) K236_7 rfl trivial ?_
      refine zF_blk (m := []) (d := 0) (b := B236_8) (gs := []) (c' := (78, [some (22, 0), none, some (0, v2), some (0, v3), some (0, v4), none, none], [(0, v4), (0, 3), (0, (wadd 457 (wmul 18 v3)))], (hc, h, o))) K236_8 rfl trivial ?_
      rcases zI_s e with ⟨q3, e⟩ | ⟨q3, e⟩
      · refine zF_blk (m := []) (d := 1) (b := B236_15) (gs := [0 ≤ (wadd (wadd 457 (wmul 18 v3)) (wmul 3 v4)) ∧ (wadd (wadd 457 (wmul 18 v3)) (wmul 3 v4)) < 2140, 0 ≤ 209 ∧ 209 < 2140, ¬ (h 14 (wadd (wadd 457 (wmul 18 v3)) (wmul 3 v4))) = (h 14 209)]) (c' := (161, [some (22, 0), none, some (0, v2), some (0, v3), some (0, v4), some (0, (wadd (wadd 457 (wmul 18 v3)) (wmul 3 v4))), none], [], (hc, h, o))) K236_15 rfl ⟨q2, by decide, q3, trivial⟩ ?_
        refine zF_blk (m := [true, false, true, true, true, false, false]) (d := 0) (b := []) (gs := []) (c' := (161, [some (22, 0), none, some (0, v2), some (0, v3), some (0, v4), none, none], [], (hc, h, o))) rfl rfl trivial ?_
        exact T236_2 hd k0 hk0 (F236_1 k0 n) hk1 v2 v3 v4 h _ e
      · refine zF_blk (m := []) (d := 0) (b := B236_15) (gs := [0 ≤ (wadd (wadd 457 (wmul 18 v3)) (wmul 3 v4)) ∧ (wadd (wadd 457 (wmul 18 v3)) (wmul 3 v4)) < 2140, 0 ≤ 209 ∧ 209 < 2140, ¬ (¬ (h 14 (wadd (wadd 457 (wmul 18 v3)) (wmul 3 v4))) = (h 14 209))]) (c' := (100, [some (22, 0), none, some (0, v2), some (0, v3), some (0, v4), some (0, (wadd (wadd 457 (wmul 18 v3)) (wmul 3 v4))), none], [], (hc, h, o))) K236_15 rfl ⟨q2, by decide, q3, trivial⟩ ?_
        obtain ⟨q4, e⟩ := zG_s e
        rcases zI_s e with ⟨q5, e⟩ | ⟨q5, e⟩
        · refine zF_blk (m := []) (d := 1) (b := B236_14) (gs := [0 ≤ (wadd (wadd (wadd 457 (wmul 18 v3)) (wmul 3 v4)) 2) ∧ (wadd (wadd (wadd 457 (wmul 18 v3)) (wmul 3 v4)) 2) < 2140, (h 14 (wadd (wadd (wadd 457 (wmul 18 v3)) (wmul 3 v4)) 2)) ≤ 0]) (c' := (115, [some (22, 0), none, some (0, v2), some (0, v3), some (0, v4), some (0, (wadd (wadd 457 (wmul 18 v3)) (wmul 3 v4))), none], [], (hc, h, o))) K236_14 rfl ⟨q4, q5, trivial⟩ ?_
          obtain ⟨q6, e⟩ := zG_s e
          obtain ⟨q7, e⟩ := zG_s e
          obtain ⟨r1, q8, e⟩ := zB_s e
          refine zF_blk (m := []) (d := 0) (b := B236_9) (gs := [0 ≤ (wadd (wadd (wadd 457 (wmul 18 v3)) (wmul 3 v4)) 2) ∧ (wadd (wadd (wadd 457 (wmul 18 v3)) (wmul 3 v4)) 2) < 2140, 0 ≤ (wadd (wadd (wadd 457 (wmul 18 v3)) (wmul 3 v4)) 1) ∧ (wadd (wadd (wadd 457 (wmul 18 v3)) (wmul 3 v4)) 1) < 2140]) (c' := (137, [some (22, 0), none, some (0, v2), some (0, v3), some (0, v4), some (0, (wadd (wadd 457 (wmul 18 v3)) (wmul 3 v4))), none], [(0, v4), (22, 0), (0, ((mset h 14 (wadd (wadd (wadd 457 (wmul 18 v3)) (wmul 3 v4)) 2) 1) 14 (wadd (wadd (wadd 457 (wmul 18 v3)) (wmul 3 v4)) 1)))], (hc, (mset h 14 (wadd (wadd (wadd 457 (wmul 18 v3)) (wmul 3 v4)) 2) 1), o))) K236_9 rfl ⟨q6, q7, trivial⟩ ?_
          refine zF_call (k := 207) (cl := 12) (n := 2) (i := .invokevirtual 241) (args := [(22, 0), (0, v4)]) (rest := [(0, ((mset h 14 (wadd (wadd (wadd 457 (wmul 18 v3)) (wmul 3 v4)) 2) 1) 14 (wadd (wadd (wadd 457 (wmul 18 v3)) (wmul 3 v4)) 1)))]) (g1 := (hc, (mset h 14 (wadd (wadd (wadd 457 (wmul 18 v3)) (wmul 3 v4)) 2) 1), o)) (r1 := some (0, r1)) (by decide +kernel) rfl rfl rfl (st' := [(0, r1), (0, ((mset h 14 (wadd (wadd (wadd 457 (wmul 18 v3)) (wmul 3 v4)) 2) 1) 14 (wadd (wadd (wadd 457 (wmul 18 v3)) (wmul 3 v4)) 1)))]) rfl (S207 (Nat.le_trans (by decide) hd) v4 (mset h 14 (wadd (wadd (wadd 457 (wmul 18 v3)) (wmul 3 v4)) 2) 1) _ q8) ?_
          obtain ⟨r2, q9, e⟩ := zB_s e
          refine zF_blk (m := []) (d := 0) (b := B236_10) (gs := []) (c' := (142, [some (22, 0), none, some (0, v2), some (0, v3), some (0, v4), some (0, (wadd (wadd 457 (wmul 18 v3)) (wmul 3 v4))), none], [(0, (wsub r1 v2)), (0, ((mset h 14 (wadd (wadd (wadd 457 (wmul 18 v3)) (wmul 3 v4)) 2) 1) 14 (wadd (wadd (wadd 457 (wmul 18 v3)) (wmul 3 v4)) 1)))], (hc, (mset h 14 (wadd (wadd (wadd 457 (wmul 18 v3)) (wmul 3 v4)) 2) 1), o))) K236_10 rfl trivial ?_
          refine zF_call (k := 238) (cl := 12) (n := 2) (i := .invokestatic 295) (args := [(0, ((mset h 14 (wadd (wadd (wadd 457 (wmul 18 v3)) (wmul 3 v4)) 2) 1) 14 (wadd (wadd (wadd 457 (wmul 18 v3)) (wmul 3 v4)) 1))), (0, (wsub r1 v2))]) (rest := []) (g1 := (hc, (mset h 14 (wadd (wadd (wadd 457 (wmul 18 v3)) (wmul 3 v4)) 2) 1), o)) (r1 := some (0, r2)) (by decide +kernel) rfl rfl rfl (st' := [(0, r2)]) rfl (S238 (Nat.le_trans (by decide) hd) ((mset h 14 (wadd (wadd (wadd 457 (wmul 18 v3)) (wmul 3 v4)) 2) 1) 14 (wadd (wadd (wadd 457 (wmul 18 v3)) (wmul 3 v4)) 1)) (wsub r1 v2) (mset h 14 (wadd (wadd (wadd 457 (wmul 18 v3)) (wmul 3 v4)) 2) 1) _ q9) ?_
          rcases zI_s e with ⟨q10, e⟩ | ⟨q10, e⟩
          · refine zF_blk (m := []) (d := 1) (b := B236_12) (gs := [r2 ≤ 0]) (c' := (161, [some (22, 0), none, some (0, v2), some (0, v3), some (0, v4), some (0, (wadd (wadd 457 (wmul 18 v3)) (wmul 3 v4))), some (0, r2)], [], (hc, (mset h 14 (wadd (wadd (wadd 457 (wmul 18 v3)) (wmul 3 v4)) 2) 1), o))) K236_12 rfl ⟨q10, trivial⟩ ?_
            refine zF_blk (m := [true, false, true, true, true, false, false]) (d := 0) (b := []) (gs := []) (c' := (161, [some (22, 0), none, some (0, v2), some (0, v3), some (0, v4), none, none], [], (hc, (mset h 14 (wadd (wadd (wadd 457 (wmul 18 v3)) (wmul 3 v4)) 2) 1), o))) rfl rfl trivial ?_
            exact T236_2 hd k0 hk0 (F236_1 k0 n) hk1 v2 v3 v4 (mset h 14 (wadd (wadd (wadd 457 (wmul 18 v3)) (wmul 3 v4)) 2) 1) _ e
          · refine zF_blk (m := []) (d := 0) (b := B236_12) (gs := [¬ (r2 ≤ 0)]) (c' := (152, [some (22, 0), none, some (0, v2), some (0, v3), some (0, v4), some (0, (wadd (wadd 457 (wmul 18 v3)) (wmul 3 v4))), some (0, r2)], [], (hc, (mset h 14 (wadd (wadd (wadd 457 (wmul 18 v3)) (wmul 3 v4)) 2) 1), o))) K236_12 rfl ⟨q10, trivial⟩ ?_
            obtain ⟨r3, q11, e⟩ := zB_s e
            refine zF_blk (m := []) (d := 0) (b := B236_11) (gs := []) (c' := (158, [some (22, 0), none, some (0, v2), some (0, v3), some (0, v4), some (0, (wadd (wadd 457 (wmul 18 v3)) (wmul 3 v4))), some (0, r2)], [(0, r2), (0, v4), (0, v3), (22, 0)], (hc, (mset h 14 (wadd (wadd (wadd 457 (wmul 18 v3)) (wmul 3 v4)) 2) 1), o))) K236_11 rfl trivial ?_
            refine zF_call (k := 239) (cl := 12) (n := 4) (i := .invokevirtual 298) (args := [(22, 0), (0, v3), (0, v4), (0, r2)]) (rest := []) (g1 := (hc, r3, o)) (r1 := none) (by decide +kernel) rfl rfl rfl (st' := []) rfl (S239 (Nat.le_trans (by decide) hd) v3 v4 r2 (mset h 14 (wadd (wadd (wadd 457 (wmul 18 v3)) (wmul 3 v4)) 2) 1) _ q11) ?_
            refine zF_blk (m := [true, false, true, true, true, false, false]) (d := 0) (b := []) (gs := []) (c' := (161, [some (22, 0), none, some (0, v2), some (0, v3), some (0, v4), none, none], [], (hc, r3, o))) rfl rfl trivial ?_
            exact T236_2 hd k0 hk0 (F236_1 k0 n) hk1 v2 v3 v4 r3 _ e
        · refine zF_blk (m := []) (d := 0) (b := B236_14) (gs := [0 ≤ (wadd (wadd (wadd 457 (wmul 18 v3)) (wmul 3 v4)) 2) ∧ (wadd (wadd (wadd 457 (wmul 18 v3)) (wmul 3 v4)) 2) < 2140, ¬ ((h 14 (wadd (wadd (wadd 457 (wmul 18 v3)) (wmul 3 v4)) 2)) ≤ 0)]) (c' := (112, [some (22, 0), none, some (0, v2), some (0, v3), some (0, v4), some (0, (wadd (wadd 457 (wmul 18 v3)) (wmul 3 v4))), none], [], (hc, h, o))) K236_14 rfl ⟨q4, q5, trivial⟩ ?_
          refine zF_blk (m := []) (d := 0) (b := B236_13) (gs := []) (c' := (161, [some (22, 0), none, some (0, v2), some (0, v3), some (0, v4), some (0, (wadd (wadd 457 (wmul 18 v3)) (wmul 3 v4))), none], [], (hc, h, o))) K236_13 rfl trivial ?_
          refine zF_blk (m := [true, false, true, true, true, false, false]) (d := 0) (b := []) (gs := []) (c' := (161, [some (22, 0), none, some (0, v2), some (0, v3), some (0, v4), none, none], [], (hc, h, o))) rfl rfl trivial ?_
          exact T236_2 hd k0 hk0 (F236_1 k0 n) hk1 v2 v3 v4 h _ e
def F236_0 : Nat → Int → Int → zHM → Option zHM
  | 0, _, _, _ => none
  | n + 1, v2, v3, h => if (h 14 216) ≤ v3 then some h else F236_1 (F236_0 n) zFu v2 v3 0 h
set_option maxRecDepth 100000 in
theorem T236_0 {spec : zRn zH2} {hc : zHC} {o : Int → Int} {d : Nat} (hd : 4 ≤ d) : ∀ (n : Nat) (v2 : Int) (v3 : Int) (h : zHM) (v : zHM), F236_0 n v2 v3 h = some v → zFin 0 (fun _ => 0) (zRu2 spec d) 236 none (hc, v, o) (41, [some (22, 0), none, some (0, v2), some (0, v3), none, none, none], [], (hc, h, o)) := by
  intro n
  induction n with
  | zero => intro v2 v3 h v e; unfold F236_0 at e; cases e
  | succ n hk0 =>
    intro v2 v3 h v e
    unfold F236_0 at e
    rcases zI_s e with ⟨q1, e⟩ | ⟨q1, e⟩
    · refine zF_blk (m := []) (d := 1) (b := B236_4) (gs := [0 ≤ 216 ∧ 216 < 2140, (h 14 216) ≤ v3]) (c' := (173, [some (22, 0), none, some (0, v2), some (0, v3), none, none, none], [], (hc, h, o))) K236_4 rfl ⟨by decide, q1, trivial⟩ ?_
      obtain rfl := Option.some.inj e
      exact zF_rv (by decide +kernel)
    · refine zF_blk (m := []) (d := 0) (b := B236_4) (gs := [0 ≤ 216 ∧ 216 < 2140, ¬ ((h 14 216) ≤ v3)]) (c' := (53, [some (22, 0), none, some (0, v2), some (0, v3), none, none, none], [], (hc, h, o))) K236_4 rfl ⟨by decide, q1, trivial⟩ ?_
      refine zF_blk (m := []) (d := 0) (b := B236_3) (gs := []) (c' := (56, [some (22, 0), none, some (0, v2), some (0, v3), some (0, 0), none, none], [], (hc, h, o))) K236_3 rfl trivial ?_
      exact T236_1 hd (F236_0 n) hk0 zFu v2 v3 0 h _ e
/-- EchoValeModel.pass(I)V -/
def F236 (v1 : Int) (h : zHM) : Option zHM := (F237 (wadd (h 14 209) 1) (mset h 14 209 (wadd (h 14 209) 1))).bind fun r1 => (F208 (r1 14 209) r1).bind fun r2 => F236_0 zFu (wadd r2 v1) 0 r1
set_option maxRecDepth 100000 in
theorem S236 {spec : zRn zH2} {hc : zHC} {o : Int → Int} {d : Nat} (hd : 5 ≤ d) (v1 : Int) (h : zHM) (v : zHM) (e : F236 v1 h = some v) : zRu2 spec d 236 [(22, 0), (0, v1)] (hc, h, o) none (hc, v, o) := by
  refine zF_in (D := 4) (mx := 7) (L := [some (22, 0), some (0, v1), none, none, none, none, none]) (by decide +kernel) rfl rfl hd (fun d hd => ?_)
  unfold F236 at e
  obtain ⟨r1, q1, e⟩ := zB_s e
  refine zF_blk (m := []) (d := 0) (b := B236_0) (gs := [0 ≤ 209 ∧ 209 < 2140, 0 ≤ 209 ∧ 209 < 2140, 0 ≤ 209 ∧ 209 < 2140]) (c' := (21, [some (22, 0), some (0, v1), none, none, none, none, none], [(0, (wadd (h 14 209) 1)), (22, 0)], (hc, (mset h 14 209 (wadd (h 14 209) 1)), o))) K236_0 rfl ⟨by decide, by decide, by decide, trivial⟩ ?_
  refine zF_call (k := 237) (cl := 12) (n := 2) (i := .invokevirtual 292) (args := [(22, 0), (0, (wadd (h 14 209) 1))]) (rest := []) (g1 := (hc, r1, o)) (r1 := none) (by decide +kernel) rfl rfl rfl (st' := []) rfl (S237 (Nat.le_trans (by decide) hd) (wadd (h 14 209) 1) (mset h 14 209 (wadd (h 14 209) 1)) _ q1) ?_
  obtain ⟨r2, q2, e⟩ := zB_s e
  refine zF_blk (m := []) (d := 0) (b := B236_1) (gs := [0 ≤ 209 ∧ 209 < 2140]) (c' := (33, [some (22, 0), some (0, v1), none, none, none, none, none], [(0, (r1 14 209)), (22, 0)], (hc, r1, o))) K236_1 rfl ⟨by decide, trivial⟩ ?_
  refine zF_call (k := 208) (cl := 12) (n := 2) (i := .invokevirtual 244) (args := [(22, 0), (0, (r1 14 209))]) (rest := []) (g1 := (hc, r1, o)) (r1 := some (0, r2)) (by decide +kernel) rfl rfl rfl (st' := [(0, r2)]) rfl (S208 (Nat.le_trans (by decide) hd) (r1 14 209) r1 _ q2) ?_
  refine zF_blk (m := []) (d := 0) (b := B236_2) (gs := []) (c' := (41, [some (22, 0), some (0, v1), some (0, (wadd r2 v1)), some (0, 0), none, none, none], [], (hc, r1, o))) K236_2 rfl trivial ?_
  refine zF_blk (m := [true, false, true, true, false, false, false]) (d := 0) (b := []) (gs := []) (c' := (41, [some (22, 0), none, some (0, (wadd r2 v1)), some (0, 0), none, none, none], [], (hc, r1, o))) rfl rfl trivial ?_
  exact T236_0 hd zFu (wadd r2 v1) 0 r1 _ e
def B235_0 : List zRow := [(0, .iconst 0, 1, (0, 0, 0)), (1, .istore_n 2, 1, (0, 0, 0))]
theorem K235_0 : zRk 235 B235_0 = true := by decide +kernel
def B235_1 : List zRow := [(32, .iload_n 2, 1, (0, 0, 0))]
theorem K235_1 : zRk 235 B235_1 = true := by decide +kernel
def B235_2 : List zRow := [(21, .aload_n 0, 1, (0, 0, 0)), (22, .iconst 0, 1, (0, 0, 0))]
theorem K235_2 : zRk 235 B235_2 = true := by decide +kernel
def B235_3 : List zRow := [(26, .iinc 2 1, 3, (0, 0, 0)), (29, .goto (-27), 3, (0, 0, 0))]
theorem K235_3 : zRk 235 B235_3 = true := by decide +kernel
def B235_4 : List zRow := [(7, .aload_n 0, 1, (0, 0, 0)), (8, .getfield 13, 3, (12, 14, 5251442)), (11, .sipush 209, 3, (0, 0, 0)), (14, .iaload, 1, (0, 0, 0)), (15, .sipush 400, 3, (0, 0, 0)), (18, .if_icmp .ge 14, 3, (0, 0, 0))]
theorem K235_4 : zRk 235 B235_4 = true := by decide +kernel
def B235_5 : List zRow := [(2, .iload_n 2, 1, (0, 0, 0)), (3, .iload_n 1, 1, (0, 0, 0)), (4, .if_icmp .ge 28, 3, (0, 0, 0))]
theorem K235_5 : zRk 235 B235_5 = true := by decide +kernel
def F235_0 : Nat → Int → Int → zHM → Option (Int × zHM)
  | 0, _, _, _ => none
  | n + 1, v1, v2, h => if v1 ≤ v2 then some (v2, h) else if 400 ≤ (h 14 209) then some (v2, h) else (F236 0 h).bind fun r1 => (F235_0 n) v1 (wadd v2 1) r1
set_option maxRecDepth 100000 in
theorem T235_0 {spec : zRn zH2} {hc : zHC} {o : Int → Int} {d : Nat} (hd : 5 ≤ d) : ∀ (n : Nat) (v1 : Int) (v2 : Int) (h : zHM) (v : (Int × zHM)), F235_0 n v1 v2 h = some v → zFin 0 (fun _ => 0) (zRu2 spec d) 235 (some (0, v.1)) (hc, v.2, o) (2, [some (22, 0), some (0, v1), some (0, v2)], [], (hc, h, o)) := by
  intro n
  induction n with
  | zero => intro v1 v2 h v e; unfold F235_0 at e; cases e
  | succ n hk0 =>
    intro v1 v2 h v e
    unfold F235_0 at e
    rcases zI_s e with ⟨q1, e⟩ | ⟨q1, e⟩
    · refine zF_blk (m := []) (d := 1) (b := B235_5) (gs := [v1 ≤ v2]) (c' := (32, [some (22, 0), some (0, v1), some (0, v2)], [], (hc, h, o))) K235_5 rfl ⟨q1, trivial⟩ ?_
      refine zF_blk (m := []) (d := 0) (b := B235_1) (gs := []) (c' := (33, [some (22, 0), some (0, v1), some (0, v2)], [(0, v2)], (hc, h, o))) K235_1 rfl trivial ?_
      exact zF_riM (by decide +kernel) e
    · refine zF_blk (m := []) (d := 0) (b := B235_5) (gs := [¬ (v1 ≤ v2)]) (c' := (7, [some (22, 0), some (0, v1), some (0, v2)], [], (hc, h, o))) K235_5 rfl ⟨q1, trivial⟩ ?_
      rcases zI_s e with ⟨q2, e⟩ | ⟨q2, e⟩
      · refine zF_blk (m := []) (d := 1) (b := B235_4) (gs := [0 ≤ 209 ∧ 209 < 2140, 400 ≤ (h 14 209)]) (c' := (32, [some (22, 0), some (0, v1), some (0, v2)], [], (hc, h, o))) K235_4 rfl ⟨by decide, q2, trivial⟩ ?_
        refine zF_blk (m := []) (d := 0) (b := B235_1) (gs := []) (c' := (33, [some (22, 0), some (0, v1), some (0, v2)], [(0, v2)], (hc, h, o))) K235_1 rfl trivial ?_
        exact zF_riM (by decide +kernel) e
      · refine zF_blk (m := []) (d := 0) (b := B235_4) (gs := [0 ≤ 209 ∧ 209 < 2140, ¬ (400 ≤ (h 14 209))]) (c' := (21, [some (22, 0), some (0, v1), some (0, v2)], [], (hc, h, o))) K235_4 rfl ⟨by decide, q2, trivial⟩ ?_
        obtain ⟨r1, q3, e⟩ := zB_s e
        refine zF_blk (m := []) (d := 0) (b := B235_2) (gs := []) (c' := (23, [some (22, 0), some (0, v1), some (0, v2)], [(0, 0), (22, 0)], (hc, h, o))) K235_2 rfl trivial ?_
        refine zF_call (k := 236) (cl := 12) (n := 2) (i := .invokevirtual 302) (args := [(22, 0), (0, 0)]) (rest := []) (g1 := (hc, r1, o)) (r1 := none) (by decide +kernel) rfl rfl rfl (st' := []) rfl (S236 (Nat.le_trans (by decide) hd) 0 h _ q3) ?_
        refine zF_blk (m := []) (d := 0) (b := B235_3) (gs := []) (c' := (2, [some (22, 0), some (0, v1), some (0, (wadd v2 1))], [], (hc, r1, o))) K235_3 rfl trivial ?_
        exact hk0 v1 (wadd v2 1) r1 _ e
/-- EchoValeModel.passHours(I)I -/
def F235 (v1 : Int) (h : zHM) : Option (Int × zHM) := F235_0 zFu v1 0 h
set_option maxRecDepth 100000 in
theorem S235 {spec : zRn zH2} {hc : zHC} {o : Int → Int} {d : Nat} (hd : 6 ≤ d) (v1 : Int) (h : zHM) (v : (Int × zHM)) (e : F235 v1 h = some v) : zRu2 spec d 235 [(22, 0), (0, v1)] (hc, h, o) (some (0, v.1)) (hc, v.2, o) := by
  refine zF_in (D := 5) (mx := 3) (L := [some (22, 0), some (0, v1), none]) (by decide +kernel) rfl rfl hd (fun d hd => ?_)
  unfold F235 at e
  refine zF_blk (m := []) (d := 0) (b := B235_0) (gs := []) (c' := (2, [some (22, 0), some (0, v1), some (0, 0)], [], (hc, h, o))) K235_0 rfl trivial ?_
  exact T235_0 hd zFu v1 0 h _ e
def B234_0 : List zRow := [(0, .aload_n 0, 1, (0, 0, 0)), (1, .iconst 0, 1, (0, 0, 0)), (2, .putfield 81, 3, (12, 0, 0)), (5, .iload_n 1, 1, (0, 0, 0)), (6, .iconst 1, 1, (0, 0, 0)), (7, .bipush 100, 2, (0, 0, 0))]
theorem K234_0 : zRk 234 B234_0 = true := by decide +kernel
def B234_1 : List zRow := [(33, .aload_n 0, 1, (0, 0, 0))]
theorem K234_1 : zRk 234 B234_1 = true := by decide +kernel
def B234_2 : List zRow := [(37, .aload_n 0, 1, (0, 0, 0)), (38, .iload_n 1, 1, (0, 0, 0))]
theorem K234_2 : zRk 234 B234_2 = true := by decide +kernel
def B234_3 : List zRow := [(31, .iconst 0, 1, (0, 0, 0))]
theorem K234_3 : zRk 234 B234_3 = true := by decide +kernel
def B234_4 : List zRow := [(17, .aload_n 0, 1, (0, 0, 0)), (18, .getfield 13, 3, (12, 14, 5251442)), (21, .sipush 209, 3, (0, 0, 0)), (24, .iaload, 1, (0, 0, 0)), (25, .sipush 400, 3, (0, 0, 0)), (28, .if_icmp .ne 5, 3, (0, 0, 0))]
theorem K234_4 : zRk 234 B234_4 = true := by decide +kernel
def B234_5 : List zRow := [(15, .iconst (-1), 1, (0, 0, 0))]
theorem K234_5 : zRk 234 B234_5 = true := by decide +kernel
def B234_6 : List zRow := [(12, .ifCond .ne 5, 3, (0, 0, 0))]
theorem K234_6 : zRk 234 B234_6 = true := by decide +kernel
/-- EchoValeModel.on(I)I -/
def F234 (v1 : Int) (h : zHM) : Option (Int × zHM) := (F188 v1 1 100).bind fun r1 => if ¬ r1 = 0 then if ¬ (h 14 209) = 400 then (F225 (mset h 0 0 0)).bind fun r2 => (F235 v1 r2).bind fun r3 => some (r3.1, r3.2) else some (0, (mset h 0 0 0)) else some ((-1), (mset h 0 0 0))
set_option maxRecDepth 100000 in
theorem S234 {spec : zRn zH2} {hc : zHC} {o : Int → Int} {d : Nat} (hd : 7 ≤ d) (v1 : Int) (h : zHM) (v : (Int × zHM)) (e : F234 v1 h = some v) : zRu2 spec d 234 [(22, 0), (0, v1)] (hc, h, o) (some (0, v.1)) (hc, v.2, o) := by
  refine zF_in (D := 6) (mx := 2) (L := [some (22, 0), some (0, v1)]) (by decide +kernel) rfl rfl hd (fun d hd => ?_)
  unfold F234 at e
  obtain ⟨r1, q1, e⟩ := zB_s e
  refine zF_blk (m := []) (d := 0) (b := B234_0) (gs := []) (c' := (9, [some (22, 0), some (0, v1)], [(0, 100), (0, 1), (0, v1)], (hc, (mset h 0 0 0), o))) K234_0 rfl trivial ?_
  refine zF_call (k := 188) (cl := 12) (n := 3) (i := .invokestatic 151) (args := [(0, v1), (0, 1), (0, 100)]) (rest := []) (g1 := (hc, (mset h 0 0 0), o)) (r1 := some (0, r1)) (by decide +kernel) rfl rfl rfl (st' := [(0, r1)]) rfl (S188 (Nat.le_trans (by decide) hd) v1 1 100 (mset h 0 0 0) _ q1) ?_
  rcases zI_s e with ⟨q2, e⟩ | ⟨q2, e⟩
  · refine zF_blk (m := []) (d := 1) (b := B234_6) (gs := [¬ r1 = 0]) (c' := (17, [some (22, 0), some (0, v1)], [], (hc, (mset h 0 0 0), o))) K234_6 rfl ⟨q2, trivial⟩ ?_
    rcases zI_s e with ⟨q3, e⟩ | ⟨q3, e⟩
    · refine zF_blk (m := []) (d := 1) (b := B234_4) (gs := [0 ≤ 209 ∧ 209 < 2140, ¬ (h 14 209) = 400]) (c' := (33, [some (22, 0), some (0, v1)], [], (hc, (mset h 0 0 0), o))) K234_4 rfl ⟨by decide, q3, trivial⟩ ?_
      obtain ⟨r2, q4, e⟩ := zB_s e
      refine zF_blk (m := []) (d := 0) (b := B234_1) (gs := []) (c' := (34, [some (22, 0), some (0, v1)], [(22, 0)], (hc, (mset h 0 0 0), o))) K234_1 rfl trivial ?_
      refine zF_call (k := 225) (cl := 12) (n := 1) (i := .invokevirtual 308) (args := [(22, 0)]) (rest := []) (g1 := (hc, r2, o)) (r1 := none) (by decide +kernel) rfl rfl rfl (st' := []) rfl (S225 (Nat.le_trans (by decide) hd)  (mset h 0 0 0) _ q4) ?_
      obtain ⟨r3, q5, e⟩ := zB_s e
      refine zF_blk (m := []) (d := 0) (b := B234_2) (gs := []) (c' := (39, [some (22, 0), some (0, v1)], [(0, v1), (22, 0)], (hc, r2, o))) K234_2 rfl trivial ?_
      refine zF_call (k := 235) (cl := 12) (n := 2) (i := .invokevirtual 314) (args := [(22, 0), (0, v1)]) (rest := []) (g1 := (hc, r3.2, o)) (r1 := some (0, r3.1)) (by decide +kernel) rfl rfl rfl (st' := [(0, r3.1)]) rfl (S235 (Nat.le_trans (by decide) hd) v1 r2 _ q5) ?_
      exact zF_riM (by decide +kernel) e
    · refine zF_blk (m := []) (d := 0) (b := B234_4) (gs := [0 ≤ 209 ∧ 209 < 2140, ¬ (¬ (h 14 209) = 400)]) (c' := (31, [some (22, 0), some (0, v1)], [], (hc, (mset h 0 0 0), o))) K234_4 rfl ⟨by decide, q3, trivial⟩ ?_
      refine zF_blk (m := []) (d := 0) (b := B234_3) (gs := []) (c' := (32, [some (22, 0), some (0, v1)], [(0, 0)], (hc, (mset h 0 0 0), o))) K234_3 rfl trivial ?_
      exact zF_riM (by decide +kernel) e
  · refine zF_blk (m := []) (d := 0) (b := B234_6) (gs := [¬ (¬ r1 = 0)]) (c' := (15, [some (22, 0), some (0, v1)], [], (hc, (mset h 0 0 0), o))) K234_6 rfl ⟨q2, trivial⟩ ?_
    refine zF_blk (m := []) (d := 0) (b := B234_5) (gs := []) (c' := (16, [some (22, 0), some (0, v1)], [(0, (-1))], (hc, (mset h 0 0 0), o))) K234_5 rfl trivial ?_
    exact zF_riM (by decide +kernel) e
