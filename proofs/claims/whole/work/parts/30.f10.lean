/-! Functions of the methods, by wip/gen/lift.py. -/
def B252_0 : List zRow := [(0, .aload_n 0, 1, (0, 0, 0)), (1, .iconst 0, 1, (0, 0, 0)), (2, .putfield 81, 3, (12, 0, 0)), (5, .aload_n 0, 1, (0, 0, 0)), (6, .iload_n 1, 1, (0, 0, 0))]
theorem K252_0 : zRk 252 B252_0 = true := by decide +kernel
def B252_1 : List zRow := [(57, .iconst (-1), 1, (0, 0, 0))]
theorem K252_1 : zRk 252 B252_1 = true := by decide +kernel
def B252_2 : List zRow := [(13, .aload_n 0, 1, (0, 0, 0)), (14, .iload_n 2, 1, (0, 0, 0))]
theorem K252_2 : zRk 252 B252_2 = true := by decide +kernel
def B252_3 : List zRow := [(26, .iload_n 3, 1, (0, 0, 0)), (27, .iconst 1, 1, (0, 0, 0)), (28, .bipush 9, 2, (0, 0, 0))]
theorem K252_3 : zRk 252 B252_3 = true := by decide +kernel
def B252_4 : List zRow := [(36, .iload 4, 2, (0, 0, 0))]
theorem K252_4 : zRk 252 B252_4 = true := by decide +kernel
def B252_5 : List zRow := [(59, .iconst 0, 1, (0, 0, 0)), (60, .istore 6, 2, (0, 0, 0)), (62, .iconst 0, 1, (0, 0, 0)), (63, .istore 7, 2, (0, 0, 0))]
theorem K252_5 : zRk 252 B252_5 = true := by decide +kernel
def B252_6 : List zRow := [(44, .aload_n 0, 1, (0, 0, 0)), (45, .getfield 13, 3, (12, 14, 5251442)), (48, .sipush 216, 3, (0, 0, 0)), (51, .iaload, 1, (0, 0, 0)), (52, .bipush 30, 2, (0, 0, 0)), (54, .if_icmp .ne 5, 3, (0, 0, 0))]
theorem K252_6 : zRk 252 B252_6 = true := by decide +kernel
def B252_7 : List zRow := [(41, .ifCond .eq 16, 3, (0, 0, 0))]
theorem K252_7 : zRk 252 B252_7 = true := by decide +kernel
def B252_8 : List zRow := [(33, .ifCond .eq 24, 3, (0, 0, 0))]
theorem K252_8 : zRk 252 B252_8 = true := by decide +kernel
def B252_9 : List zRow := [(21, .iload_n 1, 1, (0, 0, 0)), (22, .iload_n 2, 1, (0, 0, 0)), (23, .if_icmp .eq 34, 3, (0, 0, 0))]
theorem K252_9 : zRk 252 B252_9 = true := by decide +kernel
def B252_10 : List zRow := [(18, .ifCond .eq 39, 3, (0, 0, 0))]
theorem K252_10 : zRk 252 B252_10 = true := by decide +kernel
def B252_11 : List zRow := [(10, .ifCond .eq 47, 3, (0, 0, 0))]
theorem K252_11 : zRk 252 B252_11 = true := by decide +kernel
def B252_12 : List zRow := [(178, .iconst (-1), 1, (0, 0, 0))]
theorem K252_12 : zRk 252 B252_12 = true := by decide +kernel
def B252_13 : List zRow := [(173, .iload 6, 2, (0, 0, 0)), (175, .goto 4, 3, (0, 0, 0))]
theorem K252_13 : zRk 252 B252_13 = true := by decide +kernel
def B252_14 : List zRow := [(167, .iload 5, 2, (0, 0, 0)), (169, .iconst (-1), 1, (0, 0, 0)), (170, .if_icmp .ne 8, 3, (0, 0, 0))]
theorem K252_14 : zRk 252 B252_14 = true := by decide +kernel
def B252_15 : List zRow := [(72, .aload_n 0, 1, (0, 0, 0)), (73, .iload 7, 2, (0, 0, 0))]
theorem K252_15 : zRk 252 B252_15 = true := by decide +kernel
def B252_16 : List zRow := [(84, .aload_n 0, 1, (0, 0, 0))]
theorem K252_16 : zRk 252 B252_16 = true := by decide +kernel
def B252_17 : List zRow := [(88, .aload_n 0, 1, (0, 0, 0)), (89, .getfield 13, 3, (12, 14, 5251442)), (92, .sipush 210, 3, (0, 0, 0)), (95, .iload_n 1, 1, (0, 0, 0))]
theorem K252_17 : zRk 252 B252_17 = true := by decide +kernel
def B252_18 : List zRow := [(96, .iadd, 1, (0, 0, 0)), (97, .iload 7, 2, (0, 0, 0)), (99, .iastore, 1, (0, 0, 0)), (100, .aload_n 0, 1, (0, 0, 0)), (101, .iload_n 1, 1, (0, 0, 0)), (102, .iconst 1, 1, (0, 0, 0)), (103, .iload_n 3, 1, (0, 0, 0))]
theorem K252_18 : zRk 252 B252_18 = true := by decide +kernel
def B252_19 : List zRow := [(107, .istore 8, 2, (0, 0, 0)), (109, .aload_n 0, 1, (0, 0, 0)), (110, .iload 4, 2, (0, 0, 0))]
theorem K252_19 : zRk 252 B252_19 = true := by decide +kernel
def B252_20 : List zRow := [(115, .pop, 1, (0, 0, 0)), (116, .aload_n 0, 1, (0, 0, 0)), (117, .iload 8, 2, (0, 0, 0)), (119, .iconst 5, 1, (0, 0, 0))]
theorem K252_20 : zRk 252 B252_20 = true := by decide +kernel
def B252_21 : List zRow := [(133, .iconst 0, 1, (0, 0, 0))]
theorem K252_21 : zRk 252 B252_21 = true := by decide +kernel
def B252_22 : List zRow := [(129, .iconst 1, 1, (0, 0, 0)), (130, .goto 4, 3, (0, 0, 0))]
theorem K252_22 : zRk 252 B252_22 = true := by decide +kernel
def B252_23 : List zRow := [(123, .iconst 1, 1, (0, 0, 0)), (124, .iload_n 2, 1, (0, 0, 0)), (125, .ishl, 1, (0, 0, 0)), (126, .if_icmp .ne 7, 3, (0, 0, 0))]
theorem K252_23 : zRk 252 B252_23 = true := by decide +kernel
def B252_24 : List zRow := [(81, .goto 80, 3, (0, 0, 0))]
theorem K252_24 : zRk 252 B252_24 = true := by decide +kernel
def B252_25 : List zRow := [(78, .ifCond .ne 6, 3, (0, 0, 0))]
theorem K252_25 : zRk 252 B252_25 = true := by decide +kernel
def B252_26 : List zRow := [(65, .iload 7, 2, (0, 0, 0)), (67, .bipush 100, 2, (0, 0, 0)), (69, .if_icmp .ge 98, 3, (0, 0, 0))]
theorem K252_26 : zRk 252 B252_26 = true := by decide +kernel
def B252_27 : List zRow := [(161, .iinc 7 1, 3, (0, 0, 0)), (164, .goto (-99), 3, (0, 0, 0))]
theorem K252_27 : zRk 252 B252_27 = true := by decide +kernel
def B252_28 : List zRow := [(134, .istore 9, 2, (0, 0, 0)), (136, .aload_n 0, 1, (0, 0, 0))]
theorem K252_28 : zRk 252 B252_28 = true := by decide +kernel
def B252_29 : List zRow := [(158, .iinc 6 1, 3, (0, 0, 0))]
theorem K252_29 : zRk 252 B252_29 = true := by decide +kernel
def B252_30 : List zRow := [(155, .iload 7, 2, (0, 0, 0))]
theorem K252_30 : zRk 252 B252_30 = true := by decide +kernel
def B252_31 : List zRow := [(148, .iload 6, 2, (0, 0, 0)), (150, .iload 5, 2, (0, 0, 0)), (152, .if_icmp .ne 6, 3, (0, 0, 0))]
theorem K252_31 : zRk 252 B252_31 = true := by decide +kernel
def B252_32 : List zRow := [(145, .goto 16, 3, (0, 0, 0))]
theorem K252_32 : zRk 252 B252_32 = true := by decide +kernel
def B252_33 : List zRow := [(140, .iload 9, 2, (0, 0, 0)), (142, .ifCond .ne 6, 3, (0, 0, 0))]
theorem K252_33 : zRk 252 B252_33 = true := by decide +kernel
def F252_2 (k0 : Int → Int → Int → Int → Int → Int → Int → zHM → Option (Int × zHM)) (v1 : Int) (v2 : Int) (v3 : Int) (v4 : Int) (v5 : Int) (v6 : Int) (v7 : Int) (h : zHM) : Option (Int × zHM) := k0 v1 v2 v3 v4 v5 v6 (wadd v7 1) h
set_option maxRecDepth 100000 in
theorem T252_2 {spec : zRn zH2} {hc : zHC} {o : Int → Int} {d : Nat} (hd : 6 ≤ d) (k0 : Int → Int → Int → Int → Int → Int → Int → zHM → Option (Int × zHM)) (hk0 : ∀ (v1 : Int) (v2 : Int) (v3 : Int) (v4 : Int) (v5 : Int) (v6 : Int) (v7 : Int) (h : zHM) (v : (Int × zHM)), k0 v1 v2 v3 v4 v5 v6 v7 h = some v → zFin 0 (fun _ => 0) (zRu2 spec d) 252 (some (0, v.1)) (hc, v.2, o) (65, [some (22, 0), some (0, v1), some (0, v2), some (0, v3), some (0, v4), some (0, v5), some (0, v6), some (0, v7), none, none], [], (hc, h, o))) (v1 : Int) (v2 : Int) (v3 : Int) (v4 : Int) (v5 : Int) (v6 : Int) (v7 : Int) (h : zHM) (v : (Int × zHM)) (e : F252_2 k0 v1 v2 v3 v4 v5 v6 v7 h = some v) : zFin 0 (fun _ => 0) (zRu2 spec d) 252 (some (0, v.1)) (hc, v.2, o) (161, [some (22, 0), some (0, v1), some (0, v2), some (0, v3), some (0, v4), some (0, v5), some (0, v6), some (0, v7), none, none], [], (hc, h, o)) := by
  unfold F252_2 at e
  refine zF_blk (m := []) (d := 0) (b := B252_27) (gs := []) (c' := (65, [some (22, 0), some (0, v1), some (0, v2), some (0, v3), some (0, v4), some (0, v5), some (0, v6), some (0, (wadd v7 1)), none, none], [], (hc, h, o))) K252_27 rfl trivial ?_
  exact hk0 v1 v2 v3 v4 v5 v6 (wadd v7 1) h _ e
def F252_1 (k0 : Int → Int → Int → Int → Int → Int → Int → zHM → Option (Int × zHM)) (v1 : Int) (v2 : Int) (v3 : Int) (v4 : Int) (v5 : Int) (v6 : Int) (v7 : Int) (s0 : Int) (h : zHM) : Option (Int × zHM) := (F245 h).bind fun r1 => if ¬ s0 = 0 then if ¬ v6 = v5 then F252_2 k0 v1 v2 v3 v4 v5 (wadd v6 1) v7 r1 else some (v7, r1) else F252_2 k0 v1 v2 v3 v4 v5 v6 v7 r1
set_option maxRecDepth 100000 in
theorem T252_1 {spec : zRn zH2} {hc : zHC} {o : Int → Int} {d : Nat} (hd : 6 ≤ d) (k0 : Int → Int → Int → Int → Int → Int → Int → zHM → Option (Int × zHM)) (hk0 : ∀ (v1 : Int) (v2 : Int) (v3 : Int) (v4 : Int) (v5 : Int) (v6 : Int) (v7 : Int) (h : zHM) (v : (Int × zHM)), k0 v1 v2 v3 v4 v5 v6 v7 h = some v → zFin 0 (fun _ => 0) (zRu2 spec d) 252 (some (0, v.1)) (hc, v.2, o) (65, [some (22, 0), some (0, v1), some (0, v2), some (0, v3), some (0, v4), some (0, v5), some (0, v6), some (0, v7), none, none], [], (hc, h, o))) (v1 : Int) (v2 : Int) (v3 : Int) (v4 : Int) (v5 : Int) (v6 : Int) (v7 : Int) (s0 : Int) (h : zHM) (v : (Int × zHM)) (e : F252_1 k0 v1 v2 v3 v4 v5 v6 v7 s0 h = some v) : zFin 0 (fun _ => 0) (zRu2 spec d) 252 (some (0, v.1)) (hc, v.2, o) (134, [some (22, 0), some (0, v1), some (0, v2), some (0, v3), some (0, v4), some (0, v5), some (0, v6), some (0, v7), none, none], [(0, s0)], (hc, h, o)) := by
  unfold F252_1 at e
  obtain ⟨r1, q1, e⟩ := zB_s e
  refine zF_blk (m := []) (d := 0) (b := B252_28) (gs := []) (c' := (137, [some (22, 0), some (0, v1), some (0, v2), some (0, v3), some (0, v4), some (0, v5), some (0, v6), some (0, v7), none, some (0, s0)], [(22, 0)], (hc, h, o))) K252_28 rfl trivial ?_
  refine zF_call (k := 245) (cl := 12) (n := 1) (i := .invokevirtual 320) (args := [(22, 0)]) (rest := []) (g1 := (hc, r1, o)) (r1 := none) (by decide +kernel) rfl rfl rfl (st' := []) rfl (S245 (Nat.le_trans (by decide) hd)  h _ q1) ?_
  rcases zI_s e with ⟨q2, e⟩ | ⟨q2, e⟩
  · refine zF_blk (m := []) (d := 1) (b := B252_33) (gs := [¬ s0 = 0]) (c' := (148, [some (22, 0), some (0, v1), some (0, v2), some (0, v3), some (0, v4), some (0, v5), some (0, v6), some (0, v7), none, some (0, s0)], [], (hc, r1, o))) K252_33 rfl ⟨q2, trivial⟩ ?_
    rcases zI_s e with ⟨q3, e⟩ | ⟨q3, e⟩
    · refine zF_blk (m := []) (d := 1) (b := B252_31) (gs := [¬ v6 = v5]) (c' := (158, [some (22, 0), some (0, v1), some (0, v2), some (0, v3), some (0, v4), some (0, v5), some (0, v6), some (0, v7), none, some (0, s0)], [], (hc, r1, o))) K252_31 rfl ⟨q3, trivial⟩ ?_
      refine zF_blk (m := []) (d := 0) (b := B252_29) (gs := []) (c' := (161, [some (22, 0), some (0, v1), some (0, v2), some (0, v3), some (0, v4), some (0, v5), some (0, (wadd v6 1)), some (0, v7), none, some (0, s0)], [], (hc, r1, o))) K252_29 rfl trivial ?_
      refine zF_blk (m := [true, true, true, true, true, true, true, true, false, false]) (d := 0) (b := []) (gs := []) (c' := (161, [some (22, 0), some (0, v1), some (0, v2), some (0, v3), some (0, v4), some (0, v5), some (0, (wadd v6 1)), some (0, v7), none, none], [], (hc, r1, o))) rfl rfl trivial ?_
      exact T252_2 hd k0 hk0 v1 v2 v3 v4 v5 (wadd v6 1) v7 r1 _ e
    · refine zF_blk (m := []) (d := 0) (b := B252_31) (gs := [¬ (¬ v6 = v5)]) (c' := (155, [some (22, 0), some (0, v1), some (0, v2), some (0, v3), some (0, v4), some (0, v5), some (0, v6), some (0, v7), none, some (0, s0)], [], (hc, r1, o))) K252_31 rfl ⟨q3, trivial⟩ ?_
      refine zF_blk (m := []) (d := 0) (b := B252_30) (gs := []) (c' := (157, [some (22, 0), some (0, v1), some (0, v2), some (0, v3), some (0, v4), some (0, v5), some (0, v6), some (0, v7), none, some (0, s0)], [(0, v7)], (hc, r1, o))) K252_30 rfl trivial ?_
      exact zF_riM (by decide +kernel) e
  · refine zF_blk (m := []) (d := 0) (b := B252_33) (gs := [¬ (¬ s0 = 0)]) (c' := (145, [some (22, 0), some (0, v1), some (0, v2), some (0, v3), some (0, v4), some (0, v5), some (0, v6), some (0, v7), none, some (0, s0)], [], (hc, r1, o))) K252_33 rfl ⟨q2, trivial⟩ ?_
    refine zF_blk (m := []) (d := 0) (b := B252_32) (gs := []) (c' := (161, [some (22, 0), some (0, v1), some (0, v2), some (0, v3), some (0, v4), some (0, v5), some (0, v6), some (0, v7), none, some (0, s0)], [], (hc, r1, o))) K252_32 rfl trivial ?_
    refine zF_blk (m := [true, true, true, true, true, true, true, true, false, false]) (d := 0) (b := []) (gs := []) (c' := (161, [some (22, 0), some (0, v1), some (0, v2), some (0, v3), some (0, v4), some (0, v5), some (0, v6), some (0, v7), none, none], [], (hc, r1, o))) rfl rfl trivial ?_
    exact T252_2 hd k0 hk0 v1 v2 v3 v4 v5 v6 v7 r1 _ e
def F252_0 : Nat → Int → Int → Int → Int → Int → Int → Int → zHM → Option (Int × zHM)
  | 0, _, _, _, _, _, _, _, _ => none
  | n + 1, v1, v2, v3, v4, v5, v6, v7, h => if 100 ≤ v7 then if ¬ v5 = (-1) then some ((-1), h) else some (v6, h) else (F224 v7 h).bind fun r1 => if ¬ r1 = 0 then (F244 h).bind fun r2 => zG (0 ≤ (wadd 210 v1) ∧ (wadd 210 v1) < 2140) ((F227 v1 1 v3 (mset r2 14 (wadd 210 v1) v7)).bind fun r3 => (F235 v4 r3.2).bind fun r4 => (F213 r3.1 5 r4.2).bind fun r5 => if ¬ r5 = (wshl 1 v2) then F252_1 (F252_0 n) v1 v2 v3 v4 v5 v6 v7 0 r4.2 else F252_1 (F252_0 n) v1 v2 v3 v4 v5 v6 v7 1 r4.2) else F252_2 (F252_0 n) v1 v2 v3 v4 v5 v6 v7 h
set_option maxRecDepth 100000 in
theorem T252_0 {spec : zRn zH2} {hc : zHC} {o : Int → Int} {d : Nat} (hd : 6 ≤ d) : ∀ (n : Nat) (v1 : Int) (v2 : Int) (v3 : Int) (v4 : Int) (v5 : Int) (v6 : Int) (v7 : Int) (h : zHM) (v : (Int × zHM)), F252_0 n v1 v2 v3 v4 v5 v6 v7 h = some v → zFin 0 (fun _ => 0) (zRu2 spec d) 252 (some (0, v.1)) (hc, v.2, o) (65, [some (22, 0), some (0, v1), some (0, v2), some (0, v3), some (0, v4), some (0, v5), some (0, v6), some (0, v7), none, none], [], (hc, h, o)) := by
  intro n
  induction n with
  | zero => intro v1 v2 v3 v4 v5 v6 v7 h v e; unfold F252_0 at e; cases e
  | succ n hk0 =>
    intro v1 v2 v3 v4 v5 v6 v7 h v e
    unfold F252_0 at e
    rcases zI_s e with ⟨q1, e⟩ | ⟨q1, e⟩
    · refine zF_blk (m := []) (d := 1) (b := B252_26) (gs := [100 ≤ v7]) (c' := (167, [some (22, 0), some (0, v1), some (0, v2), some (0, v3), some (0, v4), some (0, v5), some (0, v6), some (0, v7), none, none], [], (hc, h, o))) K252_26 rfl ⟨q1, trivial⟩ ?_
      rcases zI_s e with ⟨q2, e⟩ | ⟨q2, e⟩
      · refine zF_blk (m := []) (d := 1) (b := B252_14) (gs := [¬ v5 = (-1)]) (c' := (178, [some (22, 0), some (0, v1), some (0, v2), some (0, v3), some (0, v4), some (0, v5), some (0, v6), some (0, v7), none, none], [], (hc, h, o))) K252_14 rfl ⟨q2, trivial⟩ ?_
        refine zF_blk (m := []) (d := 0) (b := B252_12) (gs := []) (c' := (179, [some (22, 0), some (0, v1), some (0, v2), some (0, v3), some (0, v4), some (0, v5), some (0, v6), some (0, v7), none, none], [(0, (-1))], (hc, h, o))) K252_12 rfl trivial ?_
        exact zF_riM (by decide +kernel) e
      · refine zF_blk (m := []) (d := 0) (b := B252_14) (gs := [¬ (¬ v5 = (-1))]) (c' := (173, [some (22, 0), some (0, v1), some (0, v2), some (0, v3), some (0, v4), some (0, v5), some (0, v6), some (0, v7), none, none], [], (hc, h, o))) K252_14 rfl ⟨q2, trivial⟩ ?_
        refine zF_blk (m := []) (d := 0) (b := B252_13) (gs := []) (c' := (179, [some (22, 0), some (0, v1), some (0, v2), some (0, v3), some (0, v4), some (0, v5), some (0, v6), some (0, v7), none, none], [(0, v6)], (hc, h, o))) K252_13 rfl trivial ?_
        exact zF_riM (by decide +kernel) e
    · refine zF_blk (m := []) (d := 0) (b := B252_26) (gs := [¬ (100 ≤ v7)]) (c' := (72, [some (22, 0), some (0, v1), some (0, v2), some (0, v3), some (0, v4), some (0, v5), some (0, v6), some (0, v7), none, none], [], (hc, h, o))) K252_26 rfl ⟨q1, trivial⟩ ?_
      obtain ⟨r1, q3, e⟩ := zB_s e
      refine zF_blk (m := []) (d := 0) (b := B252_15) (gs := []) (c' := (75, [some (22, 0), some (0, v1), some (0, v2), some (0, v3), some (0, v4), some (0, v5), some (0, v6), some (0, v7), none, none], [(0, v7), (22, 0)], (hc, h, o))) K252_15 rfl trivial ?_
      refine zF_call (k := 224) (cl := 12) (n := 2) (i := .invokevirtual 305) (args := [(22, 0), (0, v7)]) (rest := []) (g1 := (hc, h, o)) (r1 := some (0, r1)) (by decide +kernel) rfl rfl rfl (st' := [(0, r1)]) rfl (S224 (Nat.le_trans (by decide) hd) v7 h _ q3) ?_
      rcases zI_s e with ⟨q4, e⟩ | ⟨q4, e⟩
      · refine zF_blk (m := []) (d := 1) (b := B252_25) (gs := [¬ r1 = 0]) (c' := (84, [some (22, 0), some (0, v1), some (0, v2), some (0, v3), some (0, v4), some (0, v5), some (0, v6), some (0, v7), none, none], [], (hc, h, o))) K252_25 rfl ⟨q4, trivial⟩ ?_
        obtain ⟨r2, q5, e⟩ := zB_s e
        refine zF_blk (m := []) (d := 0) (b := B252_16) (gs := []) (c' := (85, [some (22, 0), some (0, v1), some (0, v2), some (0, v3), some (0, v4), some (0, v5), some (0, v6), some (0, v7), none, none], [(22, 0)], (hc, h, o))) K252_16 rfl trivial ?_
        refine zF_call (k := 244) (cl := 12) (n := 1) (i := .invokevirtual 317) (args := [(22, 0)]) (rest := []) (g1 := (hc, r2, o)) (r1 := none) (by decide +kernel) rfl rfl rfl (st' := []) rfl (S244 (Nat.le_trans (by decide) hd)  h _ q5) ?_
        obtain ⟨q6, e⟩ := zG_s e
        refine zF_blk (m := []) (d := 0) (b := B252_17) (gs := []) (c' := (96, [some (22, 0), some (0, v1), some (0, v2), some (0, v3), some (0, v4), some (0, v5), some (0, v6), some (0, v7), none, none], [(0, v1), (0, 210), (1344370422, 0)], (hc, r2, o))) K252_17 rfl trivial ?_
        obtain ⟨r3, q7, e⟩ := zB_s e
        refine zF_blk (m := []) (d := 0) (b := B252_18) (gs := [0 ≤ (wadd 210 v1) ∧ (wadd 210 v1) < 2140]) (c' := (104, [some (22, 0), some (0, v1), some (0, v2), some (0, v3), some (0, v4), some (0, v5), some (0, v6), some (0, v7), none, none], [(0, v3), (0, 1), (0, v1), (22, 0)], (hc, (mset r2 14 (wadd 210 v1) v7), o))) K252_18 rfl ⟨q6, trivial⟩ ?_
        refine zF_call (k := 227) (cl := 12) (n := 4) (i := .invokevirtual 311) (args := [(22, 0), (0, v1), (0, 1), (0, v3)]) (rest := []) (g1 := (hc, r3.2, o)) (r1 := some (0, r3.1)) (by decide +kernel) rfl rfl rfl (st' := [(0, r3.1)]) rfl (S227 (Nat.le_trans (by decide) hd) v1 1 v3 (mset r2 14 (wadd 210 v1) v7) _ q7) ?_
        obtain ⟨r4, q8, e⟩ := zB_s e
        refine zF_blk (m := []) (d := 0) (b := B252_19) (gs := []) (c' := (112, [some (22, 0), some (0, v1), some (0, v2), some (0, v3), some (0, v4), some (0, v5), some (0, v6), some (0, v7), some (0, r3.1), none], [(0, v4), (22, 0)], (hc, r3.2, o))) K252_19 rfl trivial ?_
        refine zF_call (k := 235) (cl := 12) (n := 2) (i := .invokevirtual 314) (args := [(22, 0), (0, v4)]) (rest := []) (g1 := (hc, r4.2, o)) (r1 := some (0, r4.1)) (by decide +kernel) rfl rfl rfl (st' := [(0, r4.1)]) rfl (S235 (Nat.le_trans (by decide) hd) v4 r3.2 _ q8) ?_
        obtain ⟨r5, q9, e⟩ := zB_s e
        refine zF_blk (m := []) (d := 0) (b := B252_20) (gs := []) (c' := (120, [some (22, 0), some (0, v1), some (0, v2), some (0, v3), some (0, v4), some (0, v5), some (0, v6), some (0, v7), some (0, r3.1), none], [(0, 5), (0, r3.1), (22, 0)], (hc, r4.2, o))) K252_20 rfl trivial ?_
        refine zF_call (k := 213) (cl := 12) (n := 3) (i := .invokevirtual 247) (args := [(22, 0), (0, r3.1), (0, 5)]) (rest := []) (g1 := (hc, r4.2, o)) (r1 := some (0, r5)) (by decide +kernel) rfl rfl rfl (st' := [(0, r5)]) rfl (S213 (Nat.le_trans (by decide) hd) r3.1 5 r4.2 _ q9) ?_
        rcases zI_s e with ⟨q10, e⟩ | ⟨q10, e⟩
        · refine zF_blk (m := []) (d := 1) (b := B252_23) (gs := [¬ r5 = (wshl 1 v2)]) (c' := (133, [some (22, 0), some (0, v1), some (0, v2), some (0, v3), some (0, v4), some (0, v5), some (0, v6), some (0, v7), some (0, r3.1), none], [], (hc, r4.2, o))) K252_23 rfl ⟨q10, trivial⟩ ?_
          refine zF_blk (m := []) (d := 0) (b := B252_21) (gs := []) (c' := (134, [some (22, 0), some (0, v1), some (0, v2), some (0, v3), some (0, v4), some (0, v5), some (0, v6), some (0, v7), some (0, r3.1), none], [(0, 0)], (hc, r4.2, o))) K252_21 rfl trivial ?_
          refine zF_blk (m := [true, true, true, true, true, true, true, true, false, false]) (d := 0) (b := []) (gs := []) (c' := (134, [some (22, 0), some (0, v1), some (0, v2), some (0, v3), some (0, v4), some (0, v5), some (0, v6), some (0, v7), none, none], [(0, 0)], (hc, r4.2, o))) rfl rfl trivial ?_
          exact T252_1 hd (F252_0 n) hk0 v1 v2 v3 v4 v5 v6 v7 0 r4.2 _ e
        · refine zF_blk (m := []) (d := 0) (b := B252_23) (gs := [¬ (¬ r5 = (wshl 1 v2))]) (c' := (129, [some (22, 0), some (0, v1), some (0, v2), some (0, v3), some (0, v4), some (0, v5), some (0, v6), some (0, v7), some (0, r3.1), none], [], (hc, r4.2, o))) K252_23 rfl ⟨q10, trivial⟩ ?_
          refine zF_blk (m := []) (d := 0) (b := B252_22) (gs := []) (c' := (134, [some (22, 0), some (0, v1), some (0, v2), some (0, v3), some (0, v4), some (0, v5), some (0, v6), some (0, v7), some (0, r3.1), none], [(0, 1)], (hc, r4.2, o))) K252_22 rfl trivial ?_
          refine zF_blk (m := [true, true, true, true, true, true, true, true, false, false]) (d := 0) (b := []) (gs := []) (c' := (134, [some (22, 0), some (0, v1), some (0, v2), some (0, v3), some (0, v4), some (0, v5), some (0, v6), some (0, v7), none, none], [(0, 1)], (hc, r4.2, o))) rfl rfl trivial ?_
          exact T252_1 hd (F252_0 n) hk0 v1 v2 v3 v4 v5 v6 v7 1 r4.2 _ e
      · refine zF_blk (m := []) (d := 0) (b := B252_25) (gs := [¬ (¬ r1 = 0)]) (c' := (81, [some (22, 0), some (0, v1), some (0, v2), some (0, v3), some (0, v4), some (0, v5), some (0, v6), some (0, v7), none, none], [], (hc, h, o))) K252_25 rfl ⟨q4, trivial⟩ ?_
        refine zF_blk (m := []) (d := 0) (b := B252_24) (gs := []) (c' := (161, [some (22, 0), some (0, v1), some (0, v2), some (0, v3), some (0, v4), some (0, v5), some (0, v6), some (0, v7), none, none], [], (hc, h, o))) K252_24 rfl trivial ?_
        exact T252_2 hd (F252_0 n) hk0 v1 v2 v3 v4 v5 v6 v7 h _ e
/-- EchoValeModel.tells(IIIII)I -/
def F252 (v1 : Int) (v2 : Int) (v3 : Int) (v4 : Int) (v5 : Int) (h : zHM) : Option (Int × zHM) := (F210 v1 (mset h 0 0 0)).bind fun r1 => if r1 = 0 then some ((-1), (mset h 0 0 0)) else (F210 v2 (mset h 0 0 0)).bind fun r2 => if r2 = 0 then some ((-1), (mset h 0 0 0)) else if v1 = v2 then some ((-1), (mset h 0 0 0)) else (F188 v3 1 9).bind fun r3 => if r3 = 0 then some ((-1), (mset h 0 0 0)) else (F242 v4).bind fun r4 => if r4 = 0 then some ((-1), (mset h 0 0 0)) else if ¬ ((mset h 0 0 0) 14 216) = 30 then F252_0 zFu v1 v2 v3 v4 v5 0 0 (mset h 0 0 0) else some ((-1), (mset h 0 0 0))
set_option maxRecDepth 100000 in
theorem S252 {spec : zRn zH2} {hc : zHC} {o : Int → Int} {d : Nat} (hd : 7 ≤ d) (v1 : Int) (v2 : Int) (v3 : Int) (v4 : Int) (v5 : Int) (h : zHM) (v : (Int × zHM)) (e : F252 v1 v2 v3 v4 v5 h = some v) : zRu2 spec d 252 [(22, 0), (0, v1), (0, v2), (0, v3), (0, v4), (0, v5)] (hc, h, o) (some (0, v.1)) (hc, v.2, o) := by
  refine zF_in (D := 6) (mx := 10) (L := [some (22, 0), some (0, v1), some (0, v2), some (0, v3), some (0, v4), some (0, v5), none, none, none, none]) (by decide +kernel) rfl rfl hd (fun d hd => ?_)
  unfold F252 at e
  obtain ⟨r1, q1, e⟩ := zB_s e
  refine zF_blk (m := []) (d := 0) (b := B252_0) (gs := []) (c' := (7, [some (22, 0), some (0, v1), some (0, v2), some (0, v3), some (0, v4), some (0, v5), none, none, none, none], [(0, v1), (22, 0)], (hc, (mset h 0 0 0), o))) K252_0 rfl trivial ?_
  refine zF_call (k := 210) (cl := 12) (n := 2) (i := .invokevirtual 260) (args := [(22, 0), (0, v1)]) (rest := []) (g1 := (hc, (mset h 0 0 0), o)) (r1 := some (0, r1)) (by decide +kernel) rfl rfl rfl (st' := [(0, r1)]) rfl (S210 (Nat.le_trans (by decide) hd) v1 (mset h 0 0 0) _ q1) ?_
  rcases zI_s e with ⟨q2, e⟩ | ⟨q2, e⟩
  · refine zF_blk (m := []) (d := 1) (b := B252_11) (gs := [r1 = 0]) (c' := (57, [some (22, 0), some (0, v1), some (0, v2), some (0, v3), some (0, v4), some (0, v5), none, none, none, none], [], (hc, (mset h 0 0 0), o))) K252_11 rfl ⟨q2, trivial⟩ ?_
    refine zF_blk (m := []) (d := 0) (b := B252_1) (gs := []) (c' := (58, [some (22, 0), some (0, v1), some (0, v2), some (0, v3), some (0, v4), some (0, v5), none, none, none, none], [(0, (-1))], (hc, (mset h 0 0 0), o))) K252_1 rfl trivial ?_
    exact zF_riM (by decide +kernel) e
  · refine zF_blk (m := []) (d := 0) (b := B252_11) (gs := [¬ (r1 = 0)]) (c' := (13, [some (22, 0), some (0, v1), some (0, v2), some (0, v3), some (0, v4), some (0, v5), none, none, none, none], [], (hc, (mset h 0 0 0), o))) K252_11 rfl ⟨q2, trivial⟩ ?_
    obtain ⟨r2, q3, e⟩ := zB_s e
    refine zF_blk (m := []) (d := 0) (b := B252_2) (gs := []) (c' := (15, [some (22, 0), some (0, v1), some (0, v2), some (0, v3), some (0, v4), some (0, v5), none, none, none, none], [(0, v2), (22, 0)], (hc, (mset h 0 0 0), o))) K252_2 rfl trivial ?_
    refine zF_call (k := 210) (cl := 12) (n := 2) (i := .invokevirtual 260) (args := [(22, 0), (0, v2)]) (rest := []) (g1 := (hc, (mset h 0 0 0), o)) (r1 := some (0, r2)) (by decide +kernel) rfl rfl rfl (st' := [(0, r2)]) rfl (S210 (Nat.le_trans (by decide) hd) v2 (mset h 0 0 0) _ q3) ?_
    rcases zI_s e with ⟨q4, e⟩ | ⟨q4, e⟩
    · refine zF_blk (m := []) (d := 1) (b := B252_10) (gs := [r2 = 0]) (c' := (57, [some (22, 0), some (0, v1), some (0, v2), some (0, v3), some (0, v4), some (0, v5), none, none, none, none], [], (hc, (mset h 0 0 0), o))) K252_10 rfl ⟨q4, trivial⟩ ?_
      refine zF_blk (m := []) (d := 0) (b := B252_1) (gs := []) (c' := (58, [some (22, 0), some (0, v1), some (0, v2), some (0, v3), some (0, v4), some (0, v5), none, none, none, none], [(0, (-1))], (hc, (mset h 0 0 0), o))) K252_1 rfl trivial ?_
      exact zF_riM (by decide +kernel) e
    · refine zF_blk (m := []) (d := 0) (b := B252_10) (gs := [¬ (r2 = 0)]) (c' := (21, [some (22, 0), some (0, v1), some (0, v2), some (0, v3), some (0, v4), some (0, v5), none, none, none, none], [], (hc, (mset h 0 0 0), o))) K252_10 rfl ⟨q4, trivial⟩ ?_
      rcases zI_s e with ⟨q5, e⟩ | ⟨q5, e⟩
      · refine zF_blk (m := []) (d := 1) (b := B252_9) (gs := [v1 = v2]) (c' := (57, [some (22, 0), some (0, v1), some (0, v2), some (0, v3), some (0, v4), some (0, v5), none, none, none, none], [], (hc, (mset h 0 0 0), o))) K252_9 rfl ⟨q5, trivial⟩ ?_
        refine zF_blk (m := []) (d := 0) (b := B252_1) (gs := []) (c' := (58, [some (22, 0), some (0, v1), some (0, v2), some (0, v3), some (0, v4), some (0, v5), none, none, none, none], [(0, (-1))], (hc, (mset h 0 0 0), o))) K252_1 rfl trivial ?_
        exact zF_riM (by decide +kernel) e
      · refine zF_blk (m := []) (d := 0) (b := B252_9) (gs := [¬ (v1 = v2)]) (c' := (26, [some (22, 0), some (0, v1), some (0, v2), some (0, v3), some (0, v4), some (0, v5), none, none, none, none], [], (hc, (mset h 0 0 0), o))) K252_9 rfl ⟨q5, trivial⟩ ?_
        obtain ⟨r3, q6, e⟩ := zB_s e
        refine zF_blk (m := []) (d := 0) (b := B252_3) (gs := []) (c' := (30, [some (22, 0), some (0, v1), some (0, v2), some (0, v3), some (0, v4), some (0, v5), none, none, none, none], [(0, 9), (0, 1), (0, v3)], (hc, (mset h 0 0 0), o))) K252_3 rfl trivial ?_
        refine zF_call (k := 188) (cl := 12) (n := 3) (i := .invokestatic 151) (args := [(0, v3), (0, 1), (0, 9)]) (rest := []) (g1 := (hc, (mset h 0 0 0), o)) (r1 := some (0, r3)) (by decide +kernel) rfl rfl rfl (st' := [(0, r3)]) rfl (S188 (Nat.le_trans (by decide) hd) v3 1 9 (mset h 0 0 0) _ q6) ?_
        rcases zI_s e with ⟨q7, e⟩ | ⟨q7, e⟩
        · refine zF_blk (m := []) (d := 1) (b := B252_8) (gs := [r3 = 0]) (c' := (57, [some (22, 0), some (0, v1), some (0, v2), some (0, v3), some (0, v4), some (0, v5), none, none, none, none], [], (hc, (mset h 0 0 0), o))) K252_8 rfl ⟨q7, trivial⟩ ?_
          refine zF_blk (m := []) (d := 0) (b := B252_1) (gs := []) (c' := (58, [some (22, 0), some (0, v1), some (0, v2), some (0, v3), some (0, v4), some (0, v5), none, none, none, none], [(0, (-1))], (hc, (mset h 0 0 0), o))) K252_1 rfl trivial ?_
          exact zF_riM (by decide +kernel) e
        · refine zF_blk (m := []) (d := 0) (b := B252_8) (gs := [¬ (r3 = 0)]) (c' := (36, [some (22, 0), some (0, v1), some (0, v2), some (0, v3), some (0, v4), some (0, v5), none, none, none, none], [], (hc, (mset h 0 0 0), o))) K252_8 rfl ⟨q7, trivial⟩ ?_
          obtain ⟨r4, q8, e⟩ := zB_s e
          refine zF_blk (m := []) (d := 0) (b := B252_4) (gs := []) (c' := (38, [some (22, 0), some (0, v1), some (0, v2), some (0, v3), some (0, v4), some (0, v5), none, none, none, none], [(0, v4)], (hc, (mset h 0 0 0), o))) K252_4 rfl trivial ?_
          refine zF_call (k := 242) (cl := 12) (n := 1) (i := .invokestatic 323) (args := [(0, v4)]) (rest := []) (g1 := (hc, (mset h 0 0 0), o)) (r1 := some (0, r4)) (by decide +kernel) rfl rfl rfl (st' := [(0, r4)]) rfl (S242 (Nat.le_trans (by decide) hd) v4 (mset h 0 0 0) _ q8) ?_
          rcases zI_s e with ⟨q9, e⟩ | ⟨q9, e⟩
          · refine zF_blk (m := []) (d := 1) (b := B252_7) (gs := [r4 = 0]) (c' := (57, [some (22, 0), some (0, v1), some (0, v2), some (0, v3), some (0, v4), some (0, v5), none, none, none, none], [], (hc, (mset h 0 0 0), o))) K252_7 rfl ⟨q9, trivial⟩ ?_
            refine zF_blk (m := []) (d := 0) (b := B252_1) (gs := []) (c' := (58, [some (22, 0), some (0, v1), some (0, v2), some (0, v3), some (0, v4), some (0, v5), none, none, none, none], [(0, (-1))], (hc, (mset h 0 0 0), o))) K252_1 rfl trivial ?_
            exact zF_riM (by decide +kernel) e
          · refine zF_blk (m := []) (d := 0) (b := B252_7) (gs := [¬ (r4 = 0)]) (c' := (44, [some (22, 0), some (0, v1), some (0, v2), some (0, v3), some (0, v4), some (0, v5), none, none, none, none], [], (hc, (mset h 0 0 0), o))) K252_7 rfl ⟨q9, trivial⟩ ?_
            rcases zI_s e with ⟨q10, e⟩ | ⟨q10, e⟩
            · refine zF_blk (m := []) (d := 1) (b := B252_6) (gs := [0 ≤ 216 ∧ 216 < 2140, ¬ ((mset h 0 0 0) 14 216) = 30]) (c' := (59, [some (22, 0), some (0, v1), some (0, v2), some (0, v3), some (0, v4), some (0, v5), none, none, none, none], [], (hc, (mset h 0 0 0), o))) K252_6 rfl ⟨by decide, q10, trivial⟩ ?_
              refine zF_blk (m := []) (d := 0) (b := B252_5) (gs := []) (c' := (65, [some (22, 0), some (0, v1), some (0, v2), some (0, v3), some (0, v4), some (0, v5), some (0, 0), some (0, 0), none, none], [], (hc, (mset h 0 0 0), o))) K252_5 rfl trivial ?_
              exact T252_0 hd zFu v1 v2 v3 v4 v5 0 0 (mset h 0 0 0) _ e
            · refine zF_blk (m := []) (d := 0) (b := B252_6) (gs := [0 ≤ 216 ∧ 216 < 2140, ¬ (¬ ((mset h 0 0 0) 14 216) = 30)]) (c' := (57, [some (22, 0), some (0, v1), some (0, v2), some (0, v3), some (0, v4), some (0, v5), none, none, none, none], [], (hc, (mset h 0 0 0), o))) K252_6 rfl ⟨by decide, q10, trivial⟩ ?_
              refine zF_blk (m := []) (d := 0) (b := B252_1) (gs := []) (c' := (58, [some (22, 0), some (0, v1), some (0, v2), some (0, v3), some (0, v4), some (0, v5), none, none, none, none], [(0, (-1))], (hc, (mset h 0 0 0), o))) K252_1 rfl trivial ?_
              exact zF_riM (by decide +kernel) e
def B112_0 : List zRow := [(0, .aload_n 0, 1, (0, 0, 0)), (1, .iload_n 1, 1, (0, 0, 0))]
theorem K112_0 : zRk 112 B112_0 = true := by decide +kernel
def B112_1 : List zRow := [(25, .iconst (-1), 1, (0, 0, 0))]
theorem K112_1 : zRk 112 B112_1 = true := by decide +kernel
def B112_2 : List zRow := [(8, .iload_n 2, 1, (0, 0, 0))]
theorem K112_2 : zRk 112 B112_2 = true := by decide +kernel
def B112_3 : List zRow := [(15, .aload_n 0, 1, (0, 0, 0)), (16, .getfield 56, 3, (11, 6, 7))]
theorem K112_3 : zRk 112 B112_3 = true := by decide +kernel
def B112_4 : List zRow := [(27, .bipush 9, 2, (0, 0, 0)), (29, .istore_n 3, 1, (0, 0, 0))]
theorem K112_4 : zRk 112 B112_4 = true := by decide +kernel
def B112_5 : List zRow := [(22, .ifCond .eq 5, 3, (0, 0, 0))]
theorem K112_5 : zRk 112 B112_5 = true := by decide +kernel
def B112_6 : List zRow := [(12, .ifCond .eq 13, 3, (0, 0, 0))]
theorem K112_6 : zRk 112 B112_6 = true := by decide +kernel
def B112_7 : List zRow := [(5, .ifCond .eq 20, 3, (0, 0, 0))]
theorem K112_7 : zRk 112 B112_7 = true := by decide +kernel
def B112_8 : List zRow := [(71, .iconst 0, 1, (0, 0, 0))]
theorem K112_8 : zRk 112 B112_8 = true := by decide +kernel
def B112_9 : List zRow := [(34, .aload_n 0, 1, (0, 0, 0)), (35, .iload_n 1, 1, (0, 0, 0)), (36, .aload_n 0, 1, (0, 0, 0)), (37, .getfield 56, 3, (11, 6, 7)), (40, .getfield 177, 3, (1, 3, 5242906)), (43, .iload_n 1, 1, (0, 0, 0)), (44, .iaload, 1, (0, 0, 0)), (45, .iload_n 3, 1, (0, 0, 0)), (46, .iload_n 2, 1, (0, 0, 0))]
theorem K112_9 : zRk 112 B112_9 = true := by decide +kernel
def B112_10 : List zRow := [(50, .aload_n 0, 1, (0, 0, 0)), (51, .getfield 60, 3, (11, 7, 135)), (54, .iconst 0, 1, (0, 0, 0)), (55, .bipush 7, 2, (0, 0, 0))]
theorem K112_10 : zRk 112 B112_10 = true := by decide +kernel
def B112_11 : List zRow := [(65, .iinc 3 (-1), 3, (0, 0, 0)), (68, .goto (-38), 3, (0, 0, 0))]
theorem K112_11 : zRk 112 B112_11 = true := by decide +kernel
def B112_12 : List zRow := [(63, .iload_n 3, 1, (0, 0, 0))]
theorem K112_12 : zRk 112 B112_12 = true := by decide +kernel
def B112_13 : List zRow := [(60, .ifCond .ne 5, 3, (0, 0, 0))]
theorem K112_13 : zRk 112 B112_13 = true := by decide +kernel
def B112_14 : List zRow := [(30, .iload_n 3, 1, (0, 0, 0)), (31, .ifCond .le 40, 3, (0, 0, 0))]
theorem K112_14 : zRk 112 B112_14 = true := by decide +kernel
def F112_0 : Nat → Int → Int → Int → zHC → Option (Int × zHC)
  | 0, _, _, _, _ => none
  | n + 1, v1, v2, v3, h => if v3 ≤ 0 then some (0, h) else zG (0 ≤ v1 ∧ v1 < 6) ((F111 v1 (h 67 0 v1) v3 v2 h).bind fun r1 => (F63b 0 7 r1).bind fun r2 => if ¬ r2 = 0 then (F112_0 n) v1 v2 (wadd v3 (-1)) r1 else some (v3, r1))
set_option maxRecDepth 100000 in
theorem T112_0 {spec : zRn zH2} {hm : zHM} {o : Int → Int} {d : Nat} (hd : 7 ≤ d) : ∀ (n : Nat) (v1 : Int) (v2 : Int) (v3 : Int) (h : zHC) (v : (Int × zHC)), F112_0 n v1 v2 v3 h = some v → zFin 0 (fun _ => 0) (zRu2 spec d) 112 (some (0, v.1)) (v.2, hm, o) (30, [some (21, 0), some (0, v1), some (0, v2), some (0, v3)], [], (h, hm, o)) := by
  intro n
  induction n with
  | zero => intro v1 v2 v3 h v e; unfold F112_0 at e; cases e
  | succ n hk0 =>
    intro v1 v2 v3 h v e
    unfold F112_0 at e
    rcases zI_s e with ⟨q1, e⟩ | ⟨q1, e⟩
    · refine zF_blk (m := []) (d := 1) (b := B112_14) (gs := [v3 ≤ 0]) (c' := (71, [some (21, 0), some (0, v1), some (0, v2), some (0, v3)], [], (h, hm, o))) K112_14 rfl ⟨q1, trivial⟩ ?_
      refine zF_blk (m := []) (d := 0) (b := B112_8) (gs := []) (c' := (72, [some (21, 0), some (0, v1), some (0, v2), some (0, v3)], [(0, 0)], (h, hm, o))) K112_8 rfl trivial ?_
      exact zF_riC (by decide +kernel) e
    · refine zF_blk (m := []) (d := 0) (b := B112_14) (gs := [¬ (v3 ≤ 0)]) (c' := (34, [some (21, 0), some (0, v1), some (0, v2), some (0, v3)], [], (h, hm, o))) K112_14 rfl ⟨q1, trivial⟩ ?_
      obtain ⟨q2, e⟩ := zG_s e
      obtain ⟨r1, q3, e⟩ := zB_s e
      refine zF_blk (m := []) (d := 0) (b := B112_9) (gs := [0 ≤ v1 ∧ v1 < 6]) (c' := (47, [some (21, 0), some (0, v1), some (0, v2), some (0, v3)], [(0, v2), (0, v3), (0, (h 67 0 v1)), (0, v1), (21, 0)], (h, hm, o))) K112_9 rfl ⟨q2, trivial⟩ ?_
      refine zF_call (k := 111) (cl := 11) (n := 5) (i := .invokevirtual 262) (args := [(21, 0), (0, v1), (0, (h 67 0 v1)), (0, v3), (0, v2)]) (rest := []) (g1 := (r1, hm, o)) (r1 := none) (by decide +kernel) rfl rfl rfl (st' := []) rfl (S111 (Nat.le_trans (by decide) hd) v1 (h 67 0 v1) v3 v2 h _ q3) ?_
      obtain ⟨r2, q4, e⟩ := zB_s e
      refine zF_blk (m := []) (d := 0) (b := B112_10) (gs := []) (c' := (57, [some (21, 0), some (0, v1), some (0, v2), some (0, v3)], [(0, 7), (0, 0), (11, 1)], (r1, hm, o))) K112_10 rfl trivial ?_
      refine zF_call (k := 63) (cl := 1) (n := 3) (i := .invokevirtual 196) (args := [(11, 1), (0, 0), (0, 7)]) (rest := []) (g1 := (r1, hm, o)) (r1 := some (0, r2)) (by decide +kernel) rfl rfl rfl (st' := [(0, r2)]) rfl (S63b (Nat.le_trans (by decide) hd) 0 7 r1 _ q4) ?_
      rcases zI_s e with ⟨q5, e⟩ | ⟨q5, e⟩
      · refine zF_blk (m := []) (d := 1) (b := B112_13) (gs := [¬ r2 = 0]) (c' := (65, [some (21, 0), some (0, v1), some (0, v2), some (0, v3)], [], (r1, hm, o))) K112_13 rfl ⟨q5, trivial⟩ ?_
        refine zF_blk (m := []) (d := 0) (b := B112_11) (gs := []) (c' := (30, [some (21, 0), some (0, v1), some (0, v2), some (0, (wadd v3 (-1)))], [], (r1, hm, o))) K112_11 rfl trivial ?_
        exact hk0 v1 v2 (wadd v3 (-1)) r1 _ e
      · refine zF_blk (m := []) (d := 0) (b := B112_13) (gs := [¬ (¬ r2 = 0)]) (c' := (63, [some (21, 0), some (0, v1), some (0, v2), some (0, v3)], [], (r1, hm, o))) K112_13 rfl ⟨q5, trivial⟩ ?_
        refine zF_blk (m := []) (d := 0) (b := B112_12) (gs := []) (c' := (64, [some (21, 0), some (0, v1), some (0, v2), some (0, v3)], [(0, v3)], (r1, hm, o))) K112_12 rfl trivial ?_
        exact zF_riC (by decide +kernel) e
/-- EchoVale.secret(II)I -/
def F112 (v1 : Int) (v2 : Int) (h : zHC) : Option (Int × zHC) := (F61 v1 h).bind fun r1 => if r1 = 0 then some ((-1), h) else (F99 v2).bind fun r2 => if r2 = 0 then some ((-1), h) else (F75 h).bind fun r3 => if r3 = 0 then F112_0 zFu v1 v2 9 h else some ((-1), h)
set_option maxRecDepth 100000 in
theorem S112 {spec : zRn zH2} {hm : zHM} {o : Int → Int} {d : Nat} (hd : 8 ≤ d) (v1 : Int) (v2 : Int) (h : zHC) (v : (Int × zHC)) (e : F112 v1 v2 h = some v) : zRu2 spec d 112 [(21, 0), (0, v1), (0, v2)] (h, hm, o) (some (0, v.1)) (v.2, hm, o) := by
  refine zF_in (D := 7) (mx := 4) (L := [some (21, 0), some (0, v1), some (0, v2), none]) (by decide +kernel) rfl rfl hd (fun d hd => ?_)
  unfold F112 at e
  obtain ⟨r1, q1, e⟩ := zB_s e
  refine zF_blk (m := []) (d := 0) (b := B112_0) (gs := []) (c' := (2, [some (21, 0), some (0, v1), some (0, v2), none], [(0, v1), (21, 0)], (h, hm, o))) K112_0 rfl trivial ?_
  refine zF_call (k := 61) (cl := 11) (n := 2) (i := .invokevirtual 172) (args := [(21, 0), (0, v1)]) (rest := []) (g1 := (h, hm, o)) (r1 := some (0, r1)) (by decide +kernel) rfl rfl rfl (st' := [(0, r1)]) rfl (S61 (Nat.le_trans (by decide) hd) v1 h _ q1) ?_
  rcases zI_s e with ⟨q2, e⟩ | ⟨q2, e⟩
  · refine zF_blk (m := []) (d := 1) (b := B112_7) (gs := [r1 = 0]) (c' := (25, [some (21, 0), some (0, v1), some (0, v2), none], [], (h, hm, o))) K112_7 rfl ⟨q2, trivial⟩ ?_
    refine zF_blk (m := []) (d := 0) (b := B112_1) (gs := []) (c' := (26, [some (21, 0), some (0, v1), some (0, v2), none], [(0, (-1))], (h, hm, o))) K112_1 rfl trivial ?_
    exact zF_riC (by decide +kernel) e
  · refine zF_blk (m := []) (d := 0) (b := B112_7) (gs := [¬ (r1 = 0)]) (c' := (8, [some (21, 0), some (0, v1), some (0, v2), none], [], (h, hm, o))) K112_7 rfl ⟨q2, trivial⟩ ?_
    obtain ⟨r2, q3, e⟩ := zB_s e
    refine zF_blk (m := []) (d := 0) (b := B112_2) (gs := []) (c' := (9, [some (21, 0), some (0, v1), some (0, v2), none], [(0, v2)], (h, hm, o))) K112_2 rfl trivial ?_
    refine zF_call (k := 99) (cl := 11) (n := 1) (i := .invokestatic 242) (args := [(0, v2)]) (rest := []) (g1 := (h, hm, o)) (r1 := some (0, r2)) (by decide +kernel) rfl rfl rfl (st' := [(0, r2)]) rfl (S99 (Nat.le_trans (by decide) hd) v2 h _ q3) ?_
    rcases zI_s e with ⟨q4, e⟩ | ⟨q4, e⟩
    · refine zF_blk (m := []) (d := 1) (b := B112_6) (gs := [r2 = 0]) (c' := (25, [some (21, 0), some (0, v1), some (0, v2), none], [], (h, hm, o))) K112_6 rfl ⟨q4, trivial⟩ ?_
      refine zF_blk (m := []) (d := 0) (b := B112_1) (gs := []) (c' := (26, [some (21, 0), some (0, v1), some (0, v2), none], [(0, (-1))], (h, hm, o))) K112_1 rfl trivial ?_
      exact zF_riC (by decide +kernel) e
    · refine zF_blk (m := []) (d := 0) (b := B112_6) (gs := [¬ (r2 = 0)]) (c' := (15, [some (21, 0), some (0, v1), some (0, v2), none], [], (h, hm, o))) K112_6 rfl ⟨q4, trivial⟩ ?_
      obtain ⟨r3, q5, e⟩ := zB_s e
      refine zF_blk (m := []) (d := 0) (b := B112_3) (gs := []) (c' := (19, [some (21, 0), some (0, v1), some (0, v2), none], [(11, 0)], (h, hm, o))) K112_3 rfl trivial ?_
      refine zF_call (k := 75) (cl := 1) (n := 1) (i := .invokevirtual 224) (args := [(11, 0)]) (rest := []) (g1 := (h, hm, o)) (r1 := some (0, r3)) (by decide +kernel) rfl rfl rfl (st' := [(0, r3)]) rfl (S75 (Nat.le_trans (by decide) hd)  h _ q5) ?_
      rcases zI_s e with ⟨q6, e⟩ | ⟨q6, e⟩
      · refine zF_blk (m := []) (d := 1) (b := B112_5) (gs := [r3 = 0]) (c' := (27, [some (21, 0), some (0, v1), some (0, v2), none], [], (h, hm, o))) K112_5 rfl ⟨q6, trivial⟩ ?_
        refine zF_blk (m := []) (d := 0) (b := B112_4) (gs := []) (c' := (30, [some (21, 0), some (0, v1), some (0, v2), some (0, 9)], [], (h, hm, o))) K112_4 rfl trivial ?_
        exact T112_0 hd zFu v1 v2 9 h _ e
      · refine zF_blk (m := []) (d := 0) (b := B112_5) (gs := [¬ (r3 = 0)]) (c' := (25, [some (21, 0), some (0, v1), some (0, v2), none], [], (h, hm, o))) K112_5 rfl ⟨q6, trivial⟩ ?_
        refine zF_blk (m := []) (d := 0) (b := B112_1) (gs := []) (c' := (26, [some (21, 0), some (0, v1), some (0, v2), none], [(0, (-1))], (h, hm, o))) K112_1 rfl trivial ?_
        exact zF_riC (by decide +kernel) e
def B253_0 : List zRow := [(0, .aload_n 0, 1, (0, 0, 0)), (1, .iconst 0, 1, (0, 0, 0)), (2, .putfield 81, 3, (12, 0, 0)), (5, .aload_n 0, 1, (0, 0, 0)), (6, .iload_n 1, 1, (0, 0, 0))]
theorem K253_0 : zRk 253 B253_0 = true := by decide +kernel
def B253_1 : List zRow := [(33, .iconst (-1), 1, (0, 0, 0))]
theorem K253_1 : zRk 253 B253_1 = true := by decide +kernel
def B253_2 : List zRow := [(13, .iload_n 2, 1, (0, 0, 0))]
theorem K253_2 : zRk 253 B253_2 = true := by decide +kernel
def B253_3 : List zRow := [(35, .bipush 9, 2, (0, 0, 0)), (37, .istore_n 3, 1, (0, 0, 0))]
theorem K253_3 : zRk 253 B253_3 = true := by decide +kernel
def B253_4 : List zRow := [(20, .aload_n 0, 1, (0, 0, 0)), (21, .getfield 13, 3, (12, 14, 5251442)), (24, .sipush 216, 3, (0, 0, 0)), (27, .iaload, 1, (0, 0, 0)), (28, .bipush 30, 2, (0, 0, 0)), (30, .if_icmp .ne 5, 3, (0, 0, 0))]
theorem K253_4 : zRk 253 B253_4 = true := by decide +kernel
def B253_5 : List zRow := [(17, .ifCond .eq 16, 3, (0, 0, 0))]
theorem K253_5 : zRk 253 B253_5 = true := by decide +kernel
def B253_6 : List zRow := [(10, .ifCond .eq 23, 3, (0, 0, 0))]
theorem K253_6 : zRk 253 B253_6 = true := by decide +kernel
def B253_7 : List zRow := [(96, .iconst 0, 1, (0, 0, 0))]
theorem K253_7 : zRk 253 B253_7 = true := by decide +kernel
def B253_8 : List zRow := [(42, .aload_n 0, 1, (0, 0, 0))]
theorem K253_8 : zRk 253 B253_8 = true := by decide +kernel
def B253_9 : List zRow := [(46, .aload_n 0, 1, (0, 0, 0)), (47, .iload_n 1, 1, (0, 0, 0)), (48, .iconst 1, 1, (0, 0, 0)), (49, .iload_n 3, 1, (0, 0, 0))]
theorem K253_9 : zRk 253 B253_9 = true := by decide +kernel
def B253_10 : List zRow := [(53, .istore 4, 2, (0, 0, 0)), (55, .aload_n 0, 1, (0, 0, 0)), (56, .iload_n 2, 1, (0, 0, 0))]
theorem K253_10 : zRk 253 B253_10 = true := by decide +kernel
def B253_11 : List zRow := [(60, .pop, 1, (0, 0, 0)), (61, .aload_n 0, 1, (0, 0, 0)), (62, .iload 4, 2, (0, 0, 0)), (64, .bipush 7, 2, (0, 0, 0))]
theorem K253_11 : zRk 253 B253_11 = true := by decide +kernel
def B253_12 : List zRow := [(76, .iconst 0, 1, (0, 0, 0))]
theorem K253_12 : zRk 253 B253_12 = true := by decide +kernel
def B253_13 : List zRow := [(72, .iconst 1, 1, (0, 0, 0)), (73, .goto 4, 3, (0, 0, 0))]
theorem K253_13 : zRk 253 B253_13 = true := by decide +kernel
def B253_14 : List zRow := [(69, .ifCond .ne 7, 3, (0, 0, 0))]
theorem K253_14 : zRk 253 B253_14 = true := by decide +kernel
def B253_15 : List zRow := [(38, .iload_n 3, 1, (0, 0, 0)), (39, .ifCond .le 57, 3, (0, 0, 0))]
theorem K253_15 : zRk 253 B253_15 = true := by decide +kernel
def B253_16 : List zRow := [(77, .istore 5, 2, (0, 0, 0)), (79, .aload_n 0, 1, (0, 0, 0))]
theorem K253_16 : zRk 253 B253_16 = true := by decide +kernel
def B253_17 : List zRow := [(90, .iinc 3 (-1), 3, (0, 0, 0)), (93, .goto (-55), 3, (0, 0, 0))]
theorem K253_17 : zRk 253 B253_17 = true := by decide +kernel
def B253_18 : List zRow := [(88, .iload_n 3, 1, (0, 0, 0))]
theorem K253_18 : zRk 253 B253_18 = true := by decide +kernel
def B253_19 : List zRow := [(83, .iload 5, 2, (0, 0, 0)), (85, .ifCond .eq 5, 3, (0, 0, 0))]
theorem K253_19 : zRk 253 B253_19 = true := by decide +kernel
def F253_1 (k0 : Int → Int → Int → zHM → Option (Int × zHM)) (v1 : Int) (v2 : Int) (v3 : Int) (s0 : Int) (h : zHM) : Option (Int × zHM) := (F245 h).bind fun r1 => if s0 = 0 then k0 v1 v2 (wadd v3 (-1)) r1 else some (v3, r1)
set_option maxRecDepth 100000 in
theorem T253_1 {spec : zRn zH2} {hc : zHC} {o : Int → Int} {d : Nat} (hd : 6 ≤ d) (k0 : Int → Int → Int → zHM → Option (Int × zHM)) (hk0 : ∀ (v1 : Int) (v2 : Int) (v3 : Int) (h : zHM) (v : (Int × zHM)), k0 v1 v2 v3 h = some v → zFin 0 (fun _ => 0) (zRu2 spec d) 253 (some (0, v.1)) (hc, v.2, o) (38, [some (22, 0), some (0, v1), some (0, v2), some (0, v3), none, none], [], (hc, h, o))) (v1 : Int) (v2 : Int) (v3 : Int) (s0 : Int) (h : zHM) (v : (Int × zHM)) (e : F253_1 k0 v1 v2 v3 s0 h = some v) : zFin 0 (fun _ => 0) (zRu2 spec d) 253 (some (0, v.1)) (hc, v.2, o) (77, [some (22, 0), some (0, v1), some (0, v2), some (0, v3), none, none], [(0, s0)], (hc, h, o)) := by
  unfold F253_1 at e
  obtain ⟨r1, q1, e⟩ := zB_s e
  refine zF_blk (m := []) (d := 0) (b := B253_16) (gs := []) (c' := (80, [some (22, 0), some (0, v1), some (0, v2), some (0, v3), none, some (0, s0)], [(22, 0)], (hc, h, o))) K253_16 rfl trivial ?_
  refine zF_call (k := 245) (cl := 12) (n := 1) (i := .invokevirtual 320) (args := [(22, 0)]) (rest := []) (g1 := (hc, r1, o)) (r1 := none) (by decide +kernel) rfl rfl rfl (st' := []) rfl (S245 (Nat.le_trans (by decide) hd)  h _ q1) ?_
  rcases zI_s e with ⟨q2, e⟩ | ⟨q2, e⟩
  · refine zF_blk (m := []) (d := 1) (b := B253_19) (gs := [s0 = 0]) (c' := (90, [some (22, 0), some (0, v1), some (0, v2), some (0, v3), none, some (0, s0)], [], (hc, r1, o))) K253_19 rfl ⟨q2, trivial⟩ ?_
    refine zF_blk (m := []) (d := 0) (b := B253_17) (gs := []) (c' := (38, [some (22, 0), some (0, v1), some (0, v2), some (0, (wadd v3 (-1))), none, some (0, s0)], [], (hc, r1, o))) K253_17 rfl trivial ?_
    refine zF_blk (m := [true, true, true, true, false, false]) (d := 0) (b := []) (gs := []) (c' := (38, [some (22, 0), some (0, v1), some (0, v2), some (0, (wadd v3 (-1))), none, none], [], (hc, r1, o))) rfl rfl trivial ?_
    exact hk0 v1 v2 (wadd v3 (-1)) r1 _ e
  · refine zF_blk (m := []) (d := 0) (b := B253_19) (gs := [¬ (s0 = 0)]) (c' := (88, [some (22, 0), some (0, v1), some (0, v2), some (0, v3), none, some (0, s0)], [], (hc, r1, o))) K253_19 rfl ⟨q2, trivial⟩ ?_
    refine zF_blk (m := []) (d := 0) (b := B253_18) (gs := []) (c' := (89, [some (22, 0), some (0, v1), some (0, v2), some (0, v3), none, some (0, s0)], [(0, v3)], (hc, r1, o))) K253_18 rfl trivial ?_
    exact zF_riM (by decide +kernel) e
def F253_0 : Nat → Int → Int → Int → zHM → Option (Int × zHM)
  | 0, _, _, _, _ => none
  | n + 1, v1, v2, v3, h => if v3 ≤ 0 then some (0, h) else (F244 h).bind fun r1 => (F227 v1 1 v3 r1).bind fun r2 => (F235 v2 r2.2).bind fun r3 => (F213 r2.1 7 r3.2).bind fun r4 => if ¬ r4 = 0 then F253_1 (F253_0 n) v1 v2 v3 0 r3.2 else F253_1 (F253_0 n) v1 v2 v3 1 r3.2
set_option maxRecDepth 100000 in
theorem T253_0 {spec : zRn zH2} {hc : zHC} {o : Int → Int} {d : Nat} (hd : 6 ≤ d) : ∀ (n : Nat) (v1 : Int) (v2 : Int) (v3 : Int) (h : zHM) (v : (Int × zHM)), F253_0 n v1 v2 v3 h = some v → zFin 0 (fun _ => 0) (zRu2 spec d) 253 (some (0, v.1)) (hc, v.2, o) (38, [some (22, 0), some (0, v1), some (0, v2), some (0, v3), none, none], [], (hc, h, o)) := by
  intro n
  induction n with
  | zero => intro v1 v2 v3 h v e; unfold F253_0 at e; cases e
  | succ n hk0 =>
    intro v1 v2 v3 h v e
    unfold F253_0 at e
    rcases zI_s e with ⟨q1, e⟩ | ⟨q1, e⟩
    · refine zF_blk (m := []) (d := 1) (b := B253_15) (gs := [v3 ≤ 0]) (c' := (96, [some (22, 0), some (0, v1), some (0, v2), some (0, v3), none, none], [], (hc, h, o))) K253_15 rfl ⟨q1, trivial⟩ ?_
      refine zF_blk (m := []) (d := 0) (b := B253_7) (gs := []) (c' := (97, [some (22, 0), some (0, v1), some (0, v2), some (0, v3), none, none], [(0, 0)], (hc, h, o))) K253_7 rfl trivial ?_
      exact zF_riM (by decide +kernel) e
    · refine zF_blk (m := []) (d := 0) (b := B253_15) (gs := [¬ (v3 ≤ 0)]) (c' := (42, [some (22, 0), some (0, v1), some (0, v2), some (0, v3), none, none], [], (hc, h, o))) K253_15 rfl ⟨q1, trivial⟩ ?_
      obtain ⟨r1, q2, e⟩ := zB_s e
      refine zF_blk (m := []) (d := 0) (b := B253_8) (gs := []) (c' := (43, [some (22, 0), some (0, v1), some (0, v2), some (0, v3), none, none], [(22, 0)], (hc, h, o))) K253_8 rfl trivial ?_
      refine zF_call (k := 244) (cl := 12) (n := 1) (i := .invokevirtual 317) (args := [(22, 0)]) (rest := []) (g1 := (hc, r1, o)) (r1 := none) (by decide +kernel) rfl rfl rfl (st' := []) rfl (S244 (Nat.le_trans (by decide) hd)  h _ q2) ?_
      obtain ⟨r2, q3, e⟩ := zB_s e
      refine zF_blk (m := []) (d := 0) (b := B253_9) (gs := []) (c' := (50, [some (22, 0), some (0, v1), some (0, v2), some (0, v3), none, none], [(0, v3), (0, 1), (0, v1), (22, 0)], (hc, r1, o))) K253_9 rfl trivial ?_
      refine zF_call (k := 227) (cl := 12) (n := 4) (i := .invokevirtual 311) (args := [(22, 0), (0, v1), (0, 1), (0, v3)]) (rest := []) (g1 := (hc, r2.2, o)) (r1 := some (0, r2.1)) (by decide +kernel) rfl rfl rfl (st' := [(0, r2.1)]) rfl (S227 (Nat.le_trans (by decide) hd) v1 1 v3 r1 _ q3) ?_
      obtain ⟨r3, q4, e⟩ := zB_s e
      refine zF_blk (m := []) (d := 0) (b := B253_10) (gs := []) (c' := (57, [some (22, 0), some (0, v1), some (0, v2), some (0, v3), some (0, r2.1), none], [(0, v2), (22, 0)], (hc, r2.2, o))) K253_10 rfl trivial ?_
      refine zF_call (k := 235) (cl := 12) (n := 2) (i := .invokevirtual 314) (args := [(22, 0), (0, v2)]) (rest := []) (g1 := (hc, r3.2, o)) (r1 := some (0, r3.1)) (by decide +kernel) rfl rfl rfl (st' := [(0, r3.1)]) rfl (S235 (Nat.le_trans (by decide) hd) v2 r2.2 _ q4) ?_
      obtain ⟨r4, q5, e⟩ := zB_s e
      refine zF_blk (m := []) (d := 0) (b := B253_11) (gs := []) (c' := (66, [some (22, 0), some (0, v1), some (0, v2), some (0, v3), some (0, r2.1), none], [(0, 7), (0, r2.1), (22, 0)], (hc, r3.2, o))) K253_11 rfl trivial ?_
      refine zF_call (k := 213) (cl := 12) (n := 3) (i := .invokevirtual 247) (args := [(22, 0), (0, r2.1), (0, 7)]) (rest := []) (g1 := (hc, r3.2, o)) (r1 := some (0, r4)) (by decide +kernel) rfl rfl rfl (st' := [(0, r4)]) rfl (S213 (Nat.le_trans (by decide) hd) r2.1 7 r3.2 _ q5) ?_
      rcases zI_s e with ⟨q6, e⟩ | ⟨q6, e⟩
      · refine zF_blk (m := []) (d := 1) (b := B253_14) (gs := [¬ r4 = 0]) (c' := (76, [some (22, 0), some (0, v1), some (0, v2), some (0, v3), some (0, r2.1), none], [], (hc, r3.2, o))) K253_14 rfl ⟨q6, trivial⟩ ?_
        refine zF_blk (m := []) (d := 0) (b := B253_12) (gs := []) (c' := (77, [some (22, 0), some (0, v1), some (0, v2), some (0, v3), some (0, r2.1), none], [(0, 0)], (hc, r3.2, o))) K253_12 rfl trivial ?_
        refine zF_blk (m := [true, true, true, true, false, false]) (d := 0) (b := []) (gs := []) (c' := (77, [some (22, 0), some (0, v1), some (0, v2), some (0, v3), none, none], [(0, 0)], (hc, r3.2, o))) rfl rfl trivial ?_
        exact T253_1 hd (F253_0 n) hk0 v1 v2 v3 0 r3.2 _ e
      · refine zF_blk (m := []) (d := 0) (b := B253_14) (gs := [¬ (¬ r4 = 0)]) (c' := (72, [some (22, 0), some (0, v1), some (0, v2), some (0, v3), some (0, r2.1), none], [], (hc, r3.2, o))) K253_14 rfl ⟨q6, trivial⟩ ?_
        refine zF_blk (m := []) (d := 0) (b := B253_13) (gs := []) (c' := (77, [some (22, 0), some (0, v1), some (0, v2), some (0, v3), some (0, r2.1), none], [(0, 1)], (hc, r3.2, o))) K253_13 rfl trivial ?_
        refine zF_blk (m := [true, true, true, true, false, false]) (d := 0) (b := []) (gs := []) (c' := (77, [some (22, 0), some (0, v1), some (0, v2), some (0, v3), none, none], [(0, 1)], (hc, r3.2, o))) rfl rfl trivial ?_
        exact T253_1 hd (F253_0 n) hk0 v1 v2 v3 1 r3.2 _ e
/-- EchoValeModel.secret(II)I -/
def F253 (v1 : Int) (v2 : Int) (h : zHM) : Option (Int × zHM) := (F210 v1 (mset h 0 0 0)).bind fun r1 => if r1 = 0 then some ((-1), (mset h 0 0 0)) else (F242 v2).bind fun r2 => if r2 = 0 then some ((-1), (mset h 0 0 0)) else if ¬ ((mset h 0 0 0) 14 216) = 30 then F253_0 zFu v1 v2 9 (mset h 0 0 0) else some ((-1), (mset h 0 0 0))
set_option maxRecDepth 100000 in
theorem S253 {spec : zRn zH2} {hc : zHC} {o : Int → Int} {d : Nat} (hd : 7 ≤ d) (v1 : Int) (v2 : Int) (h : zHM) (v : (Int × zHM)) (e : F253 v1 v2 h = some v) : zRu2 spec d 253 [(22, 0), (0, v1), (0, v2)] (hc, h, o) (some (0, v.1)) (hc, v.2, o) := by
  refine zF_in (D := 6) (mx := 6) (L := [some (22, 0), some (0, v1), some (0, v2), none, none, none]) (by decide +kernel) rfl rfl hd (fun d hd => ?_)
  unfold F253 at e
  obtain ⟨r1, q1, e⟩ := zB_s e
  refine zF_blk (m := []) (d := 0) (b := B253_0) (gs := []) (c' := (7, [some (22, 0), some (0, v1), some (0, v2), none, none, none], [(0, v1), (22, 0)], (hc, (mset h 0 0 0), o))) K253_0 rfl trivial ?_
  refine zF_call (k := 210) (cl := 12) (n := 2) (i := .invokevirtual 260) (args := [(22, 0), (0, v1)]) (rest := []) (g1 := (hc, (mset h 0 0 0), o)) (r1 := some (0, r1)) (by decide +kernel) rfl rfl rfl (st' := [(0, r1)]) rfl (S210 (Nat.le_trans (by decide) hd) v1 (mset h 0 0 0) _ q1) ?_
  rcases zI_s e with ⟨q2, e⟩ | ⟨q2, e⟩
  · refine zF_blk (m := []) (d := 1) (b := B253_6) (gs := [r1 = 0]) (c' := (33, [some (22, 0), some (0, v1), some (0, v2), none, none, none], [], (hc, (mset h 0 0 0), o))) K253_6 rfl ⟨q2, trivial⟩ ?_
    refine zF_blk (m := []) (d := 0) (b := B253_1) (gs := []) (c' := (34, [some (22, 0), some (0, v1), some (0, v2), none, none, none], [(0, (-1))], (hc, (mset h 0 0 0), o))) K253_1 rfl trivial ?_
    exact zF_riM (by decide +kernel) e
  · refine zF_blk (m := []) (d := 0) (b := B253_6) (gs := [¬ (r1 = 0)]) (c' := (13, [some (22, 0), some (0, v1), some (0, v2), none, none, none], [], (hc, (mset h 0 0 0), o))) K253_6 rfl ⟨q2, trivial⟩ ?_
    obtain ⟨r2, q3, e⟩ := zB_s e
    refine zF_blk (m := []) (d := 0) (b := B253_2) (gs := []) (c' := (14, [some (22, 0), some (0, v1), some (0, v2), none, none, none], [(0, v2)], (hc, (mset h 0 0 0), o))) K253_2 rfl trivial ?_
    refine zF_call (k := 242) (cl := 12) (n := 1) (i := .invokestatic 323) (args := [(0, v2)]) (rest := []) (g1 := (hc, (mset h 0 0 0), o)) (r1 := some (0, r2)) (by decide +kernel) rfl rfl rfl (st' := [(0, r2)]) rfl (S242 (Nat.le_trans (by decide) hd) v2 (mset h 0 0 0) _ q3) ?_
    rcases zI_s e with ⟨q4, e⟩ | ⟨q4, e⟩
    · refine zF_blk (m := []) (d := 1) (b := B253_5) (gs := [r2 = 0]) (c' := (33, [some (22, 0), some (0, v1), some (0, v2), none, none, none], [], (hc, (mset h 0 0 0), o))) K253_5 rfl ⟨q4, trivial⟩ ?_
      refine zF_blk (m := []) (d := 0) (b := B253_1) (gs := []) (c' := (34, [some (22, 0), some (0, v1), some (0, v2), none, none, none], [(0, (-1))], (hc, (mset h 0 0 0), o))) K253_1 rfl trivial ?_
      exact zF_riM (by decide +kernel) e
    · refine zF_blk (m := []) (d := 0) (b := B253_5) (gs := [¬ (r2 = 0)]) (c' := (20, [some (22, 0), some (0, v1), some (0, v2), none, none, none], [], (hc, (mset h 0 0 0), o))) K253_5 rfl ⟨q4, trivial⟩ ?_
      rcases zI_s e with ⟨q5, e⟩ | ⟨q5, e⟩
      · refine zF_blk (m := []) (d := 1) (b := B253_4) (gs := [0 ≤ 216 ∧ 216 < 2140, ¬ ((mset h 0 0 0) 14 216) = 30]) (c' := (35, [some (22, 0), some (0, v1), some (0, v2), none, none, none], [], (hc, (mset h 0 0 0), o))) K253_4 rfl ⟨by decide, q5, trivial⟩ ?_
        refine zF_blk (m := []) (d := 0) (b := B253_3) (gs := []) (c' := (38, [some (22, 0), some (0, v1), some (0, v2), some (0, 9), none, none], [], (hc, (mset h 0 0 0), o))) K253_3 rfl trivial ?_
        exact T253_0 hd zFu v1 v2 9 (mset h 0 0 0) _ e
      · refine zF_blk (m := []) (d := 0) (b := B253_4) (gs := [0 ≤ 216 ∧ 216 < 2140, ¬ (¬ ((mset h 0 0 0) 14 216) = 30)]) (c' := (33, [some (22, 0), some (0, v1), some (0, v2), none, none, none], [], (hc, (mset h 0 0 0), o))) K253_4 rfl ⟨by decide, q5, trivial⟩ ?_
        refine zF_blk (m := []) (d := 0) (b := B253_1) (gs := []) (c' := (34, [some (22, 0), some (0, v1), some (0, v2), none, none, none], [(0, (-1))], (hc, (mset h 0 0 0), o))) K253_1 rfl trivial ?_
        exact zF_riM (by decide +kernel) e
def B113_0 : List zRow := [(11, .iconst (-1), 1, (0, 0, 0))]
theorem K113_0 : zRk 113 B113_0 = true := by decide +kernel
def B113_1 : List zRow := [(13, .aload_n 0, 1, (0, 0, 0)), (14, .getfield 60, 3, (11, 7, 135)), (17, .aload_n 0, 1, (0, 0, 0)), (18, .getfield 56, 3, (11, 6, 7))]
theorem K113_1 : zRk 113 B113_1 = true := by decide +kernel
def B113_2 : List zRow := [(24, .iconst 0, 1, (0, 0, 0)), (25, .istore_n 2, 1, (0, 0, 0))]
theorem K113_2 : zRk 113 B113_2 = true := by decide +kernel
def B113_3 : List zRow := [(5, .iload_n 1, 1, (0, 0, 0)), (6, .bipush 100, 2, (0, 0, 0)), (8, .if_icmp .le 5, 3, (0, 0, 0))]
theorem K113_3 : zRk 113 B113_3 = true := by decide +kernel
def B113_4 : List zRow := [(0, .iload_n 1, 1, (0, 0, 0)), (1, .iconst 1, 1, (0, 0, 0)), (2, .if_icmp .lt 9, 3, (0, 0, 0))]
theorem K113_4 : zRk 113 B113_4 = true := by decide +kernel
def B113_5 : List zRow := [(87, .iconst (-1), 1, (0, 0, 0))]
theorem K113_5 : zRk 113 B113_5 = true := by decide +kernel
def B113_6 : List zRow := [(44, .aload_n 0, 1, (0, 0, 0)), (45, .getfield 60, 3, (11, 7, 135)), (48, .aload_n 0, 1, (0, 0, 0)), (49, .getfield 19, 3, (11, 1, 39)), (52, .iconst 0, 1, (0, 0, 0))]
theorem K113_6 : zRk 113 B113_6 = true := by decide +kernel
def B113_7 : List zRow := [(81, .iinc 2 1, 3, (0, 0, 0)), (84, .goto (-58), 3, (0, 0, 0))]
theorem K113_7 : zRk 113 B113_7 = true := by decide +kernel
def B113_8 : List zRow := [(73, .aload_n 0, 1, (0, 0, 0)), (74, .getfield 60, 3, (11, 7, 135)), (77, .getfield 159, 3, (1, 0, 0))]
theorem K113_8 : zRk 113 B113_8 = true := by decide +kernel
def B113_9 : List zRow := [(56, .aload_n 0, 1, (0, 0, 0)), (57, .getfield 60, 3, (11, 7, 135)), (60, .getfield 208, 3, (1, 2, 0)), (63, .aload_n 0, 1, (0, 0, 0)), (64, .getfield 56, 3, (11, 6, 7)), (67, .getfield 208, 3, (1, 2, 0)), (70, .if_icmp .le 11, 3, (0, 0, 0))]
theorem K113_9 : zRk 113 B113_9 = true := by decide +kernel
def B113_10 : List zRow := [(31, .aload_n 0, 1, (0, 0, 0)), (32, .getfield 60, 3, (11, 7, 135)), (35, .getfield 159, 3, (1, 0, 0)), (38, .sipush 400, 3, (0, 0, 0)), (41, .if_icmp .ge 46, 3, (0, 0, 0))]
theorem K113_10 : zRk 113 B113_10 = true := by decide +kernel
def B113_11 : List zRow := [(26, .iload_n 2, 1, (0, 0, 0)), (27, .iload_n 1, 1, (0, 0, 0)), (28, .if_icmp .ge 59, 3, (0, 0, 0))]
theorem K113_11 : zRk 113 B113_11 = true := by decide +kernel
def F113_0 : Nat → Int → Int → zHC → Option (Int × zHC)
  | 0, _, _, _ => none
  | n + 1, v1, v2, h => if v1 ≤ v2 then some ((-1), h) else if 400 ≤ (h 64 1 0) then some ((-1), h) else (F89b 0 h).bind fun r1 => if (r1 66 1 0) ≤ (r1 66 0 0) then (F113_0 n) v1 (wadd v2 1) r1 else some ((r1 64 1 0), r1)
set_option maxRecDepth 100000 in
theorem T113_0 {spec : zRn zH2} {hm : zHM} {o : Int → Int} {d : Nat} (hd : 5 ≤ d) : ∀ (n : Nat) (v1 : Int) (v2 : Int) (h : zHC) (v : (Int × zHC)), F113_0 n v1 v2 h = some v → zFin 0 (fun _ => 0) (zRu2 spec d) 113 (some (0, v.1)) (v.2, hm, o) (26, [some (21, 0), some (0, v1), some (0, v2)], [], (h, hm, o)) := by
  intro n
  induction n with
  | zero => intro v1 v2 h v e; unfold F113_0 at e; cases e
  | succ n hk0 =>
    intro v1 v2 h v e
    unfold F113_0 at e
    rcases zI_s e with ⟨q1, e⟩ | ⟨q1, e⟩
    · refine zF_blk (m := []) (d := 1) (b := B113_11) (gs := [v1 ≤ v2]) (c' := (87, [some (21, 0), some (0, v1), some (0, v2)], [], (h, hm, o))) K113_11 rfl ⟨q1, trivial⟩ ?_
      refine zF_blk (m := []) (d := 0) (b := B113_5) (gs := []) (c' := (88, [some (21, 0), some (0, v1), some (0, v2)], [(0, (-1))], (h, hm, o))) K113_5 rfl trivial ?_
      exact zF_riC (by decide +kernel) e
    · refine zF_blk (m := []) (d := 0) (b := B113_11) (gs := [¬ (v1 ≤ v2)]) (c' := (31, [some (21, 0), some (0, v1), some (0, v2)], [], (h, hm, o))) K113_11 rfl ⟨q1, trivial⟩ ?_
      rcases zI_s e with ⟨q2, e⟩ | ⟨q2, e⟩
      · refine zF_blk (m := []) (d := 1) (b := B113_10) (gs := [400 ≤ (h 64 1 0)]) (c' := (87, [some (21, 0), some (0, v1), some (0, v2)], [], (h, hm, o))) K113_10 rfl ⟨q2, trivial⟩ ?_
        refine zF_blk (m := []) (d := 0) (b := B113_5) (gs := []) (c' := (88, [some (21, 0), some (0, v1), some (0, v2)], [(0, (-1))], (h, hm, o))) K113_5 rfl trivial ?_
        exact zF_riC (by decide +kernel) e
      · refine zF_blk (m := []) (d := 0) (b := B113_10) (gs := [¬ (400 ≤ (h 64 1 0))]) (c' := (44, [some (21, 0), some (0, v1), some (0, v2)], [], (h, hm, o))) K113_10 rfl ⟨q2, trivial⟩ ?_
        obtain ⟨r1, q3, e⟩ := zB_s e
        refine zF_blk (m := []) (d := 0) (b := B113_6) (gs := []) (c' := (53, [some (21, 0), some (0, v1), some (0, v2)], [(0, 0), (19, 0), (11, 1)], (h, hm, o))) K113_6 rfl trivial ?_
        refine zF_call (k := 89) (cl := 1) (n := 3) (i := .invokevirtual 268) (args := [(11, 1), (19, 0), (0, 0)]) (rest := []) (g1 := (r1, hm, o)) (r1 := none) (by decide +kernel) rfl rfl rfl (st' := []) rfl (S89b (Nat.le_trans (by decide) hd) 0 h _ q3) ?_
        rcases zI_s e with ⟨q4, e⟩ | ⟨q4, e⟩
        · refine zF_blk (m := []) (d := 1) (b := B113_9) (gs := [(r1 66 1 0) ≤ (r1 66 0 0)]) (c' := (81, [some (21, 0), some (0, v1), some (0, v2)], [], (r1, hm, o))) K113_9 rfl ⟨q4, trivial⟩ ?_
          refine zF_blk (m := []) (d := 0) (b := B113_7) (gs := []) (c' := (26, [some (21, 0), some (0, v1), some (0, (wadd v2 1))], [], (r1, hm, o))) K113_7 rfl trivial ?_
          exact hk0 v1 (wadd v2 1) r1 _ e
        · refine zF_blk (m := []) (d := 0) (b := B113_9) (gs := [¬ ((r1 66 1 0) ≤ (r1 66 0 0))]) (c' := (73, [some (21, 0), some (0, v1), some (0, v2)], [], (r1, hm, o))) K113_9 rfl ⟨q4, trivial⟩ ?_
          refine zF_blk (m := []) (d := 0) (b := B113_8) (gs := []) (c' := (80, [some (21, 0), some (0, v1), some (0, v2)], [(0, (r1 64 1 0))], (r1, hm, o))) K113_8 rfl trivial ?_
          exact zF_riC (by decide +kernel) e
/-- EchoVale.next(I)I -/
def F113 (v1 : Int) (h : zHC) : Option (Int × zHC) := if v1 < 1 then some ((-1), h) else if v1 ≤ 100 then (F71c h).bind fun r1 => F113_0 zFu v1 0 r1 else some ((-1), h)
set_option maxRecDepth 100000 in
theorem S113 {spec : zRn zH2} {hm : zHM} {o : Int → Int} {d : Nat} (hd : 6 ≤ d) (v1 : Int) (h : zHC) (v : (Int × zHC)) (e : F113 v1 h = some v) : zRu2 spec d 113 [(21, 0), (0, v1)] (h, hm, o) (some (0, v.1)) (v.2, hm, o) := by
  refine zF_in (D := 5) (mx := 3) (L := [some (21, 0), some (0, v1), none]) (by decide +kernel) rfl rfl hd (fun d hd => ?_)
  unfold F113 at e
  rcases zI_s e with ⟨q1, e⟩ | ⟨q1, e⟩
  · refine zF_blk (m := []) (d := 1) (b := B113_4) (gs := [v1 < 1]) (c' := (11, [some (21, 0), some (0, v1), none], [], (h, hm, o))) K113_4 rfl ⟨q1, trivial⟩ ?_
    refine zF_blk (m := []) (d := 0) (b := B113_0) (gs := []) (c' := (12, [some (21, 0), some (0, v1), none], [(0, (-1))], (h, hm, o))) K113_0 rfl trivial ?_
    exact zF_riC (by decide +kernel) e
  · refine zF_blk (m := []) (d := 0) (b := B113_4) (gs := [¬ (v1 < 1)]) (c' := (5, [some (21, 0), some (0, v1), none], [], (h, hm, o))) K113_4 rfl ⟨q1, trivial⟩ ?_
    rcases zI_s e with ⟨q2, e⟩ | ⟨q2, e⟩
    · refine zF_blk (m := []) (d := 1) (b := B113_3) (gs := [v1 ≤ 100]) (c' := (13, [some (21, 0), some (0, v1), none], [], (h, hm, o))) K113_3 rfl ⟨q2, trivial⟩ ?_
      obtain ⟨r1, q3, e⟩ := zB_s e
      refine zF_blk (m := []) (d := 0) (b := B113_1) (gs := []) (c' := (21, [some (21, 0), some (0, v1), none], [(11, 0), (11, 1)], (h, hm, o))) K113_1 rfl trivial ?_
      refine zF_call (k := 71) (cl := 1) (n := 2) (i := .invokevirtual 266) (args := [(11, 1), (11, 0)]) (rest := []) (g1 := (r1, hm, o)) (r1 := none) (by decide +kernel) rfl rfl rfl (st' := []) rfl (S71c (Nat.le_trans (by decide) hd)  h _ q3) ?_
      refine zF_blk (m := []) (d := 0) (b := B113_2) (gs := []) (c' := (26, [some (21, 0), some (0, v1), some (0, 0)], [], (r1, hm, o))) K113_2 rfl trivial ?_
      exact T113_0 hd zFu v1 0 r1 _ e
    · refine zF_blk (m := []) (d := 0) (b := B113_3) (gs := [¬ (v1 ≤ 100)]) (c' := (11, [some (21, 0), some (0, v1), none], [], (h, hm, o))) K113_3 rfl ⟨q2, trivial⟩ ?_
      refine zF_blk (m := []) (d := 0) (b := B113_0) (gs := []) (c' := (12, [some (21, 0), some (0, v1), none], [(0, (-1))], (h, hm, o))) K113_0 rfl trivial ?_
      exact zF_riC (by decide +kernel) e
def B254_0 : List zRow := [(0, .aload_n 0, 1, (0, 0, 0)), (1, .iconst 0, 1, (0, 0, 0)), (2, .putfield 81, 3, (12, 0, 0)), (5, .iload_n 1, 1, (0, 0, 0)), (6, .iconst 1, 1, (0, 0, 0)), (7, .bipush 100, 2, (0, 0, 0))]
theorem K254_0 : zRk 254 B254_0 = true := by decide +kernel
def B254_1 : List zRow := [(17, .aload_n 0, 1, (0, 0, 0))]
theorem K254_1 : zRk 254 B254_1 = true := by decide +kernel
def B254_2 : List zRow := [(21, .aload_n 0, 1, (0, 0, 0)), (22, .getfield 13, 3, (12, 14, 5251442)), (25, .sipush 997, 3, (0, 0, 0)), (28, .iaload, 1, (0, 0, 0)), (29, .istore_n 2, 1, (0, 0, 0)), (30, .aload_n 0, 1, (0, 0, 0)), (31, .iload_n 1, 1, (0, 0, 0))]
theorem K254_2 : zRk 254 B254_2 = true := by decide +kernel
def B254_3 : List zRow := [(65, .iconst (-1), 1, (0, 0, 0))]
theorem K254_3 : zRk 254 B254_3 = true := by decide +kernel
def B254_4 : List zRow := [(48, .aload_n 0, 1, (0, 0, 0)), (49, .getfield 13, 3, (12, 14, 5251442)), (52, .sipush 998, 3, (0, 0, 0)), (55, .iconst 5, 1, (0, 0, 0)), (56, .iload_n 2, 1, (0, 0, 0))]
theorem K254_4 : zRk 254 B254_4 = true := by decide +kernel
def B254_5 : List zRow := [(57, .imul, 1, (0, 0, 0))]
theorem K254_5 : zRk 254 B254_5 = true := by decide +kernel
def B254_6 : List zRow := [(58, .iadd, 1, (0, 0, 0)), (59, .iconst 2, 1, (0, 0, 0)), (60, .iadd, 1, (0, 0, 0)), (61, .iaload, 1, (0, 0, 0)), (62, .goto 4, 3, (0, 0, 0))]
theorem K254_6 : zRk 254 B254_6 = true := by decide +kernel
def B254_7 : List zRow := [(35, .pop, 1, (0, 0, 0)), (36, .aload_n 0, 1, (0, 0, 0)), (37, .getfield 13, 3, (12, 14, 5251442)), (40, .sipush 997, 3, (0, 0, 0)), (43, .iaload, 1, (0, 0, 0)), (44, .iload_n 2, 1, (0, 0, 0)), (45, .if_icmp .le 20, 3, (0, 0, 0))]
theorem K254_7 : zRk 254 B254_7 = true := by decide +kernel
def B254_8 : List zRow := [(15, .iconst (-1), 1, (0, 0, 0))]
theorem K254_8 : zRk 254 B254_8 = true := by decide +kernel
def B254_9 : List zRow := [(12, .ifCond .ne 5, 3, (0, 0, 0))]
theorem K254_9 : zRk 254 B254_9 = true := by decide +kernel
def B254_10 : List zRow := [(66, .istore_n 3, 1, (0, 0, 0)), (67, .aload_n 0, 1, (0, 0, 0))]
theorem K254_10 : zRk 254 B254_10 = true := by decide +kernel
def B254_11 : List zRow := [(71, .iload_n 3, 1, (0, 0, 0))]
theorem K254_11 : zRk 254 B254_11 = true := by decide +kernel
def F254_0 (s0 : Int) (h : zHM) : Option (Int × zHM) := (F245 h).bind fun r1 => some (s0, r1)
set_option maxRecDepth 100000 in
theorem T254_0 {spec : zRn zH2} {hc : zHC} {o : Int → Int} {d : Nat} (hd : 6 ≤ d) (s0 : Int) (h : zHM) (v : (Int × zHM)) (e : F254_0 s0 h = some v) : zFin 0 (fun _ => 0) (zRu2 spec d) 254 (some (0, v.1)) (hc, v.2, o) (66, [some (22, 0), none, none, none], [(0, s0)], (hc, h, o)) := by
  unfold F254_0 at e
  obtain ⟨r1, q1, e⟩ := zB_s e
  refine zF_blk (m := []) (d := 0) (b := B254_10) (gs := []) (c' := (68, [some (22, 0), none, none, some (0, s0)], [(22, 0)], (hc, h, o))) K254_10 rfl trivial ?_
  refine zF_call (k := 245) (cl := 12) (n := 1) (i := .invokevirtual 320) (args := [(22, 0)]) (rest := []) (g1 := (hc, r1, o)) (r1 := none) (by decide +kernel) rfl rfl rfl (st' := []) rfl (S245 (Nat.le_trans (by decide) hd)  h _ q1) ?_
  refine zF_blk (m := []) (d := 0) (b := B254_11) (gs := []) (c' := (72, [some (22, 0), none, none, some (0, s0)], [(0, s0)], (hc, r1, o))) K254_11 rfl trivial ?_
  exact zF_riM (by decide +kernel) e
/-- EchoValeModel.next(I)I -/
def F254 (v1 : Int) (h : zHM) : Option (Int × zHM) := (F188 v1 1 100).bind fun r1 => if ¬ r1 = 0 then (F244 (mset h 0 0 0)).bind fun r2 => (F235 v1 r2).bind fun r3 => if (r3.2 14 997) ≤ (r2 14 997) then F254_0 (-1) r3.2 else zG (0 ≤ (wadd (wadd 998 (wmul 5 (r2 14 997))) 2) ∧ (wadd (wadd 998 (wmul 5 (r2 14 997))) 2) < 2140) (F254_0 (r3.2 14 (wadd (wadd 998 (wmul 5 (r2 14 997))) 2)) r3.2) else some ((-1), (mset h 0 0 0))
set_option maxRecDepth 100000 in
theorem S254 {spec : zRn zH2} {hc : zHC} {o : Int → Int} {d : Nat} (hd : 7 ≤ d) (v1 : Int) (h : zHM) (v : (Int × zHM)) (e : F254 v1 h = some v) : zRu2 spec d 254 [(22, 0), (0, v1)] (hc, h, o) (some (0, v.1)) (hc, v.2, o) := by
  refine zF_in (D := 6) (mx := 4) (L := [some (22, 0), some (0, v1), none, none]) (by decide +kernel) rfl rfl hd (fun d hd => ?_)
  unfold F254 at e
  obtain ⟨r1, q1, e⟩ := zB_s e
  refine zF_blk (m := []) (d := 0) (b := B254_0) (gs := []) (c' := (9, [some (22, 0), some (0, v1), none, none], [(0, 100), (0, 1), (0, v1)], (hc, (mset h 0 0 0), o))) K254_0 rfl trivial ?_
  refine zF_call (k := 188) (cl := 12) (n := 3) (i := .invokestatic 151) (args := [(0, v1), (0, 1), (0, 100)]) (rest := []) (g1 := (hc, (mset h 0 0 0), o)) (r1 := some (0, r1)) (by decide +kernel) rfl rfl rfl (st' := [(0, r1)]) rfl (S188 (Nat.le_trans (by decide) hd) v1 1 100 (mset h 0 0 0) _ q1) ?_
  rcases zI_s e with ⟨q2, e⟩ | ⟨q2, e⟩
  · refine zF_blk (m := []) (d := 1) (b := B254_9) (gs := [¬ r1 = 0]) (c' := (17, [some (22, 0), some (0, v1), none, none], [], (hc, (mset h 0 0 0), o))) K254_9 rfl ⟨q2, trivial⟩ ?_
    obtain ⟨r2, q3, e⟩ := zB_s e
    refine zF_blk (m := []) (d := 0) (b := B254_1) (gs := []) (c' := (18, [some (22, 0), some (0, v1), none, none], [(22, 0)], (hc, (mset h 0 0 0), o))) K254_1 rfl trivial ?_
    refine zF_call (k := 244) (cl := 12) (n := 1) (i := .invokevirtual 317) (args := [(22, 0)]) (rest := []) (g1 := (hc, r2, o)) (r1 := none) (by decide +kernel) rfl rfl rfl (st' := []) rfl (S244 (Nat.le_trans (by decide) hd)  (mset h 0 0 0) _ q3) ?_
    obtain ⟨r3, q4, e⟩ := zB_s e
    refine zF_blk (m := []) (d := 0) (b := B254_2) (gs := [0 ≤ 997 ∧ 997 < 2140]) (c' := (32, [some (22, 0), some (0, v1), some (0, (r2 14 997)), none], [(0, v1), (22, 0)], (hc, r2, o))) K254_2 rfl ⟨by decide, trivial⟩ ?_
    refine zF_call (k := 235) (cl := 12) (n := 2) (i := .invokevirtual 314) (args := [(22, 0), (0, v1)]) (rest := []) (g1 := (hc, r3.2, o)) (r1 := some (0, r3.1)) (by decide +kernel) rfl rfl rfl (st' := [(0, r3.1)]) rfl (S235 (Nat.le_trans (by decide) hd) v1 r2 _ q4) ?_
    rcases zI_s e with ⟨q5, e⟩ | ⟨q5, e⟩
    · refine zF_blk (m := []) (d := 1) (b := B254_7) (gs := [0 ≤ 997 ∧ 997 < 2140, (r3.2 14 997) ≤ (r2 14 997)]) (c' := (65, [some (22, 0), some (0, v1), some (0, (r2 14 997)), none], [], (hc, r3.2, o))) K254_7 rfl ⟨by decide, q5, trivial⟩ ?_
      refine zF_blk (m := []) (d := 0) (b := B254_3) (gs := []) (c' := (66, [some (22, 0), some (0, v1), some (0, (r2 14 997)), none], [(0, (-1))], (hc, r3.2, o))) K254_3 rfl trivial ?_
      refine zF_blk (m := [true, false, false, false]) (d := 0) (b := []) (gs := []) (c' := (66, [some (22, 0), none, none, none], [(0, (-1))], (hc, r3.2, o))) rfl rfl trivial ?_
      exact T254_0 hd (-1) r3.2 _ e
    · refine zF_blk (m := []) (d := 0) (b := B254_7) (gs := [0 ≤ 997 ∧ 997 < 2140, ¬ ((r3.2 14 997) ≤ (r2 14 997))]) (c' := (48, [some (22, 0), some (0, v1), some (0, (r2 14 997)), none], [], (hc, r3.2, o))) K254_7 rfl ⟨by decide, q5, trivial⟩ ?_
      obtain ⟨q6, e⟩ := zG_s e
      refine zF_blk (m := []) (d := 0) (b := B254_4) (gs := []) (c' := (57, [some (22, 0), some (0, v1), some (0, (r2 14 997)), none], [(0, (r2 14 997)), (0, 5), (0, 998), (1344370422, 0)], (hc, r3.2, o))) K254_4 rfl trivial ?_
      refine zF_blk (m := []) (d := 0) (b := B254_5) (gs := []) (c' := (58, [some (22, 0), some (0, v1), some (0, (r2 14 997)), none], [(0, (wmul 5 (r2 14 997))), (0, 998), (1344370422, 0)], (hc, r3.2, o))) K254_5 rfl trivial ?_
      refine zF_blk (m := []) (d := 0) (b := B254_6) (gs := [0 ≤ (wadd (wadd 998 (wmul 5 (r2 14 997))) 2) ∧ (wadd (wadd 998 (wmul 5 (r2 14 997))) 2) < 2140]) (c' := (66, [some (22, 0), some (0, v1), some (0, (r2 14 997)), none], [(0, (r3.2 14 (wadd (wadd 998 (wmul 5 (r2 14 997))) 2)))], (hc, r3.2, o))) K254_6 rfl ⟨q6, trivial⟩ ?_
      refine zF_blk (m := [true, false, false, false]) (d := 0) (b := []) (gs := []) (c' := (66, [some (22, 0), none, none, none], [(0, (r3.2 14 (wadd (wadd 998 (wmul 5 (r2 14 997))) 2)))], (hc, r3.2, o))) rfl rfl trivial ?_
      exact T254_0 hd (r3.2 14 (wadd (wadd 998 (wmul 5 (r2 14 997))) 2)) r3.2 _ e
  · refine zF_blk (m := []) (d := 0) (b := B254_9) (gs := [¬ (¬ r1 = 0)]) (c' := (15, [some (22, 0), some (0, v1), none, none], [], (hc, (mset h 0 0 0), o))) K254_9 rfl ⟨q2, trivial⟩ ?_
    refine zF_blk (m := []) (d := 0) (b := B254_8) (gs := []) (c' := (16, [some (22, 0), some (0, v1), none, none], [(0, (-1))], (hc, (mset h 0 0 0), o))) K254_8 rfl trivial ?_
    exact zF_riM (by decide +kernel) e
def B114_0 : List zRow := [(0, .aload_n 0, 1, (0, 0, 0)), (1, .iload_n 1, 1, (0, 0, 0))]
theorem K114_0 : zRk 114 B114_0 = true := by decide +kernel
def B114_1 : List zRow := [(15, .iconst (-1), 1, (0, 0, 0))]
theorem K114_1 : zRk 114 B114_1 = true := by decide +kernel
def B114_2 : List zRow := [(8, .iload_n 2, 1, (0, 0, 0))]
theorem K114_2 : zRk 114 B114_2 = true := by decide +kernel
def B114_3 : List zRow := [(17, .aload_n 0, 1, (0, 0, 0)), (18, .getfield 60, 3, (11, 7, 135)), (21, .aload_n 0, 1, (0, 0, 0)), (22, .getfield 56, 3, (11, 6, 7))]
theorem K114_3 : zRk 114 B114_3 = true := by decide +kernel
def B114_4 : List zRow := [(28, .aload_n 0, 1, (0, 0, 0)), (29, .getfield 60, 3, (11, 7, 135)), (32, .aload_n 0, 1, (0, 0, 0)), (33, .getfield 19, 3, (11, 1, 39)), (36, .iload_n 2, 1, (0, 0, 0))]
theorem K114_4 : zRk 114 B114_4 = true := by decide +kernel
def B114_5 : List zRow := [(40, .pop, 1, (0, 0, 0)), (41, .aload_n 0, 1, (0, 0, 0)), (42, .getfield 60, 3, (11, 7, 135)), (45, .iload_n 1, 1, (0, 0, 0)), (46, .iconst 5, 1, (0, 0, 0))]
theorem K114_5 : zRk 114 B114_5 = true := by decide +kernel
def B114_6 : List zRow := [(12, .ifCond .ne 5, 3, (0, 0, 0))]
theorem K114_6 : zRk 114 B114_6 = true := by decide +kernel
def B114_7 : List zRow := [(5, .ifCond .eq 10, 3, (0, 0, 0))]
theorem K114_7 : zRk 114 B114_7 = true := by decide +kernel
/-- EchoVale.heirs(II)I -/
def F114 (v1 : Int) (v2 : Int) (h : zHC) : Option (Int × zHC) := (F58 v1 h).bind fun r1 => if r1 = 0 then some ((-1), h) else (F99 v2).bind fun r2 => if ¬ r2 = 0 then (F71c h).bind fun r3 => (F88b v2 r3).bind fun r4 => (F63b v1 5 r4.2).bind fun r5 => some (r5, r4.2) else some ((-1), h)
set_option maxRecDepth 100000 in
theorem S114 {spec : zRn zH2} {hm : zHM} {o : Int → Int} {d : Nat} (hd : 7 ≤ d) (v1 : Int) (v2 : Int) (h : zHC) (v : (Int × zHC)) (e : F114 v1 v2 h = some v) : zRu2 spec d 114 [(21, 0), (0, v1), (0, v2)] (h, hm, o) (some (0, v.1)) (v.2, hm, o) := by
  refine zF_in (D := 6) (mx := 3) (L := [some (21, 0), some (0, v1), some (0, v2)]) (by decide +kernel) rfl rfl hd (fun d hd => ?_)
  unfold F114 at e
  obtain ⟨r1, q1, e⟩ := zB_s e
  refine zF_blk (m := []) (d := 0) (b := B114_0) (gs := []) (c' := (2, [some (21, 0), some (0, v1), some (0, v2)], [(0, v1), (21, 0)], (h, hm, o))) K114_0 rfl trivial ?_
  refine zF_call (k := 58) (cl := 11) (n := 2) (i := .invokevirtual 191) (args := [(21, 0), (0, v1)]) (rest := []) (g1 := (h, hm, o)) (r1 := some (0, r1)) (by decide +kernel) rfl rfl rfl (st' := [(0, r1)]) rfl (S58 (Nat.le_trans (by decide) hd) v1 h _ q1) ?_
  rcases zI_s e with ⟨q2, e⟩ | ⟨q2, e⟩
  · refine zF_blk (m := []) (d := 1) (b := B114_7) (gs := [r1 = 0]) (c' := (15, [some (21, 0), some (0, v1), some (0, v2)], [], (h, hm, o))) K114_7 rfl ⟨q2, trivial⟩ ?_
    refine zF_blk (m := []) (d := 0) (b := B114_1) (gs := []) (c' := (16, [some (21, 0), some (0, v1), some (0, v2)], [(0, (-1))], (h, hm, o))) K114_1 rfl trivial ?_
    exact zF_riC (by decide +kernel) e
  · refine zF_blk (m := []) (d := 0) (b := B114_7) (gs := [¬ (r1 = 0)]) (c' := (8, [some (21, 0), some (0, v1), some (0, v2)], [], (h, hm, o))) K114_7 rfl ⟨q2, trivial⟩ ?_
    obtain ⟨r2, q3, e⟩ := zB_s e
    refine zF_blk (m := []) (d := 0) (b := B114_2) (gs := []) (c' := (9, [some (21, 0), some (0, v1), some (0, v2)], [(0, v2)], (h, hm, o))) K114_2 rfl trivial ?_
    refine zF_call (k := 99) (cl := 11) (n := 1) (i := .invokestatic 242) (args := [(0, v2)]) (rest := []) (g1 := (h, hm, o)) (r1 := some (0, r2)) (by decide +kernel) rfl rfl rfl (st' := [(0, r2)]) rfl (S99 (Nat.le_trans (by decide) hd) v2 h _ q3) ?_
    rcases zI_s e with ⟨q4, e⟩ | ⟨q4, e⟩
    · refine zF_blk (m := []) (d := 1) (b := B114_6) (gs := [¬ r2 = 0]) (c' := (17, [some (21, 0), some (0, v1), some (0, v2)], [], (h, hm, o))) K114_6 rfl ⟨q4, trivial⟩ ?_
      obtain ⟨r3, q5, e⟩ := zB_s e
      refine zF_blk (m := []) (d := 0) (b := B114_3) (gs := []) (c' := (25, [some (21, 0), some (0, v1), some (0, v2)], [(11, 0), (11, 1)], (h, hm, o))) K114_3 rfl trivial ?_
      refine zF_call (k := 71) (cl := 1) (n := 2) (i := .invokevirtual 266) (args := [(11, 1), (11, 0)]) (rest := []) (g1 := (r3, hm, o)) (r1 := none) (by decide +kernel) rfl rfl rfl (st' := []) rfl (S71c (Nat.le_trans (by decide) hd)  h _ q5) ?_
      obtain ⟨r4, q6, e⟩ := zB_s e
      refine zF_blk (m := []) (d := 0) (b := B114_4) (gs := []) (c' := (37, [some (21, 0), some (0, v1), some (0, v2)], [(0, v2), (19, 0), (11, 1)], (r3, hm, o))) K114_4 rfl trivial ?_
      refine zF_call (k := 88) (cl := 1) (n := 3) (i := .invokevirtual 231) (args := [(11, 1), (19, 0), (0, v2)]) (rest := []) (g1 := (r4.2, hm, o)) (r1 := some (0, r4.1)) (by decide +kernel) rfl rfl rfl (st' := [(0, r4.1)]) rfl (S88b (Nat.le_trans (by decide) hd) v2 r3 _ q6) ?_
      obtain ⟨r5, q7, e⟩ := zB_s e
      refine zF_blk (m := []) (d := 0) (b := B114_5) (gs := []) (c' := (47, [some (21, 0), some (0, v1), some (0, v2)], [(0, 5), (0, v1), (11, 1)], (r4.2, hm, o))) K114_5 rfl trivial ?_
      refine zF_call (k := 63) (cl := 1) (n := 3) (i := .invokevirtual 196) (args := [(11, 1), (0, v1), (0, 5)]) (rest := []) (g1 := (r4.2, hm, o)) (r1 := some (0, r5)) (by decide +kernel) rfl rfl rfl (st' := [(0, r5)]) rfl (S63b (Nat.le_trans (by decide) hd) v1 5 r4.2 _ q7) ?_
      exact zF_riC (by decide +kernel) e
    · refine zF_blk (m := []) (d := 0) (b := B114_6) (gs := [¬ (¬ r2 = 0)]) (c' := (15, [some (21, 0), some (0, v1), some (0, v2)], [], (h, hm, o))) K114_6 rfl ⟨q4, trivial⟩ ?_
      refine zF_blk (m := []) (d := 0) (b := B114_1) (gs := []) (c' := (16, [some (21, 0), some (0, v1), some (0, v2)], [(0, (-1))], (h, hm, o))) K114_1 rfl trivial ?_
      exact zF_riC (by decide +kernel) e
def B255_0 : List zRow := [(0, .aload_n 0, 1, (0, 0, 0)), (1, .iconst 0, 1, (0, 0, 0)), (2, .putfield 81, 3, (12, 0, 0)), (5, .aload_n 0, 1, (0, 0, 0)), (6, .iload_n 1, 1, (0, 0, 0))]
theorem K255_0 : zRk 255 B255_0 = true := by decide +kernel
def B255_1 : List zRow := [(20, .iconst (-1), 1, (0, 0, 0))]
theorem K255_1 : zRk 255 B255_1 = true := by decide +kernel
def B255_2 : List zRow := [(13, .iload_n 2, 1, (0, 0, 0))]
theorem K255_2 : zRk 255 B255_2 = true := by decide +kernel
def B255_3 : List zRow := [(22, .aload_n 0, 1, (0, 0, 0))]
theorem K255_3 : zRk 255 B255_3 = true := by decide +kernel
def B255_4 : List zRow := [(26, .aload_n 0, 1, (0, 0, 0)), (27, .iload_n 2, 1, (0, 0, 0))]
theorem K255_4 : zRk 255 B255_4 = true := by decide +kernel
def B255_5 : List zRow := [(31, .pop, 1, (0, 0, 0)), (32, .aload_n 0, 1, (0, 0, 0)), (33, .iload_n 1, 1, (0, 0, 0)), (34, .iconst 5, 1, (0, 0, 0))]
theorem K255_5 : zRk 255 B255_5 = true := by decide +kernel
def B255_6 : List zRow := [(38, .istore_n 3, 1, (0, 0, 0)), (39, .aload_n 0, 1, (0, 0, 0))]
theorem K255_6 : zRk 255 B255_6 = true := by decide +kernel
def B255_7 : List zRow := [(43, .iload_n 3, 1, (0, 0, 0))]
theorem K255_7 : zRk 255 B255_7 = true := by decide +kernel
def B255_8 : List zRow := [(17, .ifCond .ne 5, 3, (0, 0, 0))]
theorem K255_8 : zRk 255 B255_8 = true := by decide +kernel
def B255_9 : List zRow := [(10, .ifCond .eq 10, 3, (0, 0, 0))]
theorem K255_9 : zRk 255 B255_9 = true := by decide +kernel
/-- EchoValeModel.heirs(II)I -/
def F255 (v1 : Int) (v2 : Int) (h : zHM) : Option (Int × zHM) := (F217 v1 (mset h 0 0 0)).bind fun r1 => if r1 = 0 then some ((-1), (mset h 0 0 0)) else (F242 v2).bind fun r2 => if ¬ r2 = 0 then (F244 (mset h 0 0 0)).bind fun r3 => (F235 v2 r3).bind fun r4 => (F213 v1 5 r4.2).bind fun r5 => (F245 r4.2).bind fun r6 => some (r5, r6) else some ((-1), (mset h 0 0 0))
set_option maxRecDepth 100000 in
theorem S255 {spec : zRn zH2} {hc : zHC} {o : Int → Int} {d : Nat} (hd : 7 ≤ d) (v1 : Int) (v2 : Int) (h : zHM) (v : (Int × zHM)) (e : F255 v1 v2 h = some v) : zRu2 spec d 255 [(22, 0), (0, v1), (0, v2)] (hc, h, o) (some (0, v.1)) (hc, v.2, o) := by
  refine zF_in (D := 6) (mx := 4) (L := [some (22, 0), some (0, v1), some (0, v2), none]) (by decide +kernel) rfl rfl hd (fun d hd => ?_)
  unfold F255 at e
  obtain ⟨r1, q1, e⟩ := zB_s e
  refine zF_blk (m := []) (d := 0) (b := B255_0) (gs := []) (c' := (7, [some (22, 0), some (0, v1), some (0, v2), none], [(0, v1), (22, 0)], (hc, (mset h 0 0 0), o))) K255_0 rfl trivial ?_
  refine zF_call (k := 217) (cl := 12) (n := 2) (i := .invokevirtual 266) (args := [(22, 0), (0, v1)]) (rest := []) (g1 := (hc, (mset h 0 0 0), o)) (r1 := some (0, r1)) (by decide +kernel) rfl rfl rfl (st' := [(0, r1)]) rfl (S217 (Nat.le_trans (by decide) hd) v1 (mset h 0 0 0) _ q1) ?_
  rcases zI_s e with ⟨q2, e⟩ | ⟨q2, e⟩
  · refine zF_blk (m := []) (d := 1) (b := B255_9) (gs := [r1 = 0]) (c' := (20, [some (22, 0), some (0, v1), some (0, v2), none], [], (hc, (mset h 0 0 0), o))) K255_9 rfl ⟨q2, trivial⟩ ?_
    refine zF_blk (m := []) (d := 0) (b := B255_1) (gs := []) (c' := (21, [some (22, 0), some (0, v1), some (0, v2), none], [(0, (-1))], (hc, (mset h 0 0 0), o))) K255_1 rfl trivial ?_
    exact zF_riM (by decide +kernel) e
  · refine zF_blk (m := []) (d := 0) (b := B255_9) (gs := [¬ (r1 = 0)]) (c' := (13, [some (22, 0), some (0, v1), some (0, v2), none], [], (hc, (mset h 0 0 0), o))) K255_9 rfl ⟨q2, trivial⟩ ?_
    obtain ⟨r2, q3, e⟩ := zB_s e
    refine zF_blk (m := []) (d := 0) (b := B255_2) (gs := []) (c' := (14, [some (22, 0), some (0, v1), some (0, v2), none], [(0, v2)], (hc, (mset h 0 0 0), o))) K255_2 rfl trivial ?_
    refine zF_call (k := 242) (cl := 12) (n := 1) (i := .invokestatic 323) (args := [(0, v2)]) (rest := []) (g1 := (hc, (mset h 0 0 0), o)) (r1 := some (0, r2)) (by decide +kernel) rfl rfl rfl (st' := [(0, r2)]) rfl (S242 (Nat.le_trans (by decide) hd) v2 (mset h 0 0 0) _ q3) ?_
    rcases zI_s e with ⟨q4, e⟩ | ⟨q4, e⟩
    · refine zF_blk (m := []) (d := 1) (b := B255_8) (gs := [¬ r2 = 0]) (c' := (22, [some (22, 0), some (0, v1), some (0, v2), none], [], (hc, (mset h 0 0 0), o))) K255_8 rfl ⟨q4, trivial⟩ ?_
      obtain ⟨r3, q5, e⟩ := zB_s e
      refine zF_blk (m := []) (d := 0) (b := B255_3) (gs := []) (c' := (23, [some (22, 0), some (0, v1), some (0, v2), none], [(22, 0)], (hc, (mset h 0 0 0), o))) K255_3 rfl trivial ?_
      refine zF_call (k := 244) (cl := 12) (n := 1) (i := .invokevirtual 317) (args := [(22, 0)]) (rest := []) (g1 := (hc, r3, o)) (r1 := none) (by decide +kernel) rfl rfl rfl (st' := []) rfl (S244 (Nat.le_trans (by decide) hd)  (mset h 0 0 0) _ q5) ?_
      obtain ⟨r4, q6, e⟩ := zB_s e
      refine zF_blk (m := []) (d := 0) (b := B255_4) (gs := []) (c' := (28, [some (22, 0), some (0, v1), some (0, v2), none], [(0, v2), (22, 0)], (hc, r3, o))) K255_4 rfl trivial ?_
      refine zF_call (k := 235) (cl := 12) (n := 2) (i := .invokevirtual 314) (args := [(22, 0), (0, v2)]) (rest := []) (g1 := (hc, r4.2, o)) (r1 := some (0, r4.1)) (by decide +kernel) rfl rfl rfl (st' := [(0, r4.1)]) rfl (S235 (Nat.le_trans (by decide) hd) v2 r3 _ q6) ?_
      obtain ⟨r5, q7, e⟩ := zB_s e
      refine zF_blk (m := []) (d := 0) (b := B255_5) (gs := []) (c' := (35, [some (22, 0), some (0, v1), some (0, v2), none], [(0, 5), (0, v1), (22, 0)], (hc, r4.2, o))) K255_5 rfl trivial ?_
      refine zF_call (k := 213) (cl := 12) (n := 3) (i := .invokevirtual 247) (args := [(22, 0), (0, v1), (0, 5)]) (rest := []) (g1 := (hc, r4.2, o)) (r1 := some (0, r5)) (by decide +kernel) rfl rfl rfl (st' := [(0, r5)]) rfl (S213 (Nat.le_trans (by decide) hd) v1 5 r4.2 _ q7) ?_
      obtain ⟨r6, q8, e⟩ := zB_s e
      refine zF_blk (m := []) (d := 0) (b := B255_6) (gs := []) (c' := (40, [some (22, 0), some (0, v1), some (0, v2), some (0, r5)], [(22, 0)], (hc, r4.2, o))) K255_6 rfl trivial ?_
      refine zF_call (k := 245) (cl := 12) (n := 1) (i := .invokevirtual 320) (args := [(22, 0)]) (rest := []) (g1 := (hc, r6, o)) (r1 := none) (by decide +kernel) rfl rfl rfl (st' := []) rfl (S245 (Nat.le_trans (by decide) hd)  r4.2 _ q8) ?_
      refine zF_blk (m := []) (d := 0) (b := B255_7) (gs := []) (c' := (44, [some (22, 0), some (0, v1), some (0, v2), some (0, r5)], [(0, r5)], (hc, r6, o))) K255_7 rfl trivial ?_
      exact zF_riM (by decide +kernel) e
    · refine zF_blk (m := []) (d := 0) (b := B255_8) (gs := [¬ (¬ r2 = 0)]) (c' := (20, [some (22, 0), some (0, v1), some (0, v2), none], [], (hc, (mset h 0 0 0), o))) K255_8 rfl ⟨q4, trivial⟩ ?_
      refine zF_blk (m := []) (d := 0) (b := B255_1) (gs := []) (c' := (21, [some (22, 0), some (0, v1), some (0, v2), none], [(0, (-1))], (hc, (mset h 0 0 0), o))) K255_1 rfl trivial ?_
      exact zF_riM (by decide +kernel) e
def B67b_0 : List zRow := [(0, .aload_n 0, 1, (0, 0, 0)), (1, .getfield 24, 3, (1, 7, 5246482)), (4, .iload_n 1, 1, (0, 0, 0)), (5, .iconst 5, 1, (0, 0, 0)), (6, .imul, 1, (0, 0, 0)), (7, .iload_n 2, 1, (0, 0, 0)), (8, .iadd, 1, (0, 0, 0)), (9, .iaload, 1, (0, 0, 0))]
theorem K67b_0 : zRk 67 B67b_0 = true := by decide +kernel
/-- EchoVale$Course.logged(II)I -/
def F67b (v1 : Int) (v2 : Int) (h : zHC) : Option Int := zG (0 ≤ (wadd (wmul v1 5) v2) ∧ (wadd (wmul v1 5) v2) < 900) (some (h 71 1 (wadd (wmul v1 5) v2)))
set_option maxRecDepth 100000 in
theorem S67b {spec : zRn zH2} {hm : zHM} {o : Int → Int} {d : Nat} (hd : 1 ≤ d) (v1 : Int) (v2 : Int) (h : zHC) (v : Int) (e : F67b v1 v2 h = some v) : zRu2 spec d 67 [(11, 1), (0, v1), (0, v2)] (h, hm, o) (some (0, v)) (h, hm, o) := by
  refine zF_in (D := 0) (mx := 3) (L := [some (11, 1), some (0, v1), some (0, v2)]) (by decide +kernel) rfl rfl hd (fun d hd => ?_)
  unfold F67b at e
  obtain ⟨q1, e⟩ := zG_s e
  refine zF_blk (m := []) (d := 0) (b := B67b_0) (gs := [0 ≤ (wadd (wmul v1 5) v2) ∧ (wadd (wmul v1 5) v2) < 900]) (c' := (10, [some (11, 1), some (0, v1), some (0, v2)], [(0, (h 71 1 (wadd (wmul v1 5) v2)))], (h, hm, o))) K67b_0 rfl ⟨q1, trivial⟩ ?_
  obtain rfl := Option.some.inj e
  exact zF_ri (by decide +kernel)
def B115_0 : List zRow := [(0, .aload_n 0, 1, (0, 0, 0)), (1, .iload_n 1, 1, (0, 0, 0))]
theorem K115_0 : zRk 115 B115_0 = true := by decide +kernel
def B115_1 : List zRow := [(27, .iconst (-1), 1, (0, 0, 0))]
theorem K115_1 : zRk 115 B115_1 = true := by decide +kernel
def B115_2 : List zRow := [(8, .aload_n 0, 1, (0, 0, 0)), (9, .iload_n 2, 1, (0, 0, 0))]
theorem K115_2 : zRk 115 B115_2 = true := by decide +kernel
def B115_3 : List zRow := [(29, .aload_n 0, 1, (0, 0, 0)), (30, .getfield 60, 3, (11, 7, 135)), (33, .aload_n 0, 1, (0, 0, 0)), (34, .getfield 56, 3, (11, 6, 7))]
theorem K115_3 : zRk 115 B115_3 = true := by decide +kernel
def B115_4 : List zRow := [(40, .aload_n 0, 1, (0, 0, 0)), (41, .getfield 60, 3, (11, 7, 135)), (44, .aload_n 0, 1, (0, 0, 0)), (45, .getfield 19, 3, (11, 1, 39)), (48, .iload_n 3, 1, (0, 0, 0))]
theorem K115_4 : zRk 115 B115_4 = true := by decide +kernel
def B115_5 : List zRow := [(52, .pop, 1, (0, 0, 0)), (53, .aload_n 0, 1, (0, 0, 0)), (54, .getfield 56, 3, (11, 6, 7)), (57, .getfield 208, 3, (1, 2, 0)), (60, .istore 4, 2, (0, 0, 0))]
theorem K115_5 : zRk 115 B115_5 = true := by decide +kernel
def B115_6 : List zRow := [(21, .iload_n 3, 1, (0, 0, 0)), (22, .bipush 100, 2, (0, 0, 0)), (24, .if_icmp .le 5, 3, (0, 0, 0))]
theorem K115_6 : zRk 115 B115_6 = true := by decide +kernel
def B115_7 : List zRow := [(16, .iload_n 3, 1, (0, 0, 0)), (17, .iconst 1, 1, (0, 0, 0)), (18, .if_icmp .lt 9, 3, (0, 0, 0))]
theorem K115_7 : zRk 115 B115_7 = true := by decide +kernel
def B115_8 : List zRow := [(13, .ifCond .eq 14, 3, (0, 0, 0))]
theorem K115_8 : zRk 115 B115_8 = true := by decide +kernel
def B115_9 : List zRow := [(5, .ifCond .eq 22, 3, (0, 0, 0))]
theorem K115_9 : zRk 115 B115_9 = true := by decide +kernel
def B115_10 : List zRow := [(122, .iconst (-1), 1, (0, 0, 0))]
theorem K115_10 : zRk 115 B115_10 = true := by decide +kernel
def B115_11 : List zRow := [(74, .aload_n 0, 1, (0, 0, 0)), (75, .getfield 60, 3, (11, 7, 135)), (78, .iload 4, 2, (0, 0, 0)), (80, .iconst 0, 1, (0, 0, 0))]
theorem K115_11 : zRk 115 B115_11 = true := by decide +kernel
def B115_12 : List zRow := [(88, .aload_n 0, 1, (0, 0, 0)), (89, .getfield 60, 3, (11, 7, 135)), (92, .iload 4, 2, (0, 0, 0)), (94, .iconst 4, 1, (0, 0, 0))]
theorem K115_12 : zRk 115 B115_12 = true := by decide +kernel
def B115_13 : List zRow := [(98, .iload_n 1, 1, (0, 0, 0))]
theorem K115_13 : zRk 115 B115_13 = true := by decide +kernel
def B115_14 : List zRow := [(105, .aload_n 0, 1, (0, 0, 0)), (106, .getfield 60, 3, (11, 7, 135)), (109, .iload 4, 2, (0, 0, 0)), (111, .iconst 2, 1, (0, 0, 0))]
theorem K115_14 : zRk 115 B115_14 = true := by decide +kernel
def B115_15 : List zRow := [(102, .ifCond .eq 14, 3, (0, 0, 0))]
theorem K115_15 : zRk 115 B115_15 = true := by decide +kernel
def B115_16 : List zRow := [(84, .iload_n 2, 1, (0, 0, 0)), (85, .if_icmp .ne 31, 3, (0, 0, 0))]
theorem K115_16 : zRk 115 B115_16 = true := by decide +kernel
def B115_17 : List zRow := [(62, .iload 4, 2, (0, 0, 0)), (64, .aload_n 0, 1, (0, 0, 0)), (65, .getfield 60, 3, (11, 7, 135)), (68, .getfield 208, 3, (1, 2, 0)), (71, .if_icmp .ge 51, 3, (0, 0, 0))]
theorem K115_17 : zRk 115 B115_17 = true := by decide +kernel
def B115_18 : List zRow := [(116, .iinc 4 1, 3, (0, 0, 0)), (119, .goto (-57), 3, (0, 0, 0))]
theorem K115_18 : zRk 115 B115_18 = true := by decide +kernel
def F115_1 (k0 : Int → Int → Int → zHC → Option (Int × zHC)) (v1 : Int) (v2 : Int) (v4 : Int) (h : zHC) : Option (Int × zHC) := k0 v1 v2 (wadd v4 1) h
set_option maxRecDepth 100000 in
theorem T115_1 {spec : zRn zH2} {hm : zHM} {o : Int → Int} {d : Nat} (hd : 6 ≤ d) (k0 : Int → Int → Int → zHC → Option (Int × zHC)) (hk0 : ∀ (v1 : Int) (v2 : Int) (v4 : Int) (h : zHC) (v : (Int × zHC)), k0 v1 v2 v4 h = some v → zFin 0 (fun _ => 0) (zRu2 spec d) 115 (some (0, v.1)) (v.2, hm, o) (62, [some (21, 0), some (0, v1), some (0, v2), none, some (0, v4)], [], (h, hm, o))) (v1 : Int) (v2 : Int) (v4 : Int) (h : zHC) (v : (Int × zHC)) (e : F115_1 k0 v1 v2 v4 h = some v) : zFin 0 (fun _ => 0) (zRu2 spec d) 115 (some (0, v.1)) (v.2, hm, o) (116, [some (21, 0), some (0, v1), some (0, v2), none, some (0, v4)], [], (h, hm, o)) := by
  unfold F115_1 at e
  refine zF_blk (m := []) (d := 0) (b := B115_18) (gs := []) (c' := (62, [some (21, 0), some (0, v1), some (0, v2), none, some (0, (wadd v4 1))], [], (h, hm, o))) K115_18 rfl trivial ?_
  exact hk0 v1 v2 (wadd v4 1) h _ e
def F115_0 : Nat → Int → Int → Int → zHC → Option (Int × zHC)
  | 0, _, _, _, _ => none
  | n + 1, v1, v2, v4, h => if (h 66 1 0) ≤ v4 then some ((-1), h) else (F67b v4 0 h).bind fun r1 => if ¬ r1 = v2 then F115_1 (F115_0 n) v1 v2 v4 h else (F67b v4 4 h).bind fun r2 => (F65 r2 v1).bind fun r3 => if r3 = 0 then F115_1 (F115_0 n) v1 v2 v4 h else (F67b v4 2 h).bind fun r4 => some (r4, h)
set_option maxRecDepth 100000 in
theorem T115_0 {spec : zRn zH2} {hm : zHM} {o : Int → Int} {d : Nat} (hd : 6 ≤ d) : ∀ (n : Nat) (v1 : Int) (v2 : Int) (v4 : Int) (h : zHC) (v : (Int × zHC)), F115_0 n v1 v2 v4 h = some v → zFin 0 (fun _ => 0) (zRu2 spec d) 115 (some (0, v.1)) (v.2, hm, o) (62, [some (21, 0), some (0, v1), some (0, v2), none, some (0, v4)], [], (h, hm, o)) := by
  intro n
  induction n with
  | zero => intro v1 v2 v4 h v e; unfold F115_0 at e; cases e
  | succ n hk0 =>
    intro v1 v2 v4 h v e
    unfold F115_0 at e
    rcases zI_s e with ⟨q1, e⟩ | ⟨q1, e⟩
    · refine zF_blk (m := []) (d := 1) (b := B115_17) (gs := [(h 66 1 0) ≤ v4]) (c' := (122, [some (21, 0), some (0, v1), some (0, v2), none, some (0, v4)], [], (h, hm, o))) K115_17 rfl ⟨q1, trivial⟩ ?_
      refine zF_blk (m := []) (d := 0) (b := B115_10) (gs := []) (c' := (123, [some (21, 0), some (0, v1), some (0, v2), none, some (0, v4)], [(0, (-1))], (h, hm, o))) K115_10 rfl trivial ?_
      exact zF_riC (by decide +kernel) e
    · refine zF_blk (m := []) (d := 0) (b := B115_17) (gs := [¬ ((h 66 1 0) ≤ v4)]) (c' := (74, [some (21, 0), some (0, v1), some (0, v2), none, some (0, v4)], [], (h, hm, o))) K115_17 rfl ⟨q1, trivial⟩ ?_
      obtain ⟨r1, q2, e⟩ := zB_s e
      refine zF_blk (m := []) (d := 0) (b := B115_11) (gs := []) (c' := (81, [some (21, 0), some (0, v1), some (0, v2), none, some (0, v4)], [(0, 0), (0, v4), (11, 1)], (h, hm, o))) K115_11 rfl trivial ?_
      refine zF_call (k := 67) (cl := 1) (n := 3) (i := .invokevirtual 211) (args := [(11, 1), (0, v4), (0, 0)]) (rest := []) (g1 := (h, hm, o)) (r1 := some (0, r1)) (by decide +kernel) rfl rfl rfl (st' := [(0, r1)]) rfl (S67b (Nat.le_trans (by decide) hd) v4 0 h _ q2) ?_
      rcases zI_s e with ⟨q3, e⟩ | ⟨q3, e⟩
      · refine zF_blk (m := []) (d := 1) (b := B115_16) (gs := [¬ r1 = v2]) (c' := (116, [some (21, 0), some (0, v1), some (0, v2), none, some (0, v4)], [], (h, hm, o))) K115_16 rfl ⟨q3, trivial⟩ ?_
        exact T115_1 hd (F115_0 n) hk0 v1 v2 v4 h _ e
      · refine zF_blk (m := []) (d := 0) (b := B115_16) (gs := [¬ (¬ r1 = v2)]) (c' := (88, [some (21, 0), some (0, v1), some (0, v2), none, some (0, v4)], [], (h, hm, o))) K115_16 rfl ⟨q3, trivial⟩ ?_
        obtain ⟨r2, q4, e⟩ := zB_s e
        refine zF_blk (m := []) (d := 0) (b := B115_12) (gs := []) (c' := (95, [some (21, 0), some (0, v1), some (0, v2), none, some (0, v4)], [(0, 4), (0, v4), (11, 1)], (h, hm, o))) K115_12 rfl trivial ?_
        refine zF_call (k := 67) (cl := 1) (n := 3) (i := .invokevirtual 211) (args := [(11, 1), (0, v4), (0, 4)]) (rest := []) (g1 := (h, hm, o)) (r1 := some (0, r2)) (by decide +kernel) rfl rfl rfl (st' := [(0, r2)]) rfl (S67b (Nat.le_trans (by decide) hd) v4 4 h _ q4) ?_
        obtain ⟨r3, q5, e⟩ := zB_s e
        refine zF_blk (m := []) (d := 0) (b := B115_13) (gs := []) (c' := (99, [some (21, 0), some (0, v1), some (0, v2), none, some (0, v4)], [(0, v1), (0, r2)], (h, hm, o))) K115_13 rfl trivial ?_
        refine zF_call (k := 65) (cl := 11) (n := 2) (i := .invokestatic 272) (args := [(0, r2), (0, v1)]) (rest := []) (g1 := (h, hm, o)) (r1 := some (0, r3)) (by decide +kernel) rfl rfl rfl (st' := [(0, r3)]) rfl (S65 (Nat.le_trans (by decide) hd) r2 v1 h _ q5) ?_
        rcases zI_s e with ⟨q6, e⟩ | ⟨q6, e⟩
        · refine zF_blk (m := []) (d := 1) (b := B115_15) (gs := [r3 = 0]) (c' := (116, [some (21, 0), some (0, v1), some (0, v2), none, some (0, v4)], [], (h, hm, o))) K115_15 rfl ⟨q6, trivial⟩ ?_
          exact T115_1 hd (F115_0 n) hk0 v1 v2 v4 h _ e
        · refine zF_blk (m := []) (d := 0) (b := B115_15) (gs := [¬ (r3 = 0)]) (c' := (105, [some (21, 0), some (0, v1), some (0, v2), none, some (0, v4)], [], (h, hm, o))) K115_15 rfl ⟨q6, trivial⟩ ?_
          obtain ⟨r4, q7, e⟩ := zB_s e
          refine zF_blk (m := []) (d := 0) (b := B115_14) (gs := []) (c' := (112, [some (21, 0), some (0, v1), some (0, v2), none, some (0, v4)], [(0, 2), (0, v4), (11, 1)], (h, hm, o))) K115_14 rfl trivial ?_
          refine zF_call (k := 67) (cl := 1) (n := 3) (i := .invokevirtual 211) (args := [(11, 1), (0, v4), (0, 2)]) (rest := []) (g1 := (h, hm, o)) (r1 := some (0, r4)) (by decide +kernel) rfl rfl rfl (st' := [(0, r4)]) rfl (S67b (Nat.le_trans (by decide) hd) v4 2 h _ q7) ?_
          exact zF_riC (by decide +kernel) e
/-- EchoVale.when(III)I -/
def F115 (v1 : Int) (v2 : Int) (v3 : Int) (h : zHC) : Option (Int × zHC) := (F61 v1 h).bind fun r1 => if r1 = 0 then some ((-1), h) else (F58 v2 h).bind fun r2 => if r2 = 0 then some ((-1), h) else if v3 < 1 then some ((-1), h) else if v3 ≤ 100 then (F71c h).bind fun r3 => (F88b v3 r3).bind fun r4 => F115_0 zFu v1 v2 (r4.2 66 0 0) r4.2 else some ((-1), h)
set_option maxRecDepth 100000 in
theorem S115 {spec : zRn zH2} {hm : zHM} {o : Int → Int} {d : Nat} (hd : 7 ≤ d) (v1 : Int) (v2 : Int) (v3 : Int) (h : zHC) (v : (Int × zHC)) (e : F115 v1 v2 v3 h = some v) : zRu2 spec d 115 [(21, 0), (0, v1), (0, v2), (0, v3)] (h, hm, o) (some (0, v.1)) (v.2, hm, o) := by
  refine zF_in (D := 6) (mx := 5) (L := [some (21, 0), some (0, v1), some (0, v2), some (0, v3), none]) (by decide +kernel) rfl rfl hd (fun d hd => ?_)
  unfold F115 at e
  obtain ⟨r1, q1, e⟩ := zB_s e
  refine zF_blk (m := []) (d := 0) (b := B115_0) (gs := []) (c' := (2, [some (21, 0), some (0, v1), some (0, v2), some (0, v3), none], [(0, v1), (21, 0)], (h, hm, o))) K115_0 rfl trivial ?_
  refine zF_call (k := 61) (cl := 11) (n := 2) (i := .invokevirtual 172) (args := [(21, 0), (0, v1)]) (rest := []) (g1 := (h, hm, o)) (r1 := some (0, r1)) (by decide +kernel) rfl rfl rfl (st' := [(0, r1)]) rfl (S61 (Nat.le_trans (by decide) hd) v1 h _ q1) ?_
  rcases zI_s e with ⟨q2, e⟩ | ⟨q2, e⟩
  · refine zF_blk (m := []) (d := 1) (b := B115_9) (gs := [r1 = 0]) (c' := (27, [some (21, 0), some (0, v1), some (0, v2), some (0, v3), none], [], (h, hm, o))) K115_9 rfl ⟨q2, trivial⟩ ?_
    refine zF_blk (m := []) (d := 0) (b := B115_1) (gs := []) (c' := (28, [some (21, 0), some (0, v1), some (0, v2), some (0, v3), none], [(0, (-1))], (h, hm, o))) K115_1 rfl trivial ?_
    exact zF_riC (by decide +kernel) e
  · refine zF_blk (m := []) (d := 0) (b := B115_9) (gs := [¬ (r1 = 0)]) (c' := (8, [some (21, 0), some (0, v1), some (0, v2), some (0, v3), none], [], (h, hm, o))) K115_9 rfl ⟨q2, trivial⟩ ?_
    obtain ⟨r2, q3, e⟩ := zB_s e
    refine zF_blk (m := []) (d := 0) (b := B115_2) (gs := []) (c' := (10, [some (21, 0), some (0, v1), some (0, v2), some (0, v3), none], [(0, v2), (21, 0)], (h, hm, o))) K115_2 rfl trivial ?_
    refine zF_call (k := 58) (cl := 11) (n := 2) (i := .invokevirtual 191) (args := [(21, 0), (0, v2)]) (rest := []) (g1 := (h, hm, o)) (r1 := some (0, r2)) (by decide +kernel) rfl rfl rfl (st' := [(0, r2)]) rfl (S58 (Nat.le_trans (by decide) hd) v2 h _ q3) ?_
    rcases zI_s e with ⟨q4, e⟩ | ⟨q4, e⟩
    · refine zF_blk (m := []) (d := 1) (b := B115_8) (gs := [r2 = 0]) (c' := (27, [some (21, 0), some (0, v1), some (0, v2), some (0, v3), none], [], (h, hm, o))) K115_8 rfl ⟨q4, trivial⟩ ?_
      refine zF_blk (m := []) (d := 0) (b := B115_1) (gs := []) (c' := (28, [some (21, 0), some (0, v1), some (0, v2), some (0, v3), none], [(0, (-1))], (h, hm, o))) K115_1 rfl trivial ?_
      exact zF_riC (by decide +kernel) e
    · refine zF_blk (m := []) (d := 0) (b := B115_8) (gs := [¬ (r2 = 0)]) (c' := (16, [some (21, 0), some (0, v1), some (0, v2), some (0, v3), none], [], (h, hm, o))) K115_8 rfl ⟨q4, trivial⟩ ?_
      rcases zI_s e with ⟨q5, e⟩ | ⟨q5, e⟩
      · refine zF_blk (m := []) (d := 1) (b := B115_7) (gs := [v3 < 1]) (c' := (27, [some (21, 0), some (0, v1), some (0, v2), some (0, v3), none], [], (h, hm, o))) K115_7 rfl ⟨q5, trivial⟩ ?_
        refine zF_blk (m := []) (d := 0) (b := B115_1) (gs := []) (c' := (28, [some (21, 0), some (0, v1), some (0, v2), some (0, v3), none], [(0, (-1))], (h, hm, o))) K115_1 rfl trivial ?_
        exact zF_riC (by decide +kernel) e
      · refine zF_blk (m := []) (d := 0) (b := B115_7) (gs := [¬ (v3 < 1)]) (c' := (21, [some (21, 0), some (0, v1), some (0, v2), some (0, v3), none], [], (h, hm, o))) K115_7 rfl ⟨q5, trivial⟩ ?_
        rcases zI_s e with ⟨q6, e⟩ | ⟨q6, e⟩
        · refine zF_blk (m := []) (d := 1) (b := B115_6) (gs := [v3 ≤ 100]) (c' := (29, [some (21, 0), some (0, v1), some (0, v2), some (0, v3), none], [], (h, hm, o))) K115_6 rfl ⟨q6, trivial⟩ ?_
          obtain ⟨r3, q7, e⟩ := zB_s e
          refine zF_blk (m := []) (d := 0) (b := B115_3) (gs := []) (c' := (37, [some (21, 0), some (0, v1), some (0, v2), some (0, v3), none], [(11, 0), (11, 1)], (h, hm, o))) K115_3 rfl trivial ?_
          refine zF_call (k := 71) (cl := 1) (n := 2) (i := .invokevirtual 266) (args := [(11, 1), (11, 0)]) (rest := []) (g1 := (r3, hm, o)) (r1 := none) (by decide +kernel) rfl rfl rfl (st' := []) rfl (S71c (Nat.le_trans (by decide) hd)  h _ q7) ?_
          obtain ⟨r4, q8, e⟩ := zB_s e
          refine zF_blk (m := []) (d := 0) (b := B115_4) (gs := []) (c' := (49, [some (21, 0), some (0, v1), some (0, v2), some (0, v3), none], [(0, v3), (19, 0), (11, 1)], (r3, hm, o))) K115_4 rfl trivial ?_
          refine zF_call (k := 88) (cl := 1) (n := 3) (i := .invokevirtual 231) (args := [(11, 1), (19, 0), (0, v3)]) (rest := []) (g1 := (r4.2, hm, o)) (r1 := some (0, r4.1)) (by decide +kernel) rfl rfl rfl (st' := [(0, r4.1)]) rfl (S88b (Nat.le_trans (by decide) hd) v3 r3 _ q8) ?_
          refine zF_blk (m := []) (d := 0) (b := B115_5) (gs := []) (c' := (62, [some (21, 0), some (0, v1), some (0, v2), some (0, v3), some (0, (r4.2 66 0 0))], [], (r4.2, hm, o))) K115_5 rfl trivial ?_
          refine zF_blk (m := [true, true, true, false, true]) (d := 0) (b := []) (gs := []) (c' := (62, [some (21, 0), some (0, v1), some (0, v2), none, some (0, (r4.2 66 0 0))], [], (r4.2, hm, o))) rfl rfl trivial ?_
          exact T115_0 hd zFu v1 v2 (r4.2 66 0 0) r4.2 _ e
        · refine zF_blk (m := []) (d := 0) (b := B115_6) (gs := [¬ (v3 ≤ 100)]) (c' := (27, [some (21, 0), some (0, v1), some (0, v2), some (0, v3), none], [], (h, hm, o))) K115_6 rfl ⟨q6, trivial⟩ ?_
          refine zF_blk (m := []) (d := 0) (b := B115_1) (gs := []) (c' := (28, [some (21, 0), some (0, v1), some (0, v2), some (0, v3), none], [(0, (-1))], (h, hm, o))) K115_1 rfl trivial ?_
          exact zF_riC (by decide +kernel) e
def B256_0 : List zRow := [(0, .aload_n 0, 1, (0, 0, 0)), (1, .iconst 0, 1, (0, 0, 0)), (2, .putfield 81, 3, (12, 0, 0)), (5, .aload_n 0, 1, (0, 0, 0)), (6, .iload_n 1, 1, (0, 0, 0))]
theorem K256_0 : zRk 256 B256_0 = true := by decide +kernel
def B256_1 : List zRow := [(31, .iconst (-1), 1, (0, 0, 0))]
theorem K256_1 : zRk 256 B256_1 = true := by decide +kernel
def B256_2 : List zRow := [(13, .aload_n 0, 1, (0, 0, 0)), (14, .iload_n 2, 1, (0, 0, 0))]
theorem K256_2 : zRk 256 B256_2 = true := by decide +kernel
def B256_3 : List zRow := [(21, .iload_n 3, 1, (0, 0, 0)), (22, .iconst 1, 1, (0, 0, 0)), (23, .bipush 100, 2, (0, 0, 0))]
theorem K256_3 : zRk 256 B256_3 = true := by decide +kernel
def B256_4 : List zRow := [(33, .aload_n 0, 1, (0, 0, 0))]
theorem K256_4 : zRk 256 B256_4 = true := by decide +kernel
def B256_5 : List zRow := [(37, .aload_n 0, 1, (0, 0, 0)), (38, .getfield 13, 3, (12, 14, 5251442)), (41, .sipush 997, 3, (0, 0, 0)), (44, .iaload, 1, (0, 0, 0)), (45, .istore 4, 2, (0, 0, 0)), (47, .aload_n 0, 1, (0, 0, 0)), (48, .iload_n 3, 1, (0, 0, 0))]
theorem K256_5 : zRk 256 B256_5 = true := by decide +kernel
def B256_6 : List zRow := [(52, .pop, 1, (0, 0, 0)), (53, .iconst (-1), 1, (0, 0, 0)), (54, .istore 5, 2, (0, 0, 0)), (56, .iload 4, 2, (0, 0, 0)), (58, .istore 6, 2, (0, 0, 0))]
theorem K256_6 : zRk 256 B256_6 = true := by decide +kernel
def B256_7 : List zRow := [(28, .ifCond .ne 5, 3, (0, 0, 0))]
theorem K256_7 : zRk 256 B256_7 = true := by decide +kernel
def B256_8 : List zRow := [(18, .ifCond .eq 13, 3, (0, 0, 0))]
theorem K256_8 : zRk 256 B256_8 = true := by decide +kernel
def B256_9 : List zRow := [(10, .ifCond .eq 21, 3, (0, 0, 0))]
theorem K256_9 : zRk 256 B256_9 = true := by decide +kernel
def B256_10 : List zRow := [(79, .aload_n 0, 1, (0, 0, 0)), (80, .getfield 13, 3, (12, 14, 5251442)), (83, .sipush 998, 3, (0, 0, 0)), (86, .iconst 5, 1, (0, 0, 0)), (87, .iload 6, 2, (0, 0, 0))]
theorem K256_10 : zRk 256 B256_10 = true := by decide +kernel
def B256_11 : List zRow := [(89, .imul, 1, (0, 0, 0))]
theorem K256_11 : zRk 256 B256_11 = true := by decide +kernel
def B256_12 : List zRow := [(96, .aload_n 0, 1, (0, 0, 0)), (97, .getfield 13, 3, (12, 14, 5251442)), (100, .sipush 998, 3, (0, 0, 0)), (103, .iconst 5, 1, (0, 0, 0)), (104, .iload 6, 2, (0, 0, 0))]
theorem K256_12 : zRk 256 B256_12 = true := by decide +kernel
def B256_13 : List zRow := [(106, .imul, 1, (0, 0, 0))]
theorem K256_13 : zRk 256 B256_13 = true := by decide +kernel
def B256_14 : List zRow := [(107, .iadd, 1, (0, 0, 0)), (108, .iconst 4, 1, (0, 0, 0)), (109, .iadd, 1, (0, 0, 0)), (110, .iaload, 1, (0, 0, 0)), (111, .iload_n 1, 1, (0, 0, 0))]
theorem K256_14 : zRk 256 B256_14 = true := by decide +kernel
def B256_15 : List zRow := [(118, .aload_n 0, 1, (0, 0, 0)), (119, .getfield 13, 3, (12, 14, 5251442)), (122, .sipush 998, 3, (0, 0, 0)), (125, .iconst 5, 1, (0, 0, 0)), (126, .iload 6, 2, (0, 0, 0))]
theorem K256_15 : zRk 256 B256_15 = true := by decide +kernel
def B256_16 : List zRow := [(128, .imul, 1, (0, 0, 0))]
theorem K256_16 : zRk 256 B256_16 = true := by decide +kernel
def B256_17 : List zRow := [(129, .iadd, 1, (0, 0, 0)), (130, .iconst 2, 1, (0, 0, 0)), (131, .iadd, 1, (0, 0, 0)), (132, .iaload, 1, (0, 0, 0)), (133, .istore 5, 2, (0, 0, 0))]
theorem K256_17 : zRk 256 B256_17 = true := by decide +kernel
def B256_18 : List zRow := [(115, .ifCond .eq 20, 3, (0, 0, 0))]
theorem K256_18 : zRk 256 B256_18 = true := by decide +kernel
def B256_19 : List zRow := [(90, .iadd, 1, (0, 0, 0)), (91, .iaload, 1, (0, 0, 0)), (92, .iload_n 2, 1, (0, 0, 0)), (93, .if_icmp .ne 42, 3, (0, 0, 0))]
theorem K256_19 : zRk 256 B256_19 = true := by decide +kernel
def B256_20 : List zRow := [(73, .iload 5, 2, (0, 0, 0)), (75, .iconst (-1), 1, (0, 0, 0)), (76, .if_icmp .ne 65, 3, (0, 0, 0))]
theorem K256_20 : zRk 256 B256_20 = true := by decide +kernel
def B256_21 : List zRow := [(60, .iload 6, 2, (0, 0, 0)), (62, .aload_n 0, 1, (0, 0, 0)), (63, .getfield 13, 3, (12, 14, 5251442)), (66, .sipush 997, 3, (0, 0, 0)), (69, .iaload, 1, (0, 0, 0)), (70, .if_icmp .ge 71, 3, (0, 0, 0))]
theorem K256_21 : zRk 256 B256_21 = true := by decide +kernel
def B256_22 : List zRow := [(135, .iinc 6 1, 3, (0, 0, 0)), (138, .goto (-78), 3, (0, 0, 0))]
theorem K256_22 : zRk 256 B256_22 = true := by decide +kernel
def B256_23 : List zRow := [(141, .aload_n 0, 1, (0, 0, 0))]
theorem K256_23 : zRk 256 B256_23 = true := by decide +kernel
def B256_24 : List zRow := [(145, .iload 5, 2, (0, 0, 0))]
theorem K256_24 : zRk 256 B256_24 = true := by decide +kernel
def F256_1 (v5 : Int) (h : zHM) : Option (Int × zHM) := (F245 h).bind fun r1 => some (v5, r1)
set_option maxRecDepth 100000 in
theorem T256_1 {spec : zRn zH2} {hc : zHC} {o : Int → Int} {d : Nat} (hd : 6 ≤ d) (v5 : Int) (h : zHM) (v : (Int × zHM)) (e : F256_1 v5 h = some v) : zFin 0 (fun _ => 0) (zRu2 spec d) 256 (some (0, v.1)) (hc, v.2, o) (141, [some (22, 0), none, none, none, none, some (0, v5), none], [], (hc, h, o)) := by
  unfold F256_1 at e
  obtain ⟨r1, q1, e⟩ := zB_s e
  refine zF_blk (m := []) (d := 0) (b := B256_23) (gs := []) (c' := (142, [some (22, 0), none, none, none, none, some (0, v5), none], [(22, 0)], (hc, h, o))) K256_23 rfl trivial ?_
  refine zF_call (k := 245) (cl := 12) (n := 1) (i := .invokevirtual 320) (args := [(22, 0)]) (rest := []) (g1 := (hc, r1, o)) (r1 := none) (by decide +kernel) rfl rfl rfl (st' := []) rfl (S245 (Nat.le_trans (by decide) hd)  h _ q1) ?_
  refine zF_blk (m := []) (d := 0) (b := B256_24) (gs := []) (c' := (147, [some (22, 0), none, none, none, none, some (0, v5), none], [(0, v5)], (hc, r1, o))) K256_24 rfl trivial ?_
  exact zF_riM (by decide +kernel) e
def F256_2 (k0 : Int → Int → Int → Int → zHM → Option (Int × zHM)) (v1 : Int) (v2 : Int) (v5 : Int) (v6 : Int) (h : zHM) : Option (Int × zHM) := k0 v1 v2 v5 (wadd v6 1) h
set_option maxRecDepth 100000 in
theorem T256_2 {spec : zRn zH2} {hc : zHC} {o : Int → Int} {d : Nat} (hd : 6 ≤ d) (k0 : Int → Int → Int → Int → zHM → Option (Int × zHM)) (hk0 : ∀ (v1 : Int) (v2 : Int) (v5 : Int) (v6 : Int) (h : zHM) (v : (Int × zHM)), k0 v1 v2 v5 v6 h = some v → zFin 0 (fun _ => 0) (zRu2 spec d) 256 (some (0, v.1)) (hc, v.2, o) (60, [some (22, 0), some (0, v1), some (0, v2), none, none, some (0, v5), some (0, v6)], [], (hc, h, o))) (v1 : Int) (v2 : Int) (v5 : Int) (v6 : Int) (h : zHM) (v : (Int × zHM)) (e : F256_2 k0 v1 v2 v5 v6 h = some v) : zFin 0 (fun _ => 0) (zRu2 spec d) 256 (some (0, v.1)) (hc, v.2, o) (135, [some (22, 0), some (0, v1), some (0, v2), none, none, some (0, v5), some (0, v6)], [], (hc, h, o)) := by
  unfold F256_2 at e
  refine zF_blk (m := []) (d := 0) (b := B256_22) (gs := []) (c' := (60, [some (22, 0), some (0, v1), some (0, v2), none, none, some (0, v5), some (0, (wadd v6 1))], [], (hc, h, o))) K256_22 rfl trivial ?_
  exact hk0 v1 v2 v5 (wadd v6 1) h _ e
def F256_0 : Nat → Int → Int → Int → Int → zHM → Option (Int × zHM)
  | 0, _, _, _, _, _ => none
  | n + 1, v1, v2, v5, v6, h => if (h 14 997) ≤ v6 then F256_1 v5 h else if ¬ v5 = (-1) then F256_1 v5 h else zG (0 ≤ (wadd 998 (wmul 5 v6)) ∧ (wadd 998 (wmul 5 v6)) < 2140) (if ¬ (h 14 (wadd 998 (wmul 5 v6))) = v2 then F256_2 (F256_0 n) v1 v2 v5 v6 h else zG (0 ≤ (wadd (wadd 998 (wmul 5 v6)) 4) ∧ (wadd (wadd 998 (wmul 5 v6)) 4) < 2140) ((F214 (h 14 (wadd (wadd 998 (wmul 5 v6)) 4)) v1).bind fun r1 => if r1 = 0 then F256_2 (F256_0 n) v1 v2 v5 v6 h else zG (0 ≤ (wadd (wadd 998 (wmul 5 v6)) 2) ∧ (wadd (wadd 998 (wmul 5 v6)) 2) < 2140) (F256_2 (F256_0 n) v1 v2 (h 14 (wadd (wadd 998 (wmul 5 v6)) 2)) v6 h)))
set_option maxRecDepth 100000 in
theorem T256_0 {spec : zRn zH2} {hc : zHC} {o : Int → Int} {d : Nat} (hd : 6 ≤ d) : ∀ (n : Nat) (v1 : Int) (v2 : Int) (v5 : Int) (v6 : Int) (h : zHM) (v : (Int × zHM)), F256_0 n v1 v2 v5 v6 h = some v → zFin 0 (fun _ => 0) (zRu2 spec d) 256 (some (0, v.1)) (hc, v.2, o) (60, [some (22, 0), some (0, v1), some (0, v2), none, none, some (0, v5), some (0, v6)], [], (hc, h, o)) := by
  intro n
  induction n with
  | zero => intro v1 v2 v5 v6 h v e; unfold F256_0 at e; cases e
  | succ n hk0 =>
    intro v1 v2 v5 v6 h v e
    unfold F256_0 at e
    rcases zI_s e with ⟨q1, e⟩ | ⟨q1, e⟩
    · refine zF_blk (m := []) (d := 1) (b := B256_21) (gs := [0 ≤ 997 ∧ 997 < 2140, (h 14 997) ≤ v6]) (c' := (141, [some (22, 0), some (0, v1), some (0, v2), none, none, some (0, v5), some (0, v6)], [], (hc, h, o))) K256_21 rfl ⟨by decide, q1, trivial⟩ ?_
      refine zF_blk (m := [true, false, false, false, false, true, false]) (d := 0) (b := []) (gs := []) (c' := (141, [some (22, 0), none, none, none, none, some (0, v5), none], [], (hc, h, o))) rfl rfl trivial ?_
      exact T256_1 hd v5 h _ e
    · refine zF_blk (m := []) (d := 0) (b := B256_21) (gs := [0 ≤ 997 ∧ 997 < 2140, ¬ ((h 14 997) ≤ v6)]) (c' := (73, [some (22, 0), some (0, v1), some (0, v2), none, none, some (0, v5), some (0, v6)], [], (hc, h, o))) K256_21 rfl ⟨by decide, q1, trivial⟩ ?_
      rcases zI_s e with ⟨q2, e⟩ | ⟨q2, e⟩
      · refine zF_blk (m := []) (d := 1) (b := B256_20) (gs := [¬ v5 = (-1)]) (c' := (141, [some (22, 0), some (0, v1), some (0, v2), none, none, some (0, v5), some (0, v6)], [], (hc, h, o))) K256_20 rfl ⟨q2, trivial⟩ ?_
        refine zF_blk (m := [true, false, false, false, false, true, false]) (d := 0) (b := []) (gs := []) (c' := (141, [some (22, 0), none, none, none, none, some (0, v5), none], [], (hc, h, o))) rfl rfl trivial ?_
        exact T256_1 hd v5 h _ e
      · refine zF_blk (m := []) (d := 0) (b := B256_20) (gs := [¬ (¬ v5 = (-1))]) (c' := (79, [some (22, 0), some (0, v1), some (0, v2), none, none, some (0, v5), some (0, v6)], [], (hc, h, o))) K256_20 rfl ⟨q2, trivial⟩ ?_
        obtain ⟨q3, e⟩ := zG_s e
        refine zF_blk (m := []) (d := 0) (b := B256_10) (gs := []) (c' := (89, [some (22, 0), some (0, v1), some (0, v2), none, none, some (0, v5), some (0, v6)], [(0, v6), (0, 5), (0, 998), (1344370422, 0)], (hc, h, o))) K256_10 rfl trivial ?_
        refine zF_blk (m := []) (d := 0) (b := B256_11) (gs := []) (c' := (90, [some (22, 0), some (0, v1), some (0, v2), none, none, some (0, v5), some (0, v6)], [(0, (wmul 5 v6)), (0, 998), (1344370422, 0)], (hc, h, o))) K256_11 rfl trivial ?_
        rcases zI_s e with ⟨q4, e⟩ | ⟨q4, e⟩
        · refine zF_blk (m := []) (d := 1) (b := B256_19) (gs := [0 ≤ (wadd 998 (wmul 5 v6)) ∧ (wadd 998 (wmul 5 v6)) < 2140, ¬ (h 14 (wadd 998 (wmul 5 v6))) = v2]) (c' := (135, [some (22, 0), some (0, v1), some (0, v2), none, none, some (0, v5), some (0, v6)], [], (hc, h, o))) K256_19 rfl ⟨q3, q4, trivial⟩ ?_
          exact T256_2 hd (F256_0 n) hk0 v1 v2 v5 v6 h _ e
        · refine zF_blk (m := []) (d := 0) (b := B256_19) (gs := [0 ≤ (wadd 998 (wmul 5 v6)) ∧ (wadd 998 (wmul 5 v6)) < 2140, ¬ (¬ (h 14 (wadd 998 (wmul 5 v6))) = v2)]) (c' := (96, [some (22, 0), some (0, v1), some (0, v2), none, none, some (0, v5), some (0, v6)], [], (hc, h, o))) K256_19 rfl ⟨q3, q4, trivial⟩ ?_
          obtain ⟨q5, e⟩ := zG_s e
          refine zF_blk (m := []) (d := 0) (b := B256_12) (gs := []) (c' := (106, [some (22, 0), some (0, v1), some (0, v2), none, none, some (0, v5), some (0, v6)], [(0, v6), (0, 5), (0, 998), (1344370422, 0)], (hc, h, o))) K256_12 rfl trivial ?_
          refine zF_blk (m := []) (d := 0) (b := B256_13) (gs := []) (c' := (107, [some (22, 0), some (0, v1), some (0, v2), none, none, some (0, v5), some (0, v6)], [(0, (wmul 5 v6)), (0, 998), (1344370422, 0)], (hc, h, o))) K256_13 rfl trivial ?_
          obtain ⟨r1, q6, e⟩ := zB_s e
          refine zF_blk (m := []) (d := 0) (b := B256_14) (gs := [0 ≤ (wadd (wadd 998 (wmul 5 v6)) 4) ∧ (wadd (wadd 998 (wmul 5 v6)) 4) < 2140]) (c' := (112, [some (22, 0), some (0, v1), some (0, v2), none, none, some (0, v5), some (0, v6)], [(0, v1), (0, (h 14 (wadd (wadd 998 (wmul 5 v6)) 4)))], (hc, h, o))) K256_14 rfl ⟨q5, trivial⟩ ?_
          refine zF_call (k := 214) (cl := 12) (n := 2) (i := .invokestatic 251) (args := [(0, (h 14 (wadd (wadd 998 (wmul 5 v6)) 4))), (0, v1)]) (rest := []) (g1 := (hc, h, o)) (r1 := some (0, r1)) (by decide +kernel) rfl rfl rfl (st' := [(0, r1)]) rfl (S214 (Nat.le_trans (by decide) hd) (h 14 (wadd (wadd 998 (wmul 5 v6)) 4)) v1 h _ q6) ?_
          rcases zI_s e with ⟨q7, e⟩ | ⟨q7, e⟩
          · refine zF_blk (m := []) (d := 1) (b := B256_18) (gs := [r1 = 0]) (c' := (135, [some (22, 0), some (0, v1), some (0, v2), none, none, some (0, v5), some (0, v6)], [], (hc, h, o))) K256_18 rfl ⟨q7, trivial⟩ ?_
            exact T256_2 hd (F256_0 n) hk0 v1 v2 v5 v6 h _ e
          · refine zF_blk (m := []) (d := 0) (b := B256_18) (gs := [¬ (r1 = 0)]) (c' := (118, [some (22, 0), some (0, v1), some (0, v2), none, none, some (0, v5), some (0, v6)], [], (hc, h, o))) K256_18 rfl ⟨q7, trivial⟩ ?_
            obtain ⟨q8, e⟩ := zG_s e
            refine zF_blk (m := []) (d := 0) (b := B256_15) (gs := []) (c' := (128, [some (22, 0), some (0, v1), some (0, v2), none, none, some (0, v5), some (0, v6)], [(0, v6), (0, 5), (0, 998), (1344370422, 0)], (hc, h, o))) K256_15 rfl trivial ?_
            refine zF_blk (m := []) (d := 0) (b := B256_16) (gs := []) (c' := (129, [some (22, 0), some (0, v1), some (0, v2), none, none, some (0, v5), some (0, v6)], [(0, (wmul 5 v6)), (0, 998), (1344370422, 0)], (hc, h, o))) K256_16 rfl trivial ?_
            refine zF_blk (m := []) (d := 0) (b := B256_17) (gs := [0 ≤ (wadd (wadd 998 (wmul 5 v6)) 2) ∧ (wadd (wadd 998 (wmul 5 v6)) 2) < 2140]) (c' := (135, [some (22, 0), some (0, v1), some (0, v2), none, none, some (0, (h 14 (wadd (wadd 998 (wmul 5 v6)) 2))), some (0, v6)], [], (hc, h, o))) K256_17 rfl ⟨q8, trivial⟩ ?_
            exact T256_2 hd (F256_0 n) hk0 v1 v2 (h 14 (wadd (wadd 998 (wmul 5 v6)) 2)) v6 h _ e
/-- EchoValeModel.when(III)I -/
def F256 (v1 : Int) (v2 : Int) (v3 : Int) (h : zHM) : Option (Int × zHM) := (F210 v1 (mset h 0 0 0)).bind fun r1 => if r1 = 0 then some ((-1), (mset h 0 0 0)) else (F217 v2 (mset h 0 0 0)).bind fun r2 => if r2 = 0 then some ((-1), (mset h 0 0 0)) else (F188 v3 1 100).bind fun r3 => if ¬ r3 = 0 then (F244 (mset h 0 0 0)).bind fun r4 => (F235 v3 r4).bind fun r5 => F256_0 zFu v1 v2 (-1) (r4 14 997) r5.2 else some ((-1), (mset h 0 0 0))
set_option maxRecDepth 100000 in
theorem S256 {spec : zRn zH2} {hc : zHC} {o : Int → Int} {d : Nat} (hd : 7 ≤ d) (v1 : Int) (v2 : Int) (v3 : Int) (h : zHM) (v : (Int × zHM)) (e : F256 v1 v2 v3 h = some v) : zRu2 spec d 256 [(22, 0), (0, v1), (0, v2), (0, v3)] (hc, h, o) (some (0, v.1)) (hc, v.2, o) := by
  refine zF_in (D := 6) (mx := 7) (L := [some (22, 0), some (0, v1), some (0, v2), some (0, v3), none, none, none]) (by decide +kernel) rfl rfl hd (fun d hd => ?_)
  unfold F256 at e
  obtain ⟨r1, q1, e⟩ := zB_s e
  refine zF_blk (m := []) (d := 0) (b := B256_0) (gs := []) (c' := (7, [some (22, 0), some (0, v1), some (0, v2), some (0, v3), none, none, none], [(0, v1), (22, 0)], (hc, (mset h 0 0 0), o))) K256_0 rfl trivial ?_
  refine zF_call (k := 210) (cl := 12) (n := 2) (i := .invokevirtual 260) (args := [(22, 0), (0, v1)]) (rest := []) (g1 := (hc, (mset h 0 0 0), o)) (r1 := some (0, r1)) (by decide +kernel) rfl rfl rfl (st' := [(0, r1)]) rfl (S210 (Nat.le_trans (by decide) hd) v1 (mset h 0 0 0) _ q1) ?_
  rcases zI_s e with ⟨q2, e⟩ | ⟨q2, e⟩
  · refine zF_blk (m := []) (d := 1) (b := B256_9) (gs := [r1 = 0]) (c' := (31, [some (22, 0), some (0, v1), some (0, v2), some (0, v3), none, none, none], [], (hc, (mset h 0 0 0), o))) K256_9 rfl ⟨q2, trivial⟩ ?_
    refine zF_blk (m := []) (d := 0) (b := B256_1) (gs := []) (c' := (32, [some (22, 0), some (0, v1), some (0, v2), some (0, v3), none, none, none], [(0, (-1))], (hc, (mset h 0 0 0), o))) K256_1 rfl trivial ?_
    exact zF_riM (by decide +kernel) e
  · refine zF_blk (m := []) (d := 0) (b := B256_9) (gs := [¬ (r1 = 0)]) (c' := (13, [some (22, 0), some (0, v1), some (0, v2), some (0, v3), none, none, none], [], (hc, (mset h 0 0 0), o))) K256_9 rfl ⟨q2, trivial⟩ ?_
    obtain ⟨r2, q3, e⟩ := zB_s e
    refine zF_blk (m := []) (d := 0) (b := B256_2) (gs := []) (c' := (15, [some (22, 0), some (0, v1), some (0, v2), some (0, v3), none, none, none], [(0, v2), (22, 0)], (hc, (mset h 0 0 0), o))) K256_2 rfl trivial ?_
    refine zF_call (k := 217) (cl := 12) (n := 2) (i := .invokevirtual 266) (args := [(22, 0), (0, v2)]) (rest := []) (g1 := (hc, (mset h 0 0 0), o)) (r1 := some (0, r2)) (by decide +kernel) rfl rfl rfl (st' := [(0, r2)]) rfl (S217 (Nat.le_trans (by decide) hd) v2 (mset h 0 0 0) _ q3) ?_
    rcases zI_s e with ⟨q4, e⟩ | ⟨q4, e⟩
    · refine zF_blk (m := []) (d := 1) (b := B256_8) (gs := [r2 = 0]) (c' := (31, [some (22, 0), some (0, v1), some (0, v2), some (0, v3), none, none, none], [], (hc, (mset h 0 0 0), o))) K256_8 rfl ⟨q4, trivial⟩ ?_
      refine zF_blk (m := []) (d := 0) (b := B256_1) (gs := []) (c' := (32, [some (22, 0), some (0, v1), some (0, v2), some (0, v3), none, none, none], [(0, (-1))], (hc, (mset h 0 0 0), o))) K256_1 rfl trivial ?_
      exact zF_riM (by decide +kernel) e
    · refine zF_blk (m := []) (d := 0) (b := B256_8) (gs := [¬ (r2 = 0)]) (c' := (21, [some (22, 0), some (0, v1), some (0, v2), some (0, v3), none, none, none], [], (hc, (mset h 0 0 0), o))) K256_8 rfl ⟨q4, trivial⟩ ?_
      obtain ⟨r3, q5, e⟩ := zB_s e
      refine zF_blk (m := []) (d := 0) (b := B256_3) (gs := []) (c' := (25, [some (22, 0), some (0, v1), some (0, v2), some (0, v3), none, none, none], [(0, 100), (0, 1), (0, v3)], (hc, (mset h 0 0 0), o))) K256_3 rfl trivial ?_
      refine zF_call (k := 188) (cl := 12) (n := 3) (i := .invokestatic 151) (args := [(0, v3), (0, 1), (0, 100)]) (rest := []) (g1 := (hc, (mset h 0 0 0), o)) (r1 := some (0, r3)) (by decide +kernel) rfl rfl rfl (st' := [(0, r3)]) rfl (S188 (Nat.le_trans (by decide) hd) v3 1 100 (mset h 0 0 0) _ q5) ?_
      rcases zI_s e with ⟨q6, e⟩ | ⟨q6, e⟩
      · refine zF_blk (m := []) (d := 1) (b := B256_7) (gs := [¬ r3 = 0]) (c' := (33, [some (22, 0), some (0, v1), some (0, v2), some (0, v3), none, none, none], [], (hc, (mset h 0 0 0), o))) K256_7 rfl ⟨q6, trivial⟩ ?_
        obtain ⟨r4, q7, e⟩ := zB_s e
        refine zF_blk (m := []) (d := 0) (b := B256_4) (gs := []) (c' := (34, [some (22, 0), some (0, v1), some (0, v2), some (0, v3), none, none, none], [(22, 0)], (hc, (mset h 0 0 0), o))) K256_4 rfl trivial ?_
        refine zF_call (k := 244) (cl := 12) (n := 1) (i := .invokevirtual 317) (args := [(22, 0)]) (rest := []) (g1 := (hc, r4, o)) (r1 := none) (by decide +kernel) rfl rfl rfl (st' := []) rfl (S244 (Nat.le_trans (by decide) hd)  (mset h 0 0 0) _ q7) ?_
        obtain ⟨r5, q8, e⟩ := zB_s e
        refine zF_blk (m := []) (d := 0) (b := B256_5) (gs := [0 ≤ 997 ∧ 997 < 2140]) (c' := (49, [some (22, 0), some (0, v1), some (0, v2), some (0, v3), some (0, (r4 14 997)), none, none], [(0, v3), (22, 0)], (hc, r4, o))) K256_5 rfl ⟨by decide, trivial⟩ ?_
        refine zF_call (k := 235) (cl := 12) (n := 2) (i := .invokevirtual 314) (args := [(22, 0), (0, v3)]) (rest := []) (g1 := (hc, r5.2, o)) (r1 := some (0, r5.1)) (by decide +kernel) rfl rfl rfl (st' := [(0, r5.1)]) rfl (S235 (Nat.le_trans (by decide) hd) v3 r4 _ q8) ?_
        refine zF_blk (m := []) (d := 0) (b := B256_6) (gs := []) (c' := (60, [some (22, 0), some (0, v1), some (0, v2), some (0, v3), some (0, (r4 14 997)), some (0, (-1)), some (0, (r4 14 997))], [], (hc, r5.2, o))) K256_6 rfl trivial ?_
        refine zF_blk (m := [true, true, true, false, false, true, true]) (d := 0) (b := []) (gs := []) (c' := (60, [some (22, 0), some (0, v1), some (0, v2), none, none, some (0, (-1)), some (0, (r4 14 997))], [], (hc, r5.2, o))) rfl rfl trivial ?_
        exact T256_0 hd zFu v1 v2 (-1) (r4 14 997) r5.2 _ e
      · refine zF_blk (m := []) (d := 0) (b := B256_7) (gs := [¬ (¬ r3 = 0)]) (c' := (31, [some (22, 0), some (0, v1), some (0, v2), some (0, v3), none, none, none], [], (hc, (mset h 0 0 0), o))) K256_7 rfl ⟨q6, trivial⟩ ?_
        refine zF_blk (m := []) (d := 0) (b := B256_1) (gs := []) (c' := (32, [some (22, 0), some (0, v1), some (0, v2), some (0, v3), none, none, none], [(0, (-1))], (hc, (mset h 0 0 0), o))) K256_1 rfl trivial ?_
        exact zF_riM (by decide +kernel) e
def B116_0 : List zRow := [(0, .aload_n 0, 1, (0, 0, 0)), (1, .iload_n 1, 1, (0, 0, 0))]
theorem K116_0 : zRk 116 B116_0 = true := by decide +kernel
def B116_1 : List zRow := [(23, .iconst (-1), 1, (0, 0, 0))]
theorem K116_1 : zRk 116 B116_1 = true := by decide +kernel
def B116_2 : List zRow := [(8, .aload_n 0, 1, (0, 0, 0)), (9, .iload_n 2, 1, (0, 0, 0))]
theorem K116_2 : zRk 116 B116_2 = true := by decide +kernel
def B116_3 : List zRow := [(16, .iload_n 3, 1, (0, 0, 0))]
theorem K116_3 : zRk 116 B116_3 = true := by decide +kernel
def B116_4 : List zRow := [(25, .aload_n 0, 1, (0, 0, 0)), (26, .getfield 60, 3, (11, 7, 135)), (29, .aload_n 0, 1, (0, 0, 0)), (30, .getfield 56, 3, (11, 6, 7))]
theorem K116_4 : zRk 116 B116_4 = true := by decide +kernel
def B116_5 : List zRow := [(36, .iconst 0, 1, (0, 0, 0)), (37, .istore 4, 2, (0, 0, 0)), (39, .iconst 0, 1, (0, 0, 0)), (40, .istore 5, 2, (0, 0, 0))]
theorem K116_5 : zRk 116 B116_5 = true := by decide +kernel
def B116_6 : List zRow := [(20, .ifCond .ne 5, 3, (0, 0, 0))]
theorem K116_6 : zRk 116 B116_6 = true := by decide +kernel
def B116_7 : List zRow := [(13, .ifCond .eq 10, 3, (0, 0, 0))]
theorem K116_7 : zRk 116 B116_7 = true := by decide +kernel
def B116_8 : List zRow := [(5, .ifCond .eq 18, 3, (0, 0, 0))]
theorem K116_8 : zRk 116 B116_8 = true := by decide +kernel
def B116_9 : List zRow := [(103, .iload 4, 2, (0, 0, 0))]
theorem K116_9 : zRk 116 B116_9 = true := by decide +kernel
def B116_10 : List zRow := [(61, .aload_n 0, 1, (0, 0, 0)), (62, .getfield 60, 3, (11, 7, 135)), (65, .aload_n 0, 1, (0, 0, 0)), (66, .getfield 19, 3, (11, 1, 39)), (69, .iconst 0, 1, (0, 0, 0))]
theorem K116_10 : zRk 116 B116_10 = true := by decide +kernel
def B116_11 : List zRow := [(94, .iinc 4 1, 3, (0, 0, 0))]
theorem K116_11 : zRk 116 B116_11 = true := by decide +kernel
def B116_12 : List zRow := [(73, .aload_n 0, 1, (0, 0, 0)), (74, .getfield 60, 3, (11, 7, 135)), (77, .getfield 177, 3, (1, 3, 5242906)), (80, .iload_n 1, 1, (0, 0, 0)), (81, .iaload, 1, (0, 0, 0)), (82, .aload_n 0, 1, (0, 0, 0)), (83, .getfield 60, 3, (11, 7, 135)), (86, .getfield 177, 3, (1, 3, 5242906)), (89, .iload_n 2, 1, (0, 0, 0)), (90, .iaload, 1, (0, 0, 0)), (91, .if_icmp .ne 6, 3, (0, 0, 0))]
theorem K116_12 : zRk 116 B116_12 = true := by decide +kernel
def B116_13 : List zRow := [(48, .aload_n 0, 1, (0, 0, 0)), (49, .getfield 60, 3, (11, 7, 135)), (52, .getfield 159, 3, (1, 0, 0)), (55, .sipush 400, 3, (0, 0, 0)), (58, .if_icmp .ge 45, 3, (0, 0, 0))]
theorem K116_13 : zRk 116 B116_13 = true := by decide +kernel
def B116_14 : List zRow := [(42, .iload 5, 2, (0, 0, 0)), (44, .iload_n 3, 1, (0, 0, 0)), (45, .if_icmp .ge 58, 3, (0, 0, 0))]
theorem K116_14 : zRk 116 B116_14 = true := by decide +kernel
def B116_15 : List zRow := [(97, .iinc 5 1, 3, (0, 0, 0)), (100, .goto (-58), 3, (0, 0, 0))]
theorem K116_15 : zRk 116 B116_15 = true := by decide +kernel
def F116_1 (k0 : Int → Int → Int → Int → Int → zHC → Option (Int × zHC)) (v1 : Int) (v2 : Int) (v3 : Int) (v4 : Int) (v5 : Int) (h : zHC) : Option (Int × zHC) := k0 v1 v2 v3 v4 (wadd v5 1) h
set_option maxRecDepth 100000 in
theorem T116_1 {spec : zRn zH2} {hm : zHM} {o : Int → Int} {d : Nat} (hd : 5 ≤ d) (k0 : Int → Int → Int → Int → Int → zHC → Option (Int × zHC)) (hk0 : ∀ (v1 : Int) (v2 : Int) (v3 : Int) (v4 : Int) (v5 : Int) (h : zHC) (v : (Int × zHC)), k0 v1 v2 v3 v4 v5 h = some v → zFin 0 (fun _ => 0) (zRu2 spec d) 116 (some (0, v.1)) (v.2, hm, o) (42, [some (21, 0), some (0, v1), some (0, v2), some (0, v3), some (0, v4), some (0, v5)], [], (h, hm, o))) (v1 : Int) (v2 : Int) (v3 : Int) (v4 : Int) (v5 : Int) (h : zHC) (v : (Int × zHC)) (e : F116_1 k0 v1 v2 v3 v4 v5 h = some v) : zFin 0 (fun _ => 0) (zRu2 spec d) 116 (some (0, v.1)) (v.2, hm, o) (97, [some (21, 0), some (0, v1), some (0, v2), some (0, v3), some (0, v4), some (0, v5)], [], (h, hm, o)) := by
  unfold F116_1 at e
  refine zF_blk (m := []) (d := 0) (b := B116_15) (gs := []) (c' := (42, [some (21, 0), some (0, v1), some (0, v2), some (0, v3), some (0, v4), some (0, (wadd v5 1))], [], (h, hm, o))) K116_15 rfl trivial ?_
  exact hk0 v1 v2 v3 v4 (wadd v5 1) h _ e
def F116_0 : Nat → Int → Int → Int → Int → Int → zHC → Option (Int × zHC)
  | 0, _, _, _, _, _, _ => none
  | n + 1, v1, v2, v3, v4, v5, h => if v3 ≤ v5 then some (v4, h) else if 400 ≤ (h 64 1 0) then some (v4, h) else (F89b 0 h).bind fun r1 => zG (0 ≤ v1 ∧ v1 < 6) (zG (0 ≤ v2 ∧ v2 < 6) (if ¬ (r1 67 1 v1) = (r1 67 1 v2) then F116_1 (F116_0 n) v1 v2 v3 v4 v5 r1 else F116_1 (F116_0 n) v1 v2 v3 (wadd v4 1) v5 r1))
set_option maxRecDepth 100000 in
theorem T116_0 {spec : zRn zH2} {hm : zHM} {o : Int → Int} {d : Nat} (hd : 5 ≤ d) : ∀ (n : Nat) (v1 : Int) (v2 : Int) (v3 : Int) (v4 : Int) (v5 : Int) (h : zHC) (v : (Int × zHC)), F116_0 n v1 v2 v3 v4 v5 h = some v → zFin 0 (fun _ => 0) (zRu2 spec d) 116 (some (0, v.1)) (v.2, hm, o) (42, [some (21, 0), some (0, v1), some (0, v2), some (0, v3), some (0, v4), some (0, v5)], [], (h, hm, o)) := by
  intro n
  induction n with
  | zero => intro v1 v2 v3 v4 v5 h v e; unfold F116_0 at e; cases e
  | succ n hk0 =>
    intro v1 v2 v3 v4 v5 h v e
    unfold F116_0 at e
    rcases zI_s e with ⟨q1, e⟩ | ⟨q1, e⟩
    · refine zF_blk (m := []) (d := 1) (b := B116_14) (gs := [v3 ≤ v5]) (c' := (103, [some (21, 0), some (0, v1), some (0, v2), some (0, v3), some (0, v4), some (0, v5)], [], (h, hm, o))) K116_14 rfl ⟨q1, trivial⟩ ?_
      refine zF_blk (m := []) (d := 0) (b := B116_9) (gs := []) (c' := (105, [some (21, 0), some (0, v1), some (0, v2), some (0, v3), some (0, v4), some (0, v5)], [(0, v4)], (h, hm, o))) K116_9 rfl trivial ?_
      exact zF_riC (by decide +kernel) e
    · refine zF_blk (m := []) (d := 0) (b := B116_14) (gs := [¬ (v3 ≤ v5)]) (c' := (48, [some (21, 0), some (0, v1), some (0, v2), some (0, v3), some (0, v4), some (0, v5)], [], (h, hm, o))) K116_14 rfl ⟨q1, trivial⟩ ?_
      rcases zI_s e with ⟨q2, e⟩ | ⟨q2, e⟩
      · refine zF_blk (m := []) (d := 1) (b := B116_13) (gs := [400 ≤ (h 64 1 0)]) (c' := (103, [some (21, 0), some (0, v1), some (0, v2), some (0, v3), some (0, v4), some (0, v5)], [], (h, hm, o))) K116_13 rfl ⟨q2, trivial⟩ ?_
        refine zF_blk (m := []) (d := 0) (b := B116_9) (gs := []) (c' := (105, [some (21, 0), some (0, v1), some (0, v2), some (0, v3), some (0, v4), some (0, v5)], [(0, v4)], (h, hm, o))) K116_9 rfl trivial ?_
        exact zF_riC (by decide +kernel) e
      · refine zF_blk (m := []) (d := 0) (b := B116_13) (gs := [¬ (400 ≤ (h 64 1 0))]) (c' := (61, [some (21, 0), some (0, v1), some (0, v2), some (0, v3), some (0, v4), some (0, v5)], [], (h, hm, o))) K116_13 rfl ⟨q2, trivial⟩ ?_
        obtain ⟨r1, q3, e⟩ := zB_s e
        refine zF_blk (m := []) (d := 0) (b := B116_10) (gs := []) (c' := (70, [some (21, 0), some (0, v1), some (0, v2), some (0, v3), some (0, v4), some (0, v5)], [(0, 0), (19, 0), (11, 1)], (h, hm, o))) K116_10 rfl trivial ?_
        refine zF_call (k := 89) (cl := 1) (n := 3) (i := .invokevirtual 268) (args := [(11, 1), (19, 0), (0, 0)]) (rest := []) (g1 := (r1, hm, o)) (r1 := none) (by decide +kernel) rfl rfl rfl (st' := []) rfl (S89b (Nat.le_trans (by decide) hd) 0 h _ q3) ?_
        obtain ⟨q4, e⟩ := zG_s e
        obtain ⟨q5, e⟩ := zG_s e
        rcases zI_s e with ⟨q6, e⟩ | ⟨q6, e⟩
        · refine zF_blk (m := []) (d := 1) (b := B116_12) (gs := [0 ≤ v1 ∧ v1 < 6, 0 ≤ v2 ∧ v2 < 6, ¬ (r1 67 1 v1) = (r1 67 1 v2)]) (c' := (97, [some (21, 0), some (0, v1), some (0, v2), some (0, v3), some (0, v4), some (0, v5)], [], (r1, hm, o))) K116_12 rfl ⟨q4, q5, q6, trivial⟩ ?_
          exact T116_1 hd (F116_0 n) hk0 v1 v2 v3 v4 v5 r1 _ e
        · refine zF_blk (m := []) (d := 0) (b := B116_12) (gs := [0 ≤ v1 ∧ v1 < 6, 0 ≤ v2 ∧ v2 < 6, ¬ (¬ (r1 67 1 v1) = (r1 67 1 v2))]) (c' := (94, [some (21, 0), some (0, v1), some (0, v2), some (0, v3), some (0, v4), some (0, v5)], [], (r1, hm, o))) K116_12 rfl ⟨q4, q5, q6, trivial⟩ ?_
          refine zF_blk (m := []) (d := 0) (b := B116_11) (gs := []) (c' := (97, [some (21, 0), some (0, v1), some (0, v2), some (0, v3), some (0, (wadd v4 1)), some (0, v5)], [], (r1, hm, o))) K116_11 rfl trivial ?_
          exact T116_1 hd (F116_0 n) hk0 v1 v2 v3 (wadd v4 1) v5 r1 _ e
/-- EchoVale.meets(III)I -/
def F116 (v1 : Int) (v2 : Int) (v3 : Int) (h : zHC) : Option (Int × zHC) := (F61 v1 h).bind fun r1 => if r1 = 0 then some ((-1), h) else (F61 v2 h).bind fun r2 => if r2 = 0 then some ((-1), h) else (F99 v3).bind fun r3 => if ¬ r3 = 0 then (F72c h).bind fun r4 => F116_0 zFu v1 v2 v3 0 0 r4 else some ((-1), h)
set_option maxRecDepth 100000 in
theorem S116 {spec : zRn zH2} {hm : zHM} {o : Int → Int} {d : Nat} (hd : 6 ≤ d) (v1 : Int) (v2 : Int) (v3 : Int) (h : zHC) (v : (Int × zHC)) (e : F116 v1 v2 v3 h = some v) : zRu2 spec d 116 [(21, 0), (0, v1), (0, v2), (0, v3)] (h, hm, o) (some (0, v.1)) (v.2, hm, o) := by
  refine zF_in (D := 5) (mx := 6) (L := [some (21, 0), some (0, v1), some (0, v2), some (0, v3), none, none]) (by decide +kernel) rfl rfl hd (fun d hd => ?_)
  unfold F116 at e
  obtain ⟨r1, q1, e⟩ := zB_s e
  refine zF_blk (m := []) (d := 0) (b := B116_0) (gs := []) (c' := (2, [some (21, 0), some (0, v1), some (0, v2), some (0, v3), none, none], [(0, v1), (21, 0)], (h, hm, o))) K116_0 rfl trivial ?_
  refine zF_call (k := 61) (cl := 11) (n := 2) (i := .invokevirtual 172) (args := [(21, 0), (0, v1)]) (rest := []) (g1 := (h, hm, o)) (r1 := some (0, r1)) (by decide +kernel) rfl rfl rfl (st' := [(0, r1)]) rfl (S61 (Nat.le_trans (by decide) hd) v1 h _ q1) ?_
  rcases zI_s e with ⟨q2, e⟩ | ⟨q2, e⟩
  · refine zF_blk (m := []) (d := 1) (b := B116_8) (gs := [r1 = 0]) (c' := (23, [some (21, 0), some (0, v1), some (0, v2), some (0, v3), none, none], [], (h, hm, o))) K116_8 rfl ⟨q2, trivial⟩ ?_
    refine zF_blk (m := []) (d := 0) (b := B116_1) (gs := []) (c' := (24, [some (21, 0), some (0, v1), some (0, v2), some (0, v3), none, none], [(0, (-1))], (h, hm, o))) K116_1 rfl trivial ?_
    exact zF_riC (by decide +kernel) e
  · refine zF_blk (m := []) (d := 0) (b := B116_8) (gs := [¬ (r1 = 0)]) (c' := (8, [some (21, 0), some (0, v1), some (0, v2), some (0, v3), none, none], [], (h, hm, o))) K116_8 rfl ⟨q2, trivial⟩ ?_
    obtain ⟨r2, q3, e⟩ := zB_s e
    refine zF_blk (m := []) (d := 0) (b := B116_2) (gs := []) (c' := (10, [some (21, 0), some (0, v1), some (0, v2), some (0, v3), none, none], [(0, v2), (21, 0)], (h, hm, o))) K116_2 rfl trivial ?_
    refine zF_call (k := 61) (cl := 11) (n := 2) (i := .invokevirtual 172) (args := [(21, 0), (0, v2)]) (rest := []) (g1 := (h, hm, o)) (r1 := some (0, r2)) (by decide +kernel) rfl rfl rfl (st' := [(0, r2)]) rfl (S61 (Nat.le_trans (by decide) hd) v2 h _ q3) ?_
    rcases zI_s e with ⟨q4, e⟩ | ⟨q4, e⟩
    · refine zF_blk (m := []) (d := 1) (b := B116_7) (gs := [r2 = 0]) (c' := (23, [some (21, 0), some (0, v1), some (0, v2), some (0, v3), none, none], [], (h, hm, o))) K116_7 rfl ⟨q4, trivial⟩ ?_
      refine zF_blk (m := []) (d := 0) (b := B116_1) (gs := []) (c' := (24, [some (21, 0), some (0, v1), some (0, v2), some (0, v3), none, none], [(0, (-1))], (h, hm, o))) K116_1 rfl trivial ?_
      exact zF_riC (by decide +kernel) e
    · refine zF_blk (m := []) (d := 0) (b := B116_7) (gs := [¬ (r2 = 0)]) (c' := (16, [some (21, 0), some (0, v1), some (0, v2), some (0, v3), none, none], [], (h, hm, o))) K116_7 rfl ⟨q4, trivial⟩ ?_
      obtain ⟨r3, q5, e⟩ := zB_s e
      refine zF_blk (m := []) (d := 0) (b := B116_3) (gs := []) (c' := (17, [some (21, 0), some (0, v1), some (0, v2), some (0, v3), none, none], [(0, v3)], (h, hm, o))) K116_3 rfl trivial ?_
      refine zF_call (k := 99) (cl := 11) (n := 1) (i := .invokestatic 242) (args := [(0, v3)]) (rest := []) (g1 := (h, hm, o)) (r1 := some (0, r3)) (by decide +kernel) rfl rfl rfl (st' := [(0, r3)]) rfl (S99 (Nat.le_trans (by decide) hd) v3 h _ q5) ?_
      rcases zI_s e with ⟨q6, e⟩ | ⟨q6, e⟩
      · refine zF_blk (m := []) (d := 1) (b := B116_6) (gs := [¬ r3 = 0]) (c' := (25, [some (21, 0), some (0, v1), some (0, v2), some (0, v3), none, none], [], (h, hm, o))) K116_6 rfl ⟨q6, trivial⟩ ?_
        obtain ⟨r4, q7, e⟩ := zB_s e
        refine zF_blk (m := []) (d := 0) (b := B116_4) (gs := []) (c' := (33, [some (21, 0), some (0, v1), some (0, v2), some (0, v3), none, none], [(11, 0), (11, 1)], (h, hm, o))) K116_4 rfl trivial ?_
        refine zF_call (k := 72) (cl := 1) (n := 2) (i := .invokevirtual 276) (args := [(11, 1), (11, 0)]) (rest := []) (g1 := (r4, hm, o)) (r1 := none) (by decide +kernel) rfl rfl rfl (st' := []) rfl (S72c (Nat.le_trans (by decide) hd)  h _ q7) ?_
        refine zF_blk (m := []) (d := 0) (b := B116_5) (gs := []) (c' := (42, [some (21, 0), some (0, v1), some (0, v2), some (0, v3), some (0, 0), some (0, 0)], [], (r4, hm, o))) K116_5 rfl trivial ?_
        exact T116_0 hd zFu v1 v2 v3 0 0 r4 _ e
      · refine zF_blk (m := []) (d := 0) (b := B116_6) (gs := [¬ (¬ r3 = 0)]) (c' := (23, [some (21, 0), some (0, v1), some (0, v2), some (0, v3), none, none], [], (h, hm, o))) K116_6 rfl ⟨q6, trivial⟩ ?_
        refine zF_blk (m := []) (d := 0) (b := B116_1) (gs := []) (c' := (24, [some (21, 0), some (0, v1), some (0, v2), some (0, v3), none, none], [(0, (-1))], (h, hm, o))) K116_1 rfl trivial ?_
        exact zF_riC (by decide +kernel) e
def B257_0 : List zRow := [(0, .aload_n 0, 1, (0, 0, 0)), (1, .iconst 0, 1, (0, 0, 0)), (2, .putfield 81, 3, (12, 0, 0)), (5, .aload_n 0, 1, (0, 0, 0)), (6, .iload_n 1, 1, (0, 0, 0))]
theorem K257_0 : zRk 257 B257_0 = true := by decide +kernel
def B257_1 : List zRow := [(28, .iconst (-1), 1, (0, 0, 0))]
theorem K257_1 : zRk 257 B257_1 = true := by decide +kernel
def B257_2 : List zRow := [(13, .aload_n 0, 1, (0, 0, 0)), (14, .iload_n 2, 1, (0, 0, 0))]
theorem K257_2 : zRk 257 B257_2 = true := by decide +kernel
def B257_3 : List zRow := [(21, .iload_n 3, 1, (0, 0, 0))]
theorem K257_3 : zRk 257 B257_3 = true := by decide +kernel
def B257_4 : List zRow := [(30, .aload_n 0, 1, (0, 0, 0))]
theorem K257_4 : zRk 257 B257_4 = true := by decide +kernel
def B257_5 : List zRow := [(34, .iconst 0, 1, (0, 0, 0)), (35, .istore 4, 2, (0, 0, 0)), (37, .iconst 0, 1, (0, 0, 0)), (38, .istore 5, 2, (0, 0, 0))]
theorem K257_5 : zRk 257 B257_5 = true := by decide +kernel
def B257_6 : List zRow := [(25, .ifCond .ne 5, 3, (0, 0, 0))]
theorem K257_6 : zRk 257 B257_6 = true := by decide +kernel
def B257_7 : List zRow := [(18, .ifCond .eq 10, 3, (0, 0, 0))]
theorem K257_7 : zRk 257 B257_7 = true := by decide +kernel
def B257_8 : List zRow := [(10, .ifCond .eq 18, 3, (0, 0, 0))]
theorem K257_8 : zRk 257 B257_8 = true := by decide +kernel
def B257_9 : List zRow := [(60, .aload_n 0, 1, (0, 0, 0)), (61, .getfield 13, 3, (12, 14, 5251442)), (64, .sipush 209, 3, (0, 0, 0)), (67, .dup2, 1, (0, 0, 0)), (68, .iaload, 1, (0, 0, 0)), (69, .iconst 1, 1, (0, 0, 0)), (70, .iadd, 1, (0, 0, 0)), (71, .iastore, 1, (0, 0, 0)), (72, .aload_n 0, 1, (0, 0, 0)), (73, .aload_n 0, 1, (0, 0, 0)), (74, .getfield 13, 3, (12, 14, 5251442)), (77, .sipush 209, 3, (0, 0, 0)), (80, .iaload, 1, (0, 0, 0))]
theorem K257_9 : zRk 257 B257_9 = true := by decide +kernel
def B257_10 : List zRow := [(84, .aload_n 0, 1, (0, 0, 0)), (85, .getfield 13, 3, (12, 14, 5251442)), (88, .sipush 210, 3, (0, 0, 0)), (91, .iload_n 1, 1, (0, 0, 0))]
theorem K257_10 : zRk 257 B257_10 = true := by decide +kernel
def B257_11 : List zRow := [(92, .iadd, 1, (0, 0, 0)), (93, .iaload, 1, (0, 0, 0)), (94, .aload_n 0, 1, (0, 0, 0)), (95, .getfield 13, 3, (12, 14, 5251442)), (98, .sipush 210, 3, (0, 0, 0)), (101, .iload_n 2, 1, (0, 0, 0))]
theorem K257_11 : zRk 257 B257_11 = true := by decide +kernel
def B257_12 : List zRow := [(107, .iinc 4 1, 3, (0, 0, 0))]
theorem K257_12 : zRk 257 B257_12 = true := by decide +kernel
def B257_13 : List zRow := [(102, .iadd, 1, (0, 0, 0)), (103, .iaload, 1, (0, 0, 0)), (104, .if_icmp .ne 6, 3, (0, 0, 0))]
theorem K257_13 : zRk 257 B257_13 = true := by decide +kernel
def B257_14 : List zRow := [(46, .aload_n 0, 1, (0, 0, 0)), (47, .getfield 13, 3, (12, 14, 5251442)), (50, .sipush 209, 3, (0, 0, 0)), (53, .iaload, 1, (0, 0, 0)), (54, .sipush 400, 3, (0, 0, 0)), (57, .if_icmp .ge 59, 3, (0, 0, 0))]
theorem K257_14 : zRk 257 B257_14 = true := by decide +kernel
def B257_15 : List zRow := [(40, .iload 5, 2, (0, 0, 0)), (42, .iload_n 3, 1, (0, 0, 0)), (43, .if_icmp .ge 73, 3, (0, 0, 0))]
theorem K257_15 : zRk 257 B257_15 = true := by decide +kernel
def B257_16 : List zRow := [(110, .iinc 5 1, 3, (0, 0, 0)), (113, .goto (-73), 3, (0, 0, 0))]
theorem K257_16 : zRk 257 B257_16 = true := by decide +kernel
def B257_17 : List zRow := [(116, .aload_n 0, 1, (0, 0, 0))]
theorem K257_17 : zRk 257 B257_17 = true := by decide +kernel
def B257_18 : List zRow := [(120, .iload 4, 2, (0, 0, 0))]
theorem K257_18 : zRk 257 B257_18 = true := by decide +kernel
def F257_1 (v4 : Int) (h : zHM) : Option (Int × zHM) := (F245 h).bind fun r1 => some (v4, r1)
set_option maxRecDepth 100000 in
theorem T257_1 {spec : zRn zH2} {hc : zHC} {o : Int → Int} {d : Nat} (hd : 2 ≤ d) (v4 : Int) (h : zHM) (v : (Int × zHM)) (e : F257_1 v4 h = some v) : zFin 0 (fun _ => 0) (zRu2 spec d) 257 (some (0, v.1)) (hc, v.2, o) (116, [some (22, 0), none, none, none, some (0, v4), none], [], (hc, h, o)) := by
  unfold F257_1 at e
  obtain ⟨r1, q1, e⟩ := zB_s e
  refine zF_blk (m := []) (d := 0) (b := B257_17) (gs := []) (c' := (117, [some (22, 0), none, none, none, some (0, v4), none], [(22, 0)], (hc, h, o))) K257_17 rfl trivial ?_
  refine zF_call (k := 245) (cl := 12) (n := 1) (i := .invokevirtual 320) (args := [(22, 0)]) (rest := []) (g1 := (hc, r1, o)) (r1 := none) (by decide +kernel) rfl rfl rfl (st' := []) rfl (S245 (Nat.le_trans (by decide) hd)  h _ q1) ?_
  refine zF_blk (m := []) (d := 0) (b := B257_18) (gs := []) (c' := (122, [some (22, 0), none, none, none, some (0, v4), none], [(0, v4)], (hc, r1, o))) K257_18 rfl trivial ?_
  exact zF_riM (by decide +kernel) e
def F257_2 (k0 : Int → Int → Int → Int → Int → zHM → Option (Int × zHM)) (v1 : Int) (v2 : Int) (v3 : Int) (v4 : Int) (v5 : Int) (h : zHM) : Option (Int × zHM) := k0 v1 v2 v3 v4 (wadd v5 1) h
set_option maxRecDepth 100000 in
theorem T257_2 {spec : zRn zH2} {hc : zHC} {o : Int → Int} {d : Nat} (hd : 2 ≤ d) (k0 : Int → Int → Int → Int → Int → zHM → Option (Int × zHM)) (hk0 : ∀ (v1 : Int) (v2 : Int) (v3 : Int) (v4 : Int) (v5 : Int) (h : zHM) (v : (Int × zHM)), k0 v1 v2 v3 v4 v5 h = some v → zFin 0 (fun _ => 0) (zRu2 spec d) 257 (some (0, v.1)) (hc, v.2, o) (40, [some (22, 0), some (0, v1), some (0, v2), some (0, v3), some (0, v4), some (0, v5)], [], (hc, h, o))) (v1 : Int) (v2 : Int) (v3 : Int) (v4 : Int) (v5 : Int) (h : zHM) (v : (Int × zHM)) (e : F257_2 k0 v1 v2 v3 v4 v5 h = some v) : zFin 0 (fun _ => 0) (zRu2 spec d) 257 (some (0, v.1)) (hc, v.2, o) (110, [some (22, 0), some (0, v1), some (0, v2), some (0, v3), some (0, v4), some (0, v5)], [], (hc, h, o)) := by
  unfold F257_2 at e
  refine zF_blk (m := []) (d := 0) (b := B257_16) (gs := []) (c' := (40, [some (22, 0), some (0, v1), some (0, v2), some (0, v3), some (0, v4), some (0, (wadd v5 1))], [], (hc, h, o))) K257_16 rfl trivial ?_
  exact hk0 v1 v2 v3 v4 (wadd v5 1) h _ e
def F257_0 : Nat → Int → Int → Int → Int → Int → zHM → Option (Int × zHM)
  | 0, _, _, _, _, _, _ => none
  | n + 1, v1, v2, v3, v4, v5, h => if v3 ≤ v5 then F257_1 v4 h else if 400 ≤ (h 14 209) then F257_1 v4 h else (F237 ((mset h 14 209 (wadd (h 14 209) 1)) 14 209) (mset h 14 209 (wadd (h 14 209) 1))).bind fun r1 => zG (0 ≤ (wadd 210 v1) ∧ (wadd 210 v1) < 2140) (zG (0 ≤ (wadd 210 v2) ∧ (wadd 210 v2) < 2140) (if ¬ (r1 14 (wadd 210 v1)) = (r1 14 (wadd 210 v2)) then F257_2 (F257_0 n) v1 v2 v3 v4 v5 r1 else F257_2 (F257_0 n) v1 v2 v3 (wadd v4 1) v5 r1))
set_option maxRecDepth 100000 in
theorem T257_0 {spec : zRn zH2} {hc : zHC} {o : Int → Int} {d : Nat} (hd : 2 ≤ d) : ∀ (n : Nat) (v1 : Int) (v2 : Int) (v3 : Int) (v4 : Int) (v5 : Int) (h : zHM) (v : (Int × zHM)), F257_0 n v1 v2 v3 v4 v5 h = some v → zFin 0 (fun _ => 0) (zRu2 spec d) 257 (some (0, v.1)) (hc, v.2, o) (40, [some (22, 0), some (0, v1), some (0, v2), some (0, v3), some (0, v4), some (0, v5)], [], (hc, h, o)) := by
  intro n
  induction n with
  | zero => intro v1 v2 v3 v4 v5 h v e; unfold F257_0 at e; cases e
  | succ n hk0 =>
    intro v1 v2 v3 v4 v5 h v e
    unfold F257_0 at e
    rcases zI_s e with ⟨q1, e⟩ | ⟨q1, e⟩
    · refine zF_blk (m := []) (d := 1) (b := B257_15) (gs := [v3 ≤ v5]) (c' := (116, [some (22, 0), some (0, v1), some (0, v2), some (0, v3), some (0, v4), some (0, v5)], [], (hc, h, o))) K257_15 rfl ⟨q1, trivial⟩ ?_
      refine zF_blk (m := [true, false, false, false, true, false]) (d := 0) (b := []) (gs := []) (c' := (116, [some (22, 0), none, none, none, some (0, v4), none], [], (hc, h, o))) rfl rfl trivial ?_
      exact T257_1 hd v4 h _ e
    · refine zF_blk (m := []) (d := 0) (b := B257_15) (gs := [¬ (v3 ≤ v5)]) (c' := (46, [some (22, 0), some (0, v1), some (0, v2), some (0, v3), some (0, v4), some (0, v5)], [], (hc, h, o))) K257_15 rfl ⟨q1, trivial⟩ ?_
      rcases zI_s e with ⟨q2, e⟩ | ⟨q2, e⟩
      · refine zF_blk (m := []) (d := 1) (b := B257_14) (gs := [0 ≤ 209 ∧ 209 < 2140, 400 ≤ (h 14 209)]) (c' := (116, [some (22, 0), some (0, v1), some (0, v2), some (0, v3), some (0, v4), some (0, v5)], [], (hc, h, o))) K257_14 rfl ⟨by decide, q2, trivial⟩ ?_
        refine zF_blk (m := [true, false, false, false, true, false]) (d := 0) (b := []) (gs := []) (c' := (116, [some (22, 0), none, none, none, some (0, v4), none], [], (hc, h, o))) rfl rfl trivial ?_
        exact T257_1 hd v4 h _ e
      · refine zF_blk (m := []) (d := 0) (b := B257_14) (gs := [0 ≤ 209 ∧ 209 < 2140, ¬ (400 ≤ (h 14 209))]) (c' := (60, [some (22, 0), some (0, v1), some (0, v2), some (0, v3), some (0, v4), some (0, v5)], [], (hc, h, o))) K257_14 rfl ⟨by decide, q2, trivial⟩ ?_
        obtain ⟨r1, q3, e⟩ := zB_s e
        refine zF_blk (m := []) (d := 0) (b := B257_9) (gs := [0 ≤ 209 ∧ 209 < 2140, 0 ≤ 209 ∧ 209 < 2140, 0 ≤ 209 ∧ 209 < 2140]) (c' := (81, [some (22, 0), some (0, v1), some (0, v2), some (0, v3), some (0, v4), some (0, v5)], [(0, ((mset h 14 209 (wadd (h 14 209) 1)) 14 209)), (22, 0)], (hc, (mset h 14 209 (wadd (h 14 209) 1)), o))) K257_9 rfl ⟨by decide, by decide, by decide, trivial⟩ ?_
        refine zF_call (k := 237) (cl := 12) (n := 2) (i := .invokevirtual 292) (args := [(22, 0), (0, ((mset h 14 209 (wadd (h 14 209) 1)) 14 209))]) (rest := []) (g1 := (hc, r1, o)) (r1 := none) (by decide +kernel) rfl rfl rfl (st' := []) rfl (S237 (Nat.le_trans (by decide) hd) ((mset h 14 209 (wadd (h 14 209) 1)) 14 209) (mset h 14 209 (wadd (h 14 209) 1)) _ q3) ?_
        obtain ⟨q4, e⟩ := zG_s e
        obtain ⟨q5, e⟩ := zG_s e
        refine zF_blk (m := []) (d := 0) (b := B257_10) (gs := []) (c' := (92, [some (22, 0), some (0, v1), some (0, v2), some (0, v3), some (0, v4), some (0, v5)], [(0, v1), (0, 210), (1344370422, 0)], (hc, r1, o))) K257_10 rfl trivial ?_
        refine zF_blk (m := []) (d := 0) (b := B257_11) (gs := [0 ≤ (wadd 210 v1) ∧ (wadd 210 v1) < 2140]) (c' := (102, [some (22, 0), some (0, v1), some (0, v2), some (0, v3), some (0, v4), some (0, v5)], [(0, v2), (0, 210), (1344370422, 0), (0, (r1 14 (wadd 210 v1)))], (hc, r1, o))) K257_11 rfl ⟨q4, trivial⟩ ?_
        rcases zI_s e with ⟨q6, e⟩ | ⟨q6, e⟩
        · refine zF_blk (m := []) (d := 1) (b := B257_13) (gs := [0 ≤ (wadd 210 v2) ∧ (wadd 210 v2) < 2140, ¬ (r1 14 (wadd 210 v1)) = (r1 14 (wadd 210 v2))]) (c' := (110, [some (22, 0), some (0, v1), some (0, v2), some (0, v3), some (0, v4), some (0, v5)], [], (hc, r1, o))) K257_13 rfl ⟨q5, q6, trivial⟩ ?_
          exact T257_2 hd (F257_0 n) hk0 v1 v2 v3 v4 v5 r1 _ e
        · refine zF_blk (m := []) (d := 0) (b := B257_13) (gs := [0 ≤ (wadd 210 v2) ∧ (wadd 210 v2) < 2140, ¬ (¬ (r1 14 (wadd 210 v1)) = (r1 14 (wadd 210 v2)))]) (c' := (107, [some (22, 0), some (0, v1), some (0, v2), some (0, v3), some (0, v4), some (0, v5)], [], (hc, r1, o))) K257_13 rfl ⟨q5, q6, trivial⟩ ?_
          refine zF_blk (m := []) (d := 0) (b := B257_12) (gs := []) (c' := (110, [some (22, 0), some (0, v1), some (0, v2), some (0, v3), some (0, (wadd v4 1)), some (0, v5)], [], (hc, r1, o))) K257_12 rfl trivial ?_
          exact T257_2 hd (F257_0 n) hk0 v1 v2 v3 (wadd v4 1) v5 r1 _ e
/-- EchoValeModel.meets(III)I -/
def F257 (v1 : Int) (v2 : Int) (v3 : Int) (h : zHM) : Option (Int × zHM) := (F210 v1 (mset h 0 0 0)).bind fun r1 => if r1 = 0 then some ((-1), (mset h 0 0 0)) else (F210 v2 (mset h 0 0 0)).bind fun r2 => if r2 = 0 then some ((-1), (mset h 0 0 0)) else (F242 v3).bind fun r3 => if ¬ r3 = 0 then (F244 (mset h 0 0 0)).bind fun r4 => F257_0 zFu v1 v2 v3 0 0 r4 else some ((-1), (mset h 0 0 0))
set_option maxRecDepth 100000 in
theorem S257 {spec : zRn zH2} {hc : zHC} {o : Int → Int} {d : Nat} (hd : 3 ≤ d) (v1 : Int) (v2 : Int) (v3 : Int) (h : zHM) (v : (Int × zHM)) (e : F257 v1 v2 v3 h = some v) : zRu2 spec d 257 [(22, 0), (0, v1), (0, v2), (0, v3)] (hc, h, o) (some (0, v.1)) (hc, v.2, o) := by
  refine zF_in (D := 2) (mx := 6) (L := [some (22, 0), some (0, v1), some (0, v2), some (0, v3), none, none]) (by decide +kernel) rfl rfl hd (fun d hd => ?_)
  unfold F257 at e
  obtain ⟨r1, q1, e⟩ := zB_s e
  refine zF_blk (m := []) (d := 0) (b := B257_0) (gs := []) (c' := (7, [some (22, 0), some (0, v1), some (0, v2), some (0, v3), none, none], [(0, v1), (22, 0)], (hc, (mset h 0 0 0), o))) K257_0 rfl trivial ?_
  refine zF_call (k := 210) (cl := 12) (n := 2) (i := .invokevirtual 260) (args := [(22, 0), (0, v1)]) (rest := []) (g1 := (hc, (mset h 0 0 0), o)) (r1 := some (0, r1)) (by decide +kernel) rfl rfl rfl (st' := [(0, r1)]) rfl (S210 (Nat.le_trans (by decide) hd) v1 (mset h 0 0 0) _ q1) ?_
  rcases zI_s e with ⟨q2, e⟩ | ⟨q2, e⟩
  · refine zF_blk (m := []) (d := 1) (b := B257_8) (gs := [r1 = 0]) (c' := (28, [some (22, 0), some (0, v1), some (0, v2), some (0, v3), none, none], [], (hc, (mset h 0 0 0), o))) K257_8 rfl ⟨q2, trivial⟩ ?_
    refine zF_blk (m := []) (d := 0) (b := B257_1) (gs := []) (c' := (29, [some (22, 0), some (0, v1), some (0, v2), some (0, v3), none, none], [(0, (-1))], (hc, (mset h 0 0 0), o))) K257_1 rfl trivial ?_
    exact zF_riM (by decide +kernel) e
  · refine zF_blk (m := []) (d := 0) (b := B257_8) (gs := [¬ (r1 = 0)]) (c' := (13, [some (22, 0), some (0, v1), some (0, v2), some (0, v3), none, none], [], (hc, (mset h 0 0 0), o))) K257_8 rfl ⟨q2, trivial⟩ ?_
    obtain ⟨r2, q3, e⟩ := zB_s e
    refine zF_blk (m := []) (d := 0) (b := B257_2) (gs := []) (c' := (15, [some (22, 0), some (0, v1), some (0, v2), some (0, v3), none, none], [(0, v2), (22, 0)], (hc, (mset h 0 0 0), o))) K257_2 rfl trivial ?_
    refine zF_call (k := 210) (cl := 12) (n := 2) (i := .invokevirtual 260) (args := [(22, 0), (0, v2)]) (rest := []) (g1 := (hc, (mset h 0 0 0), o)) (r1 := some (0, r2)) (by decide +kernel) rfl rfl rfl (st' := [(0, r2)]) rfl (S210 (Nat.le_trans (by decide) hd) v2 (mset h 0 0 0) _ q3) ?_
    rcases zI_s e with ⟨q4, e⟩ | ⟨q4, e⟩
    · refine zF_blk (m := []) (d := 1) (b := B257_7) (gs := [r2 = 0]) (c' := (28, [some (22, 0), some (0, v1), some (0, v2), some (0, v3), none, none], [], (hc, (mset h 0 0 0), o))) K257_7 rfl ⟨q4, trivial⟩ ?_
      refine zF_blk (m := []) (d := 0) (b := B257_1) (gs := []) (c' := (29, [some (22, 0), some (0, v1), some (0, v2), some (0, v3), none, none], [(0, (-1))], (hc, (mset h 0 0 0), o))) K257_1 rfl trivial ?_
      exact zF_riM (by decide +kernel) e
    · refine zF_blk (m := []) (d := 0) (b := B257_7) (gs := [¬ (r2 = 0)]) (c' := (21, [some (22, 0), some (0, v1), some (0, v2), some (0, v3), none, none], [], (hc, (mset h 0 0 0), o))) K257_7 rfl ⟨q4, trivial⟩ ?_
      obtain ⟨r3, q5, e⟩ := zB_s e
      refine zF_blk (m := []) (d := 0) (b := B257_3) (gs := []) (c' := (22, [some (22, 0), some (0, v1), some (0, v2), some (0, v3), none, none], [(0, v3)], (hc, (mset h 0 0 0), o))) K257_3 rfl trivial ?_
      refine zF_call (k := 242) (cl := 12) (n := 1) (i := .invokestatic 323) (args := [(0, v3)]) (rest := []) (g1 := (hc, (mset h 0 0 0), o)) (r1 := some (0, r3)) (by decide +kernel) rfl rfl rfl (st' := [(0, r3)]) rfl (S242 (Nat.le_trans (by decide) hd) v3 (mset h 0 0 0) _ q5) ?_
      rcases zI_s e with ⟨q6, e⟩ | ⟨q6, e⟩
      · refine zF_blk (m := []) (d := 1) (b := B257_6) (gs := [¬ r3 = 0]) (c' := (30, [some (22, 0), some (0, v1), some (0, v2), some (0, v3), none, none], [], (hc, (mset h 0 0 0), o))) K257_6 rfl ⟨q6, trivial⟩ ?_
        obtain ⟨r4, q7, e⟩ := zB_s e
        refine zF_blk (m := []) (d := 0) (b := B257_4) (gs := []) (c' := (31, [some (22, 0), some (0, v1), some (0, v2), some (0, v3), none, none], [(22, 0)], (hc, (mset h 0 0 0), o))) K257_4 rfl trivial ?_
        refine zF_call (k := 244) (cl := 12) (n := 1) (i := .invokevirtual 317) (args := [(22, 0)]) (rest := []) (g1 := (hc, r4, o)) (r1 := none) (by decide +kernel) rfl rfl rfl (st' := []) rfl (S244 (Nat.le_trans (by decide) hd)  (mset h 0 0 0) _ q7) ?_
        refine zF_blk (m := []) (d := 0) (b := B257_5) (gs := []) (c' := (40, [some (22, 0), some (0, v1), some (0, v2), some (0, v3), some (0, 0), some (0, 0)], [], (hc, r4, o))) K257_5 rfl trivial ?_
        exact T257_0 hd zFu v1 v2 v3 0 0 r4 _ e
      · refine zF_blk (m := []) (d := 0) (b := B257_6) (gs := [¬ (¬ r3 = 0)]) (c' := (28, [some (22, 0), some (0, v1), some (0, v2), some (0, v3), none, none], [], (hc, (mset h 0 0 0), o))) K257_6 rfl ⟨q6, trivial⟩ ?_
        refine zF_blk (m := []) (d := 0) (b := B257_1) (gs := []) (c' := (29, [some (22, 0), some (0, v1), some (0, v2), some (0, v3), none, none], [(0, (-1))], (hc, (mset h 0 0 0), o))) K257_1 rfl trivial ?_
        exact zF_riM (by decide +kernel) e
