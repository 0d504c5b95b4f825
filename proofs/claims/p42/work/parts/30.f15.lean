/-! Functions of the methods, by wip/gen/lift.py. -/
noncomputable def B161_0 : List zRow := [(21, .iconst 0, 1, (0, 0, 0))]
theorem K161_0 : zRk 161 B161_0 = true := zRw_ok (by decide +kernel)
noncomputable def B161_1 : List zRow := [(23, .aload_n 0, 1, (0, 0, 0)), (24, .getfield 19, 3, (11, 1, 39)), (27, .aload_n 0, 1, (0, 0, 0)), (28, .getfield 72, 3, (11, 9, 6291466)), (31, .iload_n 1, 1, (0, 0, 0)), (32, .aaload, 1, (24, 0, 0)), (33, .getfield 359, 3, (3, 1, 359))]
theorem K161_1 : zRk 161 B161_1 = true := zRw_ok (by decide +kernel)
noncomputable def B161_2 : List zRow := [(39, .aload_n 0, 1, (0, 0, 0)), (40, .getfield 56, 3, (11, 6, 7)), (43, .aload_n 0, 1, (0, 0, 0)), (44, .getfield 72, 3, (11, 9, 6291466)), (47, .iload_n 1, 1, (0, 0, 0)), (48, .aaload, 1, (24, 0, 0)), (49, .getfield 360, 3, (3, 2, 1351))]
theorem K161_2 : zRk 161 B161_2 = true := zRw_ok (by decide +kernel)
noncomputable def B161_3 : List zRow := [(55, .aload_n 0, 1, (0, 0, 0)), (56, .getfield 42, 3, (11, 4, 27)), (59, .aload_n 0, 1, (0, 0, 0)), (60, .getfield 72, 3, (11, 9, 6291466)), (63, .iload_n 1, 1, (0, 0, 0)), (64, .aaload, 1, (24, 0, 0)), (65, .getfield 361, 3, (3, 3, 347))]
theorem K161_3 : zRk 161 B161_3 = true := zRw_ok (by decide +kernel)
noncomputable def B161_4 : List zRow := [(71, .aload_n 0, 1, (0, 0, 0)), (72, .getfield 66, 3, (11, 8, 35))]
theorem K161_4 : zRk 161 B161_4 = true := zRw_ok (by decide +kernel)
noncomputable def B161_5 : List zRow := [(78, .iconst 1, 1, (0, 0, 0))]
theorem K161_5 : zRk 161 B161_5 = true := zRw_ok (by decide +kernel)
noncomputable def B161_6 : List zRow := [(9, .aload_n 0, 1, (0, 0, 0)), (10, .getfield 72, 3, (11, 9, 6291466)), (13, .iload_n 1, 1, (0, 0, 0)), (14, .aaload, 1, (24, 0, 0)), (15, .getfield 362, 3, (3, 0, 0)), (18, .ifCond .ne 5, 3, (0, 0, 0))]
theorem K161_6 : zRk 161 B161_6 = true := zRw_ok (by decide +kernel)
noncomputable def B161_7 : List zRow := [(4, .iload_n 1, 1, (0, 0, 0)), (5, .iconst 2, 1, (0, 0, 0)), (6, .if_icmp .ge 15, 3, (0, 0, 0))]
theorem K161_7 : zRk 161 B161_7 = true := zRw_ok (by decide +kernel)
noncomputable def B161_8 : List zRow := [(0, .iload_n 1, 1, (0, 0, 0)), (1, .ifCond .lt 20, 3, (0, 0, 0))]
theorem K161_8 : zRk 161 B161_8 = true := zRw_ok (by decide +kernel)
/-- EchoVale.restore(I)Z -/
def F161 (v1 : Int) (h : zHC) : Option (Int × zHC) := if v1 < 0 then some (0, h) else if 2 ≤ v1 then some (0, h) else zG (0 ≤ v1 ∧ v1 < 2) (if ¬ (h 192 v1 0) = 0 then zG (0 ≤ v1 ∧ v1 < 2) ((F52 0 (v1 + 2) h).bind fun r1 => zG (0 ≤ v1 ∧ v1 < 2) ((F71 0 (v1 + 10) r1).bind fun r2 => zG (0 ≤ v1 ∧ v1 < 2) ((F155 0 (v1 + 2) r2).bind fun r3 => (F55 r3).bind fun r4 => some (1, r4)))) else some (0, h))
set_option maxRecDepth 100000 in
theorem S161 {spec : zRn zH2} {hm : zHM} {o : Int → Int} {d : Nat} (hd : 3 ≤ d) (v1 : Int) (h : zHC) (v : (Int × zHC)) (e : F161 v1 h = some v) : zRu2 spec d 161 [(21, 0), (0, v1)] (h, hm, o) (some (0, v.1)) (v.2, hm, o) := by
  refine zF_in (D := 2) (mx := 2) (L := [some (21, 0), some (0, v1)]) (by decide +kernel) rfl rfl hd (fun d hd => ?_)
  unfold F161 at e
  rcases zI_s e with ⟨q1, e⟩ | ⟨q1, e⟩
  · refine zF_blk (m := []) (d := 1) (b := B161_8) (gs := [v1 < 0]) (c' := (21, [some (21, 0), some (0, v1)], [], (h, hm, o))) K161_8 rfl ⟨q1, trivial⟩ ?_
    refine zF_blk (m := []) (d := 0) (b := B161_0) (gs := []) (c' := (22, [some (21, 0), some (0, v1)], [(0, 0)], (h, hm, o))) K161_0 rfl trivial ?_
    exact zF_rbC (zRe1_w (by decide +kernel)) (Or.inl rfl) e
  · refine zF_blk (m := []) (d := 0) (b := B161_8) (gs := [¬ (v1 < 0)]) (c' := (4, [some (21, 0), some (0, v1)], [], (h, hm, o))) K161_8 rfl ⟨q1, trivial⟩ ?_
    rcases zI_s e with ⟨q2, e⟩ | ⟨q2, e⟩
    · refine zF_blk (m := []) (d := 1) (b := B161_7) (gs := [2 ≤ v1]) (c' := (21, [some (21, 0), some (0, v1)], [], (h, hm, o))) K161_7 rfl ⟨q2, trivial⟩ ?_
      refine zF_blk (m := []) (d := 0) (b := B161_0) (gs := []) (c' := (22, [some (21, 0), some (0, v1)], [(0, 0)], (h, hm, o))) K161_0 rfl trivial ?_
      exact zF_rbC (zRe1_w (by decide +kernel)) (Or.inl rfl) e
    · refine zF_blk (m := []) (d := 0) (b := B161_7) (gs := [¬ (2 ≤ v1)]) (c' := (9, [some (21, 0), some (0, v1)], [], (h, hm, o))) K161_7 rfl ⟨q2, trivial⟩ ?_
      obtain ⟨q3, e⟩ := zG_s e
      rcases zI_s e with ⟨q4, e⟩ | ⟨q4, e⟩
      · refine zF_blk (m := []) (d := 1) (b := B161_6) (gs := [0 ≤ v1 ∧ v1 < 2, ¬ (h 192 v1 0) = 0]) (c' := (23, [some (21, 0), some (0, v1)], [], (h, hm, o))) K161_6 rfl ⟨q3, q4, trivial⟩ ?_
        obtain ⟨q5, e⟩ := zG_s e
        obtain ⟨r1, q6, e⟩ := zB_s e
        refine zF_blk (m := []) (d := 0) (b := B161_1) (gs := [0 ≤ v1 ∧ v1 < 2]) (c' := (36, [some (21, 0), some (0, v1)], [(19, (v1 + 2)), (19, 0)], (h, hm, o))) K161_1 rfl ⟨q5, trivial⟩ ?_
        refine zF_call (k := 52) (cl := 9) (n := 2) (i := .invokevirtual 120) (args := [(19, 0), (19, (v1 + 2))]) (rest := []) (g1 := (r1, hm, o)) (r1 := none) (zCk1_w (by decide +kernel)) rfl rfl rfl (st' := []) rfl (S52 (Nat.le_trans (by decide) hd) 0 (v1 + 2) h _ q6) ?_
        obtain ⟨q7, e⟩ := zG_s e
        obtain ⟨r2, q8, e⟩ := zB_s e
        refine zF_blk (m := []) (d := 0) (b := B161_2) (gs := [0 ≤ v1 ∧ v1 < 2]) (c' := (52, [some (21, 0), some (0, v1)], [(11, (v1 + 10)), (11, 0)], (r1, hm, o))) K161_2 rfl ⟨q7, trivial⟩ ?_
        refine zF_call (k := 71) (cl := 1) (n := 2) (i := .invokevirtual 266) (args := [(11, 0), (11, (v1 + 10))]) (rest := []) (g1 := (r2, hm, o)) (r1 := none) (zCk1_w (by decide +kernel)) rfl rfl rfl (st' := []) rfl (S71 (Nat.le_trans (by decide) hd) 0 (v1 + 10) r1 _ q8) ?_
        obtain ⟨q9, e⟩ := zG_s e
        obtain ⟨r3, q10, e⟩ := zB_s e
        refine zF_blk (m := []) (d := 0) (b := B161_3) (gs := [0 ≤ v1 ∧ v1 < 2]) (c' := (68, [some (21, 0), some (0, v1)], [(16, (v1 + 2)), (16, 0)], (r2, hm, o))) K161_3 rfl ⟨q9, trivial⟩ ?_
        refine zF_call (k := 155) (cl := 6) (n := 2) (i := .invokevirtual 348) (args := [(16, 0), (16, (v1 + 2))]) (rest := []) (g1 := (r3, hm, o)) (r1 := none) (zCk1_w (by decide +kernel)) rfl rfl rfl (st' := []) rfl (S155 (Nat.le_trans (by decide) hd) 0 (v1 + 2) r2 _ q10) ?_
        obtain ⟨r4, q11, e⟩ := zB_s e
        refine zF_blk (m := []) (d := 0) (b := B161_4) (gs := []) (c' := (75, [some (21, 0), some (0, v1)], [(18, 0)], (r3, hm, o))) K161_4 rfl trivial ?_
        refine zF_call (k := 55) (cl := 8) (n := 1) (i := .invokevirtual 130) (args := [(18, 0)]) (rest := []) (g1 := (r4, hm, o)) (r1 := none) (zCk1_w (by decide +kernel)) rfl rfl rfl (st' := []) rfl (S55 (Nat.le_trans (by decide) hd)  r3 _ q11) ?_
        refine zF_blk (m := []) (d := 0) (b := B161_5) (gs := []) (c' := (79, [some (21, 0), some (0, v1)], [(0, 1)], (r4, hm, o))) K161_5 rfl trivial ?_
        exact zF_rbC (zRe1_w (by decide +kernel)) (Or.inr rfl) e
      · refine zF_blk (m := []) (d := 0) (b := B161_6) (gs := [0 ≤ v1 ∧ v1 < 2, ¬ (¬ (h 192 v1 0) = 0)]) (c' := (21, [some (21, 0), some (0, v1)], [], (h, hm, o))) K161_6 rfl ⟨q3, q4, trivial⟩ ?_
        refine zF_blk (m := []) (d := 0) (b := B161_0) (gs := []) (c' := (22, [some (21, 0), some (0, v1)], [(0, 0)], (h, hm, o))) K161_0 rfl trivial ?_
        exact zF_rbC (zRe1_w (by decide +kernel)) (Or.inl rfl) e
noncomputable def B293_0 : List zRow := [(0, .aload_n 0, 1, (0, 0, 0)), (1, .iconst 0, 1, (0, 0, 0)), (2, .putfield 81, 3, (12, 0, 0)), (5, .iload_n 1, 1, (0, 0, 0)), (6, .iconst 0, 1, (0, 0, 0)), (7, .iconst 1, 1, (0, 0, 0))]
theorem K293_0 : zRk 293 B293_0 = true := zRw_ok (by decide +kernel)
noncomputable def B293_1 : List zRow := [(23, .iconst 0, 1, (0, 0, 0))]
theorem K293_1 : zRk 293 B293_1 = true := zRw_ok (by decide +kernel)
noncomputable def B293_2 : List zRow := [(25, .iconst 0, 1, (0, 0, 0)), (26, .istore_n 2, 1, (0, 0, 0))]
theorem K293_2 : zRk 293 B293_2 = true := zRw_ok (by decide +kernel)
noncomputable def B293_3 : List zRow := [(14, .aload_n 0, 1, (0, 0, 0)), (15, .getfield 38, 3, (12, 22, 5767178)), (18, .iload_n 1, 1, (0, 0, 0)), (19, .baload, 1, (0, 0, 0)), (20, .ifCond .ne 5, 3, (0, 0, 0))]
theorem K293_3 : zRk 293 B293_3 = true := zRw_ok (by decide +kernel)
noncomputable def B293_4 : List zRow := [(11, .ifCond .eq 12, 3, (0, 0, 0))]
theorem K293_4 : zRk 293 B293_4 = true := zRw_ok (by decide +kernel)
noncomputable def B293_5 : List zRow := [(58, .iconst 0, 1, (0, 0, 0)), (59, .istore_n 2, 1, (0, 0, 0))]
theorem K293_5 : zRk 293 B293_5 = true := zRw_ok (by decide +kernel)
noncomputable def B293_6 : List zRow := [(34, .aload_n 0, 1, (0, 0, 0)), (35, .getfield 13, 3, (12, 14, 5251442)), (38, .iload_n 2, 1, (0, 0, 0)), (39, .aload_n 0, 1, (0, 0, 0)), (40, .getfield 19, 3, (12, 16, 5260002)), (43, .sipush 2140, 3, (0, 0, 0)), (46, .iload_n 1, 1, (0, 0, 0))]
theorem K293_6 : zRk 293 B293_6 = true := zRw_ok (by decide +kernel)
noncomputable def B293_7 : List zRow := [(47, .imul, 1, (0, 0, 0)), (48, .iload_n 2, 1, (0, 0, 0)), (49, .iadd, 1, (0, 0, 0)), (50, .iaload, 1, (0, 0, 0)), (51, .iastore, 1, (0, 0, 0)), (52, .iinc 2 1, 3, (0, 0, 0)), (55, .goto (-28), 3, (0, 0, 0))]
theorem K293_7 : zRk 293 B293_7 = true := zRw_ok (by decide +kernel)
noncomputable def B293_8 : List zRow := [(27, .iload_n 2, 1, (0, 0, 0)), (28, .sipush 2140, 3, (0, 0, 0)), (31, .if_icmp .ge 27, 3, (0, 0, 0))]
theorem K293_8 : zRk 293 B293_8 = true := zRw_ok (by decide +kernel)
noncomputable def B293_9 : List zRow := [(89, .aload_n 0, 1, (0, 0, 0)), (90, .iconst 0, 1, (0, 0, 0)), (91, .putfield 232, 3, (12, 23, 0)), (94, .iconst 1, 1, (0, 0, 0))]
theorem K293_9 : zRk 293 B293_9 = true := zRw_ok (by decide +kernel)
noncomputable def B293_10 : List zRow := [(66, .aload_n 0, 1, (0, 0, 0)), (67, .getfield 28, 3, (12, 19, 5505074)), (70, .iload_n 2, 1, (0, 0, 0)), (71, .aload_n 0, 1, (0, 0, 0)), (72, .getfield 35, 3, (12, 21, 5505122)), (75, .bipush 12, 2, (0, 0, 0)), (77, .iload_n 1, 1, (0, 0, 0))]
theorem K293_10 : zRk 293 B293_10 = true := zRw_ok (by decide +kernel)
noncomputable def B293_11 : List zRow := [(78, .imul, 1, (0, 0, 0)), (79, .iload_n 2, 1, (0, 0, 0)), (80, .iadd, 1, (0, 0, 0)), (81, .laload, 1, (0, 0, 0)), (82, .lastore, 1, (0, 0, 0)), (83, .iinc 2 1, 3, (0, 0, 0)), (86, .goto (-26), 3, (0, 0, 0))]
theorem K293_11 : zRk 293 B293_11 = true := zRw_ok (by decide +kernel)
noncomputable def B293_12 : List zRow := [(60, .iload_n 2, 1, (0, 0, 0)), (61, .bipush 12, 2, (0, 0, 0)), (63, .if_icmp .ge 26, 3, (0, 0, 0))]
theorem K293_12 : zRk 293 B293_12 = true := zRw_ok (by decide +kernel)
def F293_1 : Nat → Int → Int → zHM → Option (Int × zHM)
  | 0, _, _, _ => none
  | n + 1, v1, v2, h => if 12 ≤ v2 then some (1, (mset h 23 0 0)) else zG (0 ≤ (wadd (wmul 12 v1) v2) ∧ (wadd (wmul 12 v1) v2) < 24) (zG (0 ≤ v2 ∧ v2 < 12) ((F293_1 n) v1 (wadd v2 1) (mset h 19 v2 (h 21 (wadd (wmul 12 v1) v2)))))
set_option maxRecDepth 100000 in
theorem T293_1 {spec : zRn zH2} {hc : zHC} {o : Int → Int} {d : Nat} (hd : 1 ≤ d) : ∀ (n : Nat) (v1 : Int) (v2 : Int) (h : zHM) (v : (Int × zHM)), F293_1 n v1 v2 h = some v → zFin 0 (fun _ => 0) (zRu2 spec d) 293 (some (0, v.1)) (hc, v.2, o) (60, [some (22, 0), some (0, v1), some (0, v2)], [], (hc, h, o)) := by
  intro n
  induction n with
  | zero => intro v1 v2 h v e; unfold F293_1 at e; cases e
  | succ n hk0 =>
    intro v1 v2 h v e
    unfold F293_1 at e
    rcases zI_s e with ⟨q1, e⟩ | ⟨q1, e⟩
    · refine zF_blk (m := []) (d := 1) (b := B293_12) (gs := [12 ≤ v2]) (c' := (89, [some (22, 0), some (0, v1), some (0, v2)], [], (hc, h, o))) K293_12 rfl ⟨q1, trivial⟩ ?_
      refine zF_blk (m := []) (d := 0) (b := B293_9) (gs := []) (c' := (95, [some (22, 0), some (0, v1), some (0, v2)], [(0, 1)], (hc, (mset h 23 0 0), o))) K293_9 rfl trivial ?_
      exact zF_rbM (zRe1_w (by decide +kernel)) (Or.inr rfl) e
    · refine zF_blk (m := []) (d := 0) (b := B293_12) (gs := [¬ (12 ≤ v2)]) (c' := (66, [some (22, 0), some (0, v1), some (0, v2)], [], (hc, h, o))) K293_12 rfl ⟨q1, trivial⟩ ?_
      obtain ⟨q2, e⟩ := zG_s e
      obtain ⟨q3, e⟩ := zG_s e
      refine zF_blk (m := []) (d := 0) (b := B293_10) (gs := []) (c' := (78, [some (22, 0), some (0, v1), some (0, v2)], [(0, v1), (0, 12), (1409312509, 0), (0, v2), (1409300219, 0)], (hc, h, o))) K293_10 rfl trivial ?_
      refine zF_blk (m := []) (d := 0) (b := B293_11) (gs := [0 ≤ (wadd (wmul 12 v1) v2) ∧ (wadd (wmul 12 v1) v2) < 24, 0 ≤ v2 ∧ v2 < 12]) (c' := (60, [some (22, 0), some (0, v1), some (0, (wadd v2 1))], [], (hc, (mset h 19 v2 (h 21 (wadd (wmul 12 v1) v2))), o))) K293_11 rfl ⟨q2, q3, trivial⟩ ?_
      exact hk0 v1 (wadd v2 1) (mset h 19 v2 (h 21 (wadd (wmul 12 v1) v2))) _ e
def F293_0 : Nat → Int → Int → zHM → Option (Int × zHM)
  | 0, _, _, _ => none
  | n + 1, v1, v2, h => if 2140 ≤ v2 then F293_1 zFu v1 0 h else zG (0 ≤ (wadd (wmul 2140 v1) v2) ∧ (wadd (wmul 2140 v1) v2) < 4280) (zG (0 ≤ v2 ∧ v2 < 2140) ((F293_0 n) v1 (wadd v2 1) (mset h 14 v2 (h 16 (wadd (wmul 2140 v1) v2)))))
set_option maxRecDepth 100000 in
theorem T293_0 {spec : zRn zH2} {hc : zHC} {o : Int → Int} {d : Nat} (hd : 1 ≤ d) : ∀ (n : Nat) (v1 : Int) (v2 : Int) (h : zHM) (v : (Int × zHM)), F293_0 n v1 v2 h = some v → zFin 0 (fun _ => 0) (zRu2 spec d) 293 (some (0, v.1)) (hc, v.2, o) (27, [some (22, 0), some (0, v1), some (0, v2)], [], (hc, h, o)) := by
  intro n
  induction n with
  | zero => intro v1 v2 h v e; unfold F293_0 at e; cases e
  | succ n hk0 =>
    intro v1 v2 h v e
    unfold F293_0 at e
    rcases zI_s e with ⟨q1, e⟩ | ⟨q1, e⟩
    · refine zF_blk (m := []) (d := 1) (b := B293_8) (gs := [2140 ≤ v2]) (c' := (58, [some (22, 0), some (0, v1), some (0, v2)], [], (hc, h, o))) K293_8 rfl ⟨q1, trivial⟩ ?_
      refine zF_blk (m := []) (d := 0) (b := B293_5) (gs := []) (c' := (60, [some (22, 0), some (0, v1), some (0, 0)], [], (hc, h, o))) K293_5 rfl trivial ?_
      exact T293_1 hd zFu v1 0 h _ e
    · refine zF_blk (m := []) (d := 0) (b := B293_8) (gs := [¬ (2140 ≤ v2)]) (c' := (34, [some (22, 0), some (0, v1), some (0, v2)], [], (hc, h, o))) K293_8 rfl ⟨q1, trivial⟩ ?_
      obtain ⟨q2, e⟩ := zG_s e
      obtain ⟨q3, e⟩ := zG_s e
      refine zF_blk (m := []) (d := 0) (b := B293_6) (gs := []) (c' := (47, [some (22, 0), some (0, v1), some (0, v2)], [(0, v1), (0, 2140), (1346561784, 0), (0, v2), (1344370422, 0)], (hc, h, o))) K293_6 rfl trivial ?_
      refine zF_blk (m := []) (d := 0) (b := B293_7) (gs := [0 ≤ (wadd (wmul 2140 v1) v2) ∧ (wadd (wmul 2140 v1) v2) < 4280, 0 ≤ v2 ∧ v2 < 2140]) (c' := (27, [some (22, 0), some (0, v1), some (0, (wadd v2 1))], [], (hc, (mset h 14 v2 (h 16 (wadd (wmul 2140 v1) v2))), o))) K293_7 rfl ⟨q2, q3, trivial⟩ ?_
      exact hk0 v1 (wadd v2 1) (mset h 14 v2 (h 16 (wadd (wmul 2140 v1) v2))) _ e
/-- EchoValeModel.restore(I)Z -/
def F293 (v1 : Int) (h : zHM) : Option (Int × zHM) := (F188 v1 0 1).bind fun r1 => if r1 = 0 then some (0, (mset h 0 0 0)) else zG (0 ≤ v1 ∧ v1 < 2) (if ¬ (h 22 v1) = 0 then F293_0 zFu v1 0 (mset h 0 0 0) else some (0, (mset h 0 0 0)))
set_option maxRecDepth 100000 in
theorem S293 {spec : zRn zH2} {hc : zHC} {o : Int → Int} {d : Nat} (hd : 2 ≤ d) (v1 : Int) (h : zHM) (v : (Int × zHM)) (e : F293 v1 h = some v) : zRu2 spec d 293 [(22, 0), (0, v1)] (hc, h, o) (some (0, v.1)) (hc, v.2, o) := by
  refine zF_in (D := 1) (mx := 3) (L := [some (22, 0), some (0, v1), none]) (by decide +kernel) rfl rfl hd (fun d hd => ?_)
  unfold F293 at e
  obtain ⟨r1, q1, e⟩ := zB_s e
  refine zF_blk (m := []) (d := 0) (b := B293_0) (gs := []) (c' := (8, [some (22, 0), some (0, v1), none], [(0, 1), (0, 0), (0, v1)], (hc, (mset h 0 0 0), o))) K293_0 rfl trivial ?_
  refine zF_call (k := 188) (cl := 12) (n := 3) (i := .invokestatic 151) (args := [(0, v1), (0, 0), (0, 1)]) (rest := []) (g1 := (hc, (mset h 0 0 0), o)) (r1 := some (0, r1)) (zCk1_w (by decide +kernel)) rfl rfl rfl (st' := [(0, r1)]) rfl (S188 (Nat.le_trans (by decide) hd) v1 0 1 (mset h 0 0 0) _ q1) ?_
  rcases zI_s e with ⟨q2, e⟩ | ⟨q2, e⟩
  · refine zF_blk (m := []) (d := 1) (b := B293_4) (gs := [r1 = 0]) (c' := (23, [some (22, 0), some (0, v1), none], [], (hc, (mset h 0 0 0), o))) K293_4 rfl ⟨q2, trivial⟩ ?_
    refine zF_blk (m := []) (d := 0) (b := B293_1) (gs := []) (c' := (24, [some (22, 0), some (0, v1), none], [(0, 0)], (hc, (mset h 0 0 0), o))) K293_1 rfl trivial ?_
    exact zF_rbM (zRe1_w (by decide +kernel)) (Or.inl rfl) e
  · refine zF_blk (m := []) (d := 0) (b := B293_4) (gs := [¬ (r1 = 0)]) (c' := (14, [some (22, 0), some (0, v1), none], [], (hc, (mset h 0 0 0), o))) K293_4 rfl ⟨q2, trivial⟩ ?_
    obtain ⟨q3, e⟩ := zG_s e
    rcases zI_s e with ⟨q4, e⟩ | ⟨q4, e⟩
    · refine zF_blk (m := []) (d := 1) (b := B293_3) (gs := [0 ≤ v1 ∧ v1 < 2, ¬ (h 22 v1) = 0]) (c' := (25, [some (22, 0), some (0, v1), none], [], (hc, (mset h 0 0 0), o))) K293_3 rfl ⟨q3, q4, trivial⟩ ?_
      refine zF_blk (m := []) (d := 0) (b := B293_2) (gs := []) (c' := (27, [some (22, 0), some (0, v1), some (0, 0)], [], (hc, (mset h 0 0 0), o))) K293_2 rfl trivial ?_
      exact T293_0 hd zFu v1 0 (mset h 0 0 0) _ e
    · refine zF_blk (m := []) (d := 0) (b := B293_3) (gs := [0 ≤ v1 ∧ v1 < 2, ¬ (¬ (h 22 v1) = 0)]) (c' := (23, [some (22, 0), some (0, v1), none], [], (hc, (mset h 0 0 0), o))) K293_3 rfl ⟨q3, q4, trivial⟩ ?_
      refine zF_blk (m := []) (d := 0) (b := B293_1) (gs := []) (c' := (24, [some (22, 0), some (0, v1), none], [(0, 0)], (hc, (mset h 0 0 0), o))) K293_1 rfl trivial ?_
      exact zF_rbM (zRe1_w (by decide +kernel)) (Or.inl rfl) e
noncomputable def B162_0 : List zRow := [(52, .aload_n 0, 1, (0, 0, 0)), (53, .getfield 19, 3, (11, 1, 39)), (56, .getfield 365, 3, (9, 0, 0))]
theorem K162_0 : zRk 162 B162_0 = true := zRw_ok (by decide +kernel)
noncomputable def B162_1 : List zRow := [(0, .iload_n 1, 1, (0, 0, 0)), (1, .tableswitch 130 0 8 #[51, 59, 67, 75, 83, 91, 99, 107, 122], 51, (0, 0, 0))]
theorem K162_1 : zRk 162 B162_1 = true := by decide +kernel
noncomputable def B162_2 : List zRow := [(60, .aload_n 0, 1, (0, 0, 0)), (61, .getfield 19, 3, (11, 1, 39)), (64, .getfield 368, 3, (9, 1, 0))]
theorem K162_2 : zRk 162 B162_2 = true := zRw_ok (by decide +kernel)
noncomputable def B162_3 : List zRow := [(68, .aload_n 0, 1, (0, 0, 0)), (69, .getfield 19, 3, (11, 1, 39)), (72, .getfield 282, 3, (9, 2, 0))]
theorem K162_3 : zRk 162 B162_3 = true := zRw_ok (by decide +kernel)
noncomputable def B162_4 : List zRow := [(76, .aload_n 0, 1, (0, 0, 0)), (77, .getfield 19, 3, (11, 1, 39)), (80, .getfield 311, 3, (9, 3, 0))]
theorem K162_4 : zRk 162 B162_4 = true := zRw_ok (by decide +kernel)
noncomputable def B162_5 : List zRow := [(84, .aload_n 0, 1, (0, 0, 0)), (85, .getfield 56, 3, (11, 6, 7)), (88, .getfield 159, 3, (1, 0, 0))]
theorem K162_5 : zRk 162 B162_5 = true := zRw_ok (by decide +kernel)
noncomputable def B162_6 : List zRow := [(92, .aload_n 0, 1, (0, 0, 0)), (93, .getfield 56, 3, (11, 6, 7)), (96, .getfield 354, 3, (1, 1, 0))]
theorem K162_6 : zRk 162 B162_6 = true := zRw_ok (by decide +kernel)
noncomputable def B162_7 : List zRow := [(100, .aload_n 0, 1, (0, 0, 0)), (101, .getfield 56, 3, (11, 6, 7)), (104, .getfield 208, 3, (1, 2, 0))]
theorem K162_7 : zRk 162 B162_7 = true := zRw_ok (by decide +kernel)
noncomputable def B162_8 : List zRow := [(108, .aload_n 0, 1, (0, 0, 0)), (109, .getfield 19, 3, (11, 1, 39)), (112, .aload_n 0, 1, (0, 0, 0)), (113, .getfield 56, 3, (11, 6, 7)), (116, .getfield 159, 3, (1, 0, 0))]
theorem K162_8 : zRk 162 B162_8 = true := zRw_ok (by decide +kernel)
noncomputable def B162_9 : List zRow := [(123, .aload_n 0, 1, (0, 0, 0)), (124, .getfield 12, 3, (11, 0, 23)), (127, .getfield 105, 3, (5, 1, 0))]
theorem K162_9 : zRk 162 B162_9 = true := zRw_ok (by decide +kernel)
noncomputable def B162_10 : List zRow := [(131, .iconst (-1), 1, (0, 0, 0))]
theorem K162_10 : zRk 162 B162_10 = true := zRw_ok (by decide +kernel)
/-- EchoVale.count(I)I -/
def F162 (v1 : Int) (h : zHC) : Option Int := if v1 = 0 then some (h 576 0 0) else if v1 = 1 then some (h 577 0 0) else if v1 = 2 then some (h 578 0 0) else if v1 = 3 then some (h 579 0 0) else if v1 = 4 then some (h 64 0 0) else if v1 = 5 then some (h 65 0 0) else if v1 = 6 then some (h 66 0 0) else if v1 = 7 then (F91 0 (h 64 0 0) h).bind fun r1 => some r1 else if v1 = 8 then some (h 321 0 0) else zG (v1 < 0 ∨ 8 < v1) (some (-1))
set_option maxRecDepth 100000 in
theorem S162 {spec : zRn zH2} {hm : zHM} {o : Int → Int} {d : Nat} (hd : 2 ≤ d) (v1 : Int) (h : zHC) (v : Int) (e : F162 v1 h = some v) : zRu2 spec d 162 [(21, 0), (0, v1)] (h, hm, o) (some (0, v)) (h, hm, o) := by
  refine zF_in (D := 1) (mx := 2) (L := [some (21, 0), some (0, v1)]) (by decide +kernel) rfl rfl hd (fun d hd => ?_)
  unfold F162 at e
  rcases zI_s e with ⟨q1, e⟩ | ⟨q1, e⟩
  · refine zF_blk (m := []) (d := 0) (b := B162_1) (gs := [v1 = 0]) (c' := (52, [some (21, 0), some (0, v1)], [], (h, hm, o))) K162_1 rfl ⟨q1, trivial⟩ ?_
    refine zF_blk (m := []) (d := 0) (b := B162_0) (gs := []) (c' := (59, [some (21, 0), some (0, v1)], [(0, (h 576 0 0))], (h, hm, o))) K162_0 rfl trivial ?_
    obtain rfl := Option.some.inj e
    exact zF_ri (zRe1_w (by decide +kernel))
  rcases zI_s e with ⟨q2, e⟩ | ⟨q2, e⟩
  · refine zF_blk (m := []) (d := 1) (b := B162_1) (gs := [v1 = 1]) (c' := (60, [some (21, 0), some (0, v1)], [], (h, hm, o))) K162_1 rfl ⟨q2, trivial⟩ ?_
    refine zF_blk (m := []) (d := 0) (b := B162_2) (gs := []) (c' := (67, [some (21, 0), some (0, v1)], [(0, (h 577 0 0))], (h, hm, o))) K162_2 rfl trivial ?_
    obtain rfl := Option.some.inj e
    exact zF_ri (zRe1_w (by decide +kernel))
  rcases zI_s e with ⟨q3, e⟩ | ⟨q3, e⟩
  · refine zF_blk (m := []) (d := 2) (b := B162_1) (gs := [v1 = 2]) (c' := (68, [some (21, 0), some (0, v1)], [], (h, hm, o))) K162_1 rfl ⟨q3, trivial⟩ ?_
    refine zF_blk (m := []) (d := 0) (b := B162_3) (gs := []) (c' := (75, [some (21, 0), some (0, v1)], [(0, (h 578 0 0))], (h, hm, o))) K162_3 rfl trivial ?_
    obtain rfl := Option.some.inj e
    exact zF_ri (zRe1_w (by decide +kernel))
  rcases zI_s e with ⟨q4, e⟩ | ⟨q4, e⟩
  · refine zF_blk (m := []) (d := 3) (b := B162_1) (gs := [v1 = 3]) (c' := (76, [some (21, 0), some (0, v1)], [], (h, hm, o))) K162_1 rfl ⟨q4, trivial⟩ ?_
    refine zF_blk (m := []) (d := 0) (b := B162_4) (gs := []) (c' := (83, [some (21, 0), some (0, v1)], [(0, (h 579 0 0))], (h, hm, o))) K162_4 rfl trivial ?_
    obtain rfl := Option.some.inj e
    exact zF_ri (zRe1_w (by decide +kernel))
  rcases zI_s e with ⟨q5, e⟩ | ⟨q5, e⟩
  · refine zF_blk (m := []) (d := 4) (b := B162_1) (gs := [v1 = 4]) (c' := (84, [some (21, 0), some (0, v1)], [], (h, hm, o))) K162_1 rfl ⟨q5, trivial⟩ ?_
    refine zF_blk (m := []) (d := 0) (b := B162_5) (gs := []) (c' := (91, [some (21, 0), some (0, v1)], [(0, (h 64 0 0))], (h, hm, o))) K162_5 rfl trivial ?_
    obtain rfl := Option.some.inj e
    exact zF_ri (zRe1_w (by decide +kernel))
  rcases zI_s e with ⟨q6, e⟩ | ⟨q6, e⟩
  · refine zF_blk (m := []) (d := 5) (b := B162_1) (gs := [v1 = 5]) (c' := (92, [some (21, 0), some (0, v1)], [], (h, hm, o))) K162_1 rfl ⟨q6, trivial⟩ ?_
    refine zF_blk (m := []) (d := 0) (b := B162_6) (gs := []) (c' := (99, [some (21, 0), some (0, v1)], [(0, (h 65 0 0))], (h, hm, o))) K162_6 rfl trivial ?_
    obtain rfl := Option.some.inj e
    exact zF_ri (zRe1_w (by decide +kernel))
  rcases zI_s e with ⟨q7, e⟩ | ⟨q7, e⟩
  · refine zF_blk (m := []) (d := 6) (b := B162_1) (gs := [v1 = 6]) (c' := (100, [some (21, 0), some (0, v1)], [], (h, hm, o))) K162_1 rfl ⟨q7, trivial⟩ ?_
    refine zF_blk (m := []) (d := 0) (b := B162_7) (gs := []) (c' := (107, [some (21, 0), some (0, v1)], [(0, (h 66 0 0))], (h, hm, o))) K162_7 rfl trivial ?_
    obtain rfl := Option.some.inj e
    exact zF_ri (zRe1_w (by decide +kernel))
  rcases zI_s e with ⟨q8, e⟩ | ⟨q8, e⟩
  · refine zF_blk (m := []) (d := 7) (b := B162_1) (gs := [v1 = 7]) (c' := (108, [some (21, 0), some (0, v1)], [], (h, hm, o))) K162_1 rfl ⟨q8, trivial⟩ ?_
    obtain ⟨r1, q9, e⟩ := zB_s e
    refine zF_blk (m := []) (d := 0) (b := B162_8) (gs := []) (c' := (119, [some (21, 0), some (0, v1)], [(0, (h 64 0 0)), (19, 0)], (h, hm, o))) K162_8 rfl trivial ?_
    refine zF_call (k := 91) (cl := 9) (n := 2) (i := .invokevirtual 162) (args := [(19, 0), (0, (h 64 0 0))]) (rest := []) (g1 := (h, hm, o)) (r1 := some (0, r1)) (zCk1_w (by decide +kernel)) rfl rfl rfl (st' := [(0, r1)]) rfl (S91 (Nat.le_trans (by decide) hd) 0 (h 64 0 0) h _ q9) ?_
    obtain rfl := Option.some.inj e
    exact zF_ri (zRe1_w (by decide +kernel))
  rcases zI_s e with ⟨q10, e⟩ | ⟨q10, e⟩
  · refine zF_blk (m := []) (d := 8) (b := B162_1) (gs := [v1 = 8]) (c' := (123, [some (21, 0), some (0, v1)], [], (h, hm, o))) K162_1 rfl ⟨q10, trivial⟩ ?_
    refine zF_blk (m := []) (d := 0) (b := B162_9) (gs := []) (c' := (130, [some (21, 0), some (0, v1)], [(0, (h 321 0 0))], (h, hm, o))) K162_9 rfl trivial ?_
    obtain rfl := Option.some.inj e
    exact zF_ri (zRe1_w (by decide +kernel))
  obtain ⟨q11, e⟩ := zG_s e
  refine zF_blk (m := []) (d := 9) (b := B162_1) (gs := [v1 < 0 ∨ 8 < v1]) (c' := (131, [some (21, 0), some (0, v1)], [], (h, hm, o))) K162_1 rfl ⟨q11, trivial⟩ ?_
  refine zF_blk (m := []) (d := 0) (b := B162_10) (gs := []) (c' := (132, [some (21, 0), some (0, v1)], [(0, (-1))], (h, hm, o))) K162_10 rfl trivial ?_
  obtain rfl := Option.some.inj e
  exact zF_ri (zRe1_w (by decide +kernel))
noncomputable def B294_0 : List zRow := [(56, .aload_n 0, 1, (0, 0, 0)), (57, .getfield 13, 3, (12, 14, 5251442)), (60, .iconst 0, 1, (0, 0, 0)), (61, .iaload, 1, (0, 0, 0))]
theorem K294_0 : zRk 294 B294_0 = true := zRw_ok (by decide +kernel)
noncomputable def B294_1 : List zRow := [(0, .aload_n 0, 1, (0, 0, 0)), (1, .iconst 0, 1, (0, 0, 0)), (2, .putfield 81, 3, (12, 0, 0)), (5, .iload_n 1, 1, (0, 0, 0)), (6, .tableswitch 123 0 8 #[50, 57, 64, 71, 78, 87, 96, 105, 118], 50, (0, 0, 0))]
theorem K294_1 : zRk 294 B294_1 = true := by decide +kernel
noncomputable def B294_2 : List zRow := [(63, .aload_n 0, 1, (0, 0, 0)), (64, .getfield 13, 3, (12, 14, 5251442)), (67, .iconst 1, 1, (0, 0, 0)), (68, .iaload, 1, (0, 0, 0))]
theorem K294_2 : zRk 294 B294_2 = true := zRw_ok (by decide +kernel)
noncomputable def B294_3 : List zRow := [(70, .aload_n 0, 1, (0, 0, 0)), (71, .getfield 13, 3, (12, 14, 5251442)), (74, .iconst 2, 1, (0, 0, 0)), (75, .iaload, 1, (0, 0, 0))]
theorem K294_3 : zRk 294 B294_3 = true := zRw_ok (by decide +kernel)
noncomputable def B294_4 : List zRow := [(77, .aload_n 0, 1, (0, 0, 0)), (78, .getfield 13, 3, (12, 14, 5251442)), (81, .iconst 3, 1, (0, 0, 0)), (82, .iaload, 1, (0, 0, 0))]
theorem K294_4 : zRk 294 B294_4 = true := zRw_ok (by decide +kernel)
noncomputable def B294_5 : List zRow := [(84, .aload_n 0, 1, (0, 0, 0)), (85, .getfield 13, 3, (12, 14, 5251442)), (88, .sipush 209, 3, (0, 0, 0)), (91, .iaload, 1, (0, 0, 0))]
theorem K294_5 : zRk 294 B294_5 = true := zRw_ok (by decide +kernel)
noncomputable def B294_6 : List zRow := [(93, .aload_n 0, 1, (0, 0, 0)), (94, .getfield 13, 3, (12, 14, 5251442)), (97, .sipush 216, 3, (0, 0, 0)), (100, .iaload, 1, (0, 0, 0))]
theorem K294_6 : zRk 294 B294_6 = true := zRw_ok (by decide +kernel)
noncomputable def B294_7 : List zRow := [(102, .aload_n 0, 1, (0, 0, 0)), (103, .getfield 13, 3, (12, 14, 5251442)), (106, .sipush 997, 3, (0, 0, 0)), (109, .iaload, 1, (0, 0, 0))]
theorem K294_7 : zRk 294 B294_7 = true := zRw_ok (by decide +kernel)
noncomputable def B294_8 : List zRow := [(111, .aload_n 0, 1, (0, 0, 0)), (112, .aload_n 0, 1, (0, 0, 0)), (113, .getfield 13, 3, (12, 14, 5251442)), (116, .sipush 209, 3, (0, 0, 0)), (119, .iaload, 1, (0, 0, 0))]
theorem K294_8 : zRk 294 B294_8 = true := zRw_ok (by decide +kernel)
noncomputable def B294_9 : List zRow := [(124, .aload_n 0, 1, (0, 0, 0)), (125, .getfield 85, 3, (12, 2, 0))]
theorem K294_9 : zRk 294 B294_9 = true := zRw_ok (by decide +kernel)
noncomputable def B294_10 : List zRow := [(129, .iconst (-1), 1, (0, 0, 0))]
theorem K294_10 : zRk 294 B294_10 = true := zRw_ok (by decide +kernel)
/-- EchoValeModel.count(I)I -/
def F294 (v1 : Int) (h : zHM) : Option (Int × zHM) := if v1 = 0 then some ((h 14 0), (mset h 0 0 0)) else if v1 = 1 then some ((h 14 1), (mset h 0 0 0)) else if v1 = 2 then some ((h 14 2), (mset h 0 0 0)) else if v1 = 3 then some ((h 14 3), (mset h 0 0 0)) else if v1 = 4 then some ((h 14 209), (mset h 0 0 0)) else if v1 = 5 then some ((h 14 216), (mset h 0 0 0)) else if v1 = 6 then some ((h 14 997), (mset h 0 0 0)) else if v1 = 7 then (F208 (h 14 209) (mset h 0 0 0)).bind fun r1 => some (r1, (mset h 0 0 0)) else if v1 = 8 then some ((h 2 0), (mset h 0 0 0)) else zG (v1 < 0 ∨ 8 < v1) (some ((-1), (mset h 0 0 0)))
set_option maxRecDepth 100000 in
theorem S294 {spec : zRn zH2} {hc : zHC} {o : Int → Int} {d : Nat} (hd : 2 ≤ d) (v1 : Int) (h : zHM) (v : (Int × zHM)) (e : F294 v1 h = some v) : zRu2 spec d 294 [(22, 0), (0, v1)] (hc, h, o) (some (0, v.1)) (hc, v.2, o) := by
  refine zF_in (D := 1) (mx := 2) (L := [some (22, 0), some (0, v1)]) (by decide +kernel) rfl rfl hd (fun d hd => ?_)
  unfold F294 at e
  rcases zI_s e with ⟨q1, e⟩ | ⟨q1, e⟩
  · refine zF_blk (m := []) (d := 0) (b := B294_1) (gs := [v1 = 0]) (c' := (56, [some (22, 0), some (0, v1)], [], (hc, (mset h 0 0 0), o))) K294_1 rfl ⟨q1, trivial⟩ ?_
    refine zF_blk (m := []) (d := 0) (b := B294_0) (gs := [0 ≤ 0 ∧ 0 < 2140]) (c' := (62, [some (22, 0), some (0, v1)], [(0, (h 14 0))], (hc, (mset h 0 0 0), o))) K294_0 rfl ⟨by decide, trivial⟩ ?_
    exact zF_riM (zRe1_w (by decide +kernel)) e
  rcases zI_s e with ⟨q2, e⟩ | ⟨q2, e⟩
  · refine zF_blk (m := []) (d := 1) (b := B294_1) (gs := [v1 = 1]) (c' := (63, [some (22, 0), some (0, v1)], [], (hc, (mset h 0 0 0), o))) K294_1 rfl ⟨q2, trivial⟩ ?_
    refine zF_blk (m := []) (d := 0) (b := B294_2) (gs := [0 ≤ 1 ∧ 1 < 2140]) (c' := (69, [some (22, 0), some (0, v1)], [(0, (h 14 1))], (hc, (mset h 0 0 0), o))) K294_2 rfl ⟨by decide, trivial⟩ ?_
    exact zF_riM (zRe1_w (by decide +kernel)) e
  rcases zI_s e with ⟨q3, e⟩ | ⟨q3, e⟩
  · refine zF_blk (m := []) (d := 2) (b := B294_1) (gs := [v1 = 2]) (c' := (70, [some (22, 0), some (0, v1)], [], (hc, (mset h 0 0 0), o))) K294_1 rfl ⟨q3, trivial⟩ ?_
    refine zF_blk (m := []) (d := 0) (b := B294_3) (gs := [0 ≤ 2 ∧ 2 < 2140]) (c' := (76, [some (22, 0), some (0, v1)], [(0, (h 14 2))], (hc, (mset h 0 0 0), o))) K294_3 rfl ⟨by decide, trivial⟩ ?_
    exact zF_riM (zRe1_w (by decide +kernel)) e
  rcases zI_s e with ⟨q4, e⟩ | ⟨q4, e⟩
  · refine zF_blk (m := []) (d := 3) (b := B294_1) (gs := [v1 = 3]) (c' := (77, [some (22, 0), some (0, v1)], [], (hc, (mset h 0 0 0), o))) K294_1 rfl ⟨q4, trivial⟩ ?_
    refine zF_blk (m := []) (d := 0) (b := B294_4) (gs := [0 ≤ 3 ∧ 3 < 2140]) (c' := (83, [some (22, 0), some (0, v1)], [(0, (h 14 3))], (hc, (mset h 0 0 0), o))) K294_4 rfl ⟨by decide, trivial⟩ ?_
    exact zF_riM (zRe1_w (by decide +kernel)) e
  rcases zI_s e with ⟨q5, e⟩ | ⟨q5, e⟩
  · refine zF_blk (m := []) (d := 4) (b := B294_1) (gs := [v1 = 4]) (c' := (84, [some (22, 0), some (0, v1)], [], (hc, (mset h 0 0 0), o))) K294_1 rfl ⟨q5, trivial⟩ ?_
    refine zF_blk (m := []) (d := 0) (b := B294_5) (gs := [0 ≤ 209 ∧ 209 < 2140]) (c' := (92, [some (22, 0), some (0, v1)], [(0, (h 14 209))], (hc, (mset h 0 0 0), o))) K294_5 rfl ⟨by decide, trivial⟩ ?_
    exact zF_riM (zRe1_w (by decide +kernel)) e
  rcases zI_s e with ⟨q6, e⟩ | ⟨q6, e⟩
  · refine zF_blk (m := []) (d := 5) (b := B294_1) (gs := [v1 = 5]) (c' := (93, [some (22, 0), some (0, v1)], [], (hc, (mset h 0 0 0), o))) K294_1 rfl ⟨q6, trivial⟩ ?_
    refine zF_blk (m := []) (d := 0) (b := B294_6) (gs := [0 ≤ 216 ∧ 216 < 2140]) (c' := (101, [some (22, 0), some (0, v1)], [(0, (h 14 216))], (hc, (mset h 0 0 0), o))) K294_6 rfl ⟨by decide, trivial⟩ ?_
    exact zF_riM (zRe1_w (by decide +kernel)) e
  rcases zI_s e with ⟨q7, e⟩ | ⟨q7, e⟩
  · refine zF_blk (m := []) (d := 6) (b := B294_1) (gs := [v1 = 6]) (c' := (102, [some (22, 0), some (0, v1)], [], (hc, (mset h 0 0 0), o))) K294_1 rfl ⟨q7, trivial⟩ ?_
    refine zF_blk (m := []) (d := 0) (b := B294_7) (gs := [0 ≤ 997 ∧ 997 < 2140]) (c' := (110, [some (22, 0), some (0, v1)], [(0, (h 14 997))], (hc, (mset h 0 0 0), o))) K294_7 rfl ⟨by decide, trivial⟩ ?_
    exact zF_riM (zRe1_w (by decide +kernel)) e
  rcases zI_s e with ⟨q8, e⟩ | ⟨q8, e⟩
  · refine zF_blk (m := []) (d := 7) (b := B294_1) (gs := [v1 = 7]) (c' := (111, [some (22, 0), some (0, v1)], [], (hc, (mset h 0 0 0), o))) K294_1 rfl ⟨q8, trivial⟩ ?_
    obtain ⟨r1, q9, e⟩ := zB_s e
    refine zF_blk (m := []) (d := 0) (b := B294_8) (gs := [0 ≤ 209 ∧ 209 < 2140]) (c' := (120, [some (22, 0), some (0, v1)], [(0, (h 14 209)), (22, 0)], (hc, (mset h 0 0 0), o))) K294_8 rfl ⟨by decide, trivial⟩ ?_
    refine zF_call (k := 208) (cl := 12) (n := 2) (i := .invokevirtual 244) (args := [(22, 0), (0, (h 14 209))]) (rest := []) (g1 := (hc, (mset h 0 0 0), o)) (r1 := some (0, r1)) (zCk1_w (by decide +kernel)) rfl rfl rfl (st' := [(0, r1)]) rfl (S208 (Nat.le_trans (by decide) hd) (h 14 209) (mset h 0 0 0) _ q9) ?_
    exact zF_riM (zRe1_w (by decide +kernel)) e
  rcases zI_s e with ⟨q10, e⟩ | ⟨q10, e⟩
  · refine zF_blk (m := []) (d := 8) (b := B294_1) (gs := [v1 = 8]) (c' := (124, [some (22, 0), some (0, v1)], [], (hc, (mset h 0 0 0), o))) K294_1 rfl ⟨q10, trivial⟩ ?_
    refine zF_blk (m := []) (d := 0) (b := B294_9) (gs := []) (c' := (128, [some (22, 0), some (0, v1)], [(0, (h 2 0))], (hc, (mset h 0 0 0), o))) K294_9 rfl trivial ?_
    exact zF_riM (zRe1_w (by decide +kernel)) e
  obtain ⟨q11, e⟩ := zG_s e
  refine zF_blk (m := []) (d := 9) (b := B294_1) (gs := [v1 < 0 ∨ 8 < v1]) (c' := (129, [some (22, 0), some (0, v1)], [], (hc, (mset h 0 0 0), o))) K294_1 rfl ⟨q11, trivial⟩ ?_
  refine zF_blk (m := []) (d := 0) (b := B294_10) (gs := []) (c' := (130, [some (22, 0), some (0, v1)], [(0, (-1))], (hc, (mset h 0 0 0), o))) K294_10 rfl trivial ?_
  exact zF_riM (zRe1_w (by decide +kernel)) e
noncomputable def B163_0 : List zRow := [(0, .aload_n 0, 1, (0, 0, 0)), (1, .iload_n 1, 1, (0, 0, 0))]
theorem K163_0 : zRk 163 B163_0 = true := zRw_ok (by decide +kernel)
noncomputable def B163_1 : List zRow := [(56, .aload_n 0, 1, (0, 0, 0)), (57, .getfield 19, 3, (11, 1, 39)), (60, .getfield 150, 3, (9, 8, 5242906)), (63, .iload_n 1, 1, (0, 0, 0)), (64, .iaload, 1, (0, 0, 0))]
theorem K163_1 : zRk 163 B163_1 = true := zRw_ok (by decide +kernel)
noncomputable def B163_2 : List zRow := [(27, .iload_n 2, 1, (0, 0, 0)), (28, .tableswitch 58 0 2 #[28, 38, 48], 28, (0, 0, 0))]
theorem K163_2 : zRk 163 B163_2 = true := by decide +kernel
noncomputable def B163_3 : List zRow := [(66, .aload_n 0, 1, (0, 0, 0)), (67, .getfield 19, 3, (11, 1, 39)), (70, .getfield 153, 3, (9, 9, 5242906)), (73, .iload_n 1, 1, (0, 0, 0)), (74, .iaload, 1, (0, 0, 0))]
theorem K163_3 : zRk 163 B163_3 = true := zRw_ok (by decide +kernel)
noncomputable def B163_4 : List zRow := [(76, .aload_n 0, 1, (0, 0, 0)), (77, .getfield 19, 3, (11, 1, 39)), (80, .getfield 156, 3, (9, 10, 5242906)), (83, .iload_n 1, 1, (0, 0, 0)), (84, .iaload, 1, (0, 0, 0))]
theorem K163_4 : zRk 163 B163_4 = true := zRw_ok (by decide +kernel)
noncomputable def B163_5 : List zRow := [(86, .iconst 0, 1, (0, 0, 0)), (87, .aload_n 0, 1, (0, 0, 0)), (88, .getfield 19, 3, (11, 1, 39)), (91, .getfield 156, 3, (9, 10, 5242906)), (94, .iload_n 1, 1, (0, 0, 0)), (95, .iaload, 1, (0, 0, 0)), (96, .aload_n 0, 1, (0, 0, 0)), (97, .getfield 19, 3, (11, 1, 39)), (100, .aload_n 0, 1, (0, 0, 0)), (101, .getfield 56, 3, (11, 6, 7)), (104, .getfield 159, 3, (1, 0, 0))]
theorem K163_5 : zRk 163 B163_5 = true := zRw_ok (by decide +kernel)
noncomputable def B163_6 : List zRow := [(110, .isub, 1, (0, 0, 0)), (111, .invokestatic 166, 3, (5004, 0, 0))]
theorem K163_6 : zRk 163 B163_6 = true := zRw_ok (by decide +kernel)
noncomputable def B163_7 : List zRow := [(12, .iload_n 2, 1, (0, 0, 0)), (13, .iconst 3, 1, (0, 0, 0)), (14, .if_icmp .le 13, 3, (0, 0, 0))]
theorem K163_7 : zRk 163 B163_7 = true := zRw_ok (by decide +kernel)
noncomputable def B163_8 : List zRow := [(8, .iload_n 2, 1, (0, 0, 0)), (9, .ifCond .lt 8, 3, (0, 0, 0))]
theorem K163_8 : zRk 163 B163_8 = true := zRw_ok (by decide +kernel)
noncomputable def B163_9 : List zRow := [(5, .ifCond .eq 12, 3, (0, 0, 0))]
theorem K163_9 : zRk 163 B163_9 = true := zRw_ok (by decide +kernel)
def F163_0 (h : zHC) : Option Int := none
set_option maxRecDepth 100000 in
theorem T163_0 {spec : zRn zH2} {hm : zHM} {o : Int → Int} {d : Nat} (hd : 1 ≤ d) (h : zHC) (v : Int) (e : F163_0 h = some v) : zFin 0 (fun _ => 0) (zRu2 spec d) 163 (some (0, v)) (h, hm, o) (17, [none, none, none], [], (h, hm, o)) := by
  unfold F163_0 at e
  cases e
/-- EchoVale.cliff(II)I -/
def F163 (v1 : Int) (v2 : Int) (h : zHC) : Option Int := (F59 v1 h).bind fun r1 => if r1 = 0 then F163_0 h else if v2 < 0 then F163_0 h else if v2 ≤ 3 then if v2 = 0 then zG (0 ≤ v1 ∧ v1 < 6) (some (h 584 0 v1)) else if v2 = 1 then zG (0 ≤ v1 ∧ v1 < 6) (some (h 585 0 v1)) else if v2 = 2 then zG (0 ≤ v1 ∧ v1 < 6) (some (h 586 0 v1)) else zG (v2 < 0 ∨ 2 < v2) (zG (0 ≤ v1 ∧ v1 < 6) ((F91 0 (h 64 0 0) h).bind fun r2 => some (if 0 < (wsub (h 586 0 v1) r2) then (wsub (h 586 0 v1) r2) else 0))) else F163_0 h
set_option maxRecDepth 100000 in
theorem S163 {spec : zRn zH2} {hm : zHM} {o : Int → Int} {d : Nat} (hd : 2 ≤ d) (v1 : Int) (v2 : Int) (h : zHC) (v : Int) (e : F163 v1 v2 h = some v) : zRu2 spec d 163 [(21, 0), (0, v1), (0, v2)] (h, hm, o) (some (0, v)) (h, hm, o) := by
  refine zF_in (D := 1) (mx := 3) (L := [some (21, 0), some (0, v1), some (0, v2)]) (by decide +kernel) rfl rfl hd (fun d hd => ?_)
  unfold F163 at e
  obtain ⟨r1, q1, e⟩ := zB_s e
  refine zF_blk (m := []) (d := 0) (b := B163_0) (gs := []) (c' := (2, [some (21, 0), some (0, v1), some (0, v2)], [(0, v1), (21, 0)], (h, hm, o))) K163_0 rfl trivial ?_
  refine zF_call (k := 59) (cl := 11) (n := 2) (i := .invokevirtual 139) (args := [(21, 0), (0, v1)]) (rest := []) (g1 := (h, hm, o)) (r1 := some (0, r1)) (zCk1_w (by decide +kernel)) rfl rfl rfl (st' := [(0, r1)]) rfl (S59 (Nat.le_trans (by decide) hd) v1 h _ q1) ?_
  rcases zI_s e with ⟨q2, e⟩ | ⟨q2, e⟩
  · refine zF_blk (m := []) (d := 1) (b := B163_9) (gs := [r1 = 0]) (c' := (17, [some (21, 0), some (0, v1), some (0, v2)], [], (h, hm, o))) K163_9 rfl ⟨q2, trivial⟩ ?_
    refine zF_blk (m := [false, false, false]) (d := 0) (b := []) (gs := []) (c' := (17, [none, none, none], [], (h, hm, o))) rfl rfl trivial ?_
    exact T163_0 hd h _ e
  · refine zF_blk (m := []) (d := 0) (b := B163_9) (gs := [¬ (r1 = 0)]) (c' := (8, [some (21, 0), some (0, v1), some (0, v2)], [], (h, hm, o))) K163_9 rfl ⟨q2, trivial⟩ ?_
    rcases zI_s e with ⟨q3, e⟩ | ⟨q3, e⟩
    · refine zF_blk (m := []) (d := 1) (b := B163_8) (gs := [v2 < 0]) (c' := (17, [some (21, 0), some (0, v1), some (0, v2)], [], (h, hm, o))) K163_8 rfl ⟨q3, trivial⟩ ?_
      refine zF_blk (m := [false, false, false]) (d := 0) (b := []) (gs := []) (c' := (17, [none, none, none], [], (h, hm, o))) rfl rfl trivial ?_
      exact T163_0 hd h _ e
    · refine zF_blk (m := []) (d := 0) (b := B163_8) (gs := [¬ (v2 < 0)]) (c' := (12, [some (21, 0), some (0, v1), some (0, v2)], [], (h, hm, o))) K163_8 rfl ⟨q3, trivial⟩ ?_
      rcases zI_s e with ⟨q4, e⟩ | ⟨q4, e⟩
      · refine zF_blk (m := []) (d := 1) (b := B163_7) (gs := [v2 ≤ 3]) (c' := (27, [some (21, 0), some (0, v1), some (0, v2)], [], (h, hm, o))) K163_7 rfl ⟨q4, trivial⟩ ?_
        rcases zI_s e with ⟨q5, e⟩ | ⟨q5, e⟩
        · refine zF_blk (m := []) (d := 0) (b := B163_2) (gs := [v2 = 0]) (c' := (56, [some (21, 0), some (0, v1), some (0, v2)], [], (h, hm, o))) K163_2 rfl ⟨q5, trivial⟩ ?_
          obtain ⟨q6, e⟩ := zG_s e
          refine zF_blk (m := []) (d := 0) (b := B163_1) (gs := [0 ≤ v1 ∧ v1 < 6]) (c' := (65, [some (21, 0), some (0, v1), some (0, v2)], [(0, (h 584 0 v1))], (h, hm, o))) K163_1 rfl ⟨q6, trivial⟩ ?_
          obtain rfl := Option.some.inj e
          exact zF_ri (zRe1_w (by decide +kernel))
        rcases zI_s e with ⟨q7, e⟩ | ⟨q7, e⟩
        · refine zF_blk (m := []) (d := 1) (b := B163_2) (gs := [v2 = 1]) (c' := (66, [some (21, 0), some (0, v1), some (0, v2)], [], (h, hm, o))) K163_2 rfl ⟨q7, trivial⟩ ?_
          obtain ⟨q8, e⟩ := zG_s e
          refine zF_blk (m := []) (d := 0) (b := B163_3) (gs := [0 ≤ v1 ∧ v1 < 6]) (c' := (75, [some (21, 0), some (0, v1), some (0, v2)], [(0, (h 585 0 v1))], (h, hm, o))) K163_3 rfl ⟨q8, trivial⟩ ?_
          obtain rfl := Option.some.inj e
          exact zF_ri (zRe1_w (by decide +kernel))
        rcases zI_s e with ⟨q9, e⟩ | ⟨q9, e⟩
        · refine zF_blk (m := []) (d := 2) (b := B163_2) (gs := [v2 = 2]) (c' := (76, [some (21, 0), some (0, v1), some (0, v2)], [], (h, hm, o))) K163_2 rfl ⟨q9, trivial⟩ ?_
          obtain ⟨q10, e⟩ := zG_s e
          refine zF_blk (m := []) (d := 0) (b := B163_4) (gs := [0 ≤ v1 ∧ v1 < 6]) (c' := (85, [some (21, 0), some (0, v1), some (0, v2)], [(0, (h 586 0 v1))], (h, hm, o))) K163_4 rfl ⟨q10, trivial⟩ ?_
          obtain rfl := Option.some.inj e
          exact zF_ri (zRe1_w (by decide +kernel))
        obtain ⟨q13, e⟩ := zG_s e
        refine zF_blk (m := []) (d := 3) (b := B163_2) (gs := [v2 < 0 ∨ 2 < v2]) (c' := (86, [some (21, 0), some (0, v1), some (0, v2)], [], (h, hm, o))) K163_2 rfl ⟨q13, trivial⟩ ?_
        obtain ⟨q11, e⟩ := zG_s e
        obtain ⟨r2, q12, e⟩ := zB_s e
        refine zF_blk (m := []) (d := 0) (b := B163_5) (gs := [0 ≤ v1 ∧ v1 < 6]) (c' := (107, [some (21, 0), some (0, v1), some (0, v2)], [(0, (h 64 0 0)), (19, 0), (0, (h 586 0 v1)), (0, 0)], (h, hm, o))) K163_5 rfl ⟨q11, trivial⟩ ?_
        refine zF_call (k := 91) (cl := 9) (n := 2) (i := .invokevirtual 162) (args := [(19, 0), (0, (h 64 0 0))]) (rest := [(0, (h 586 0 v1)), (0, 0)]) (g1 := (h, hm, o)) (r1 := some (0, r2)) (zCk1_w (by decide +kernel)) rfl rfl rfl (st' := [(0, r2), (0, (h 586 0 v1)), (0, 0)]) rfl (S91 (Nat.le_trans (by decide) hd) 0 (h 64 0 0) h _ q12) ?_
        refine zF_blk (m := []) (d := 0) (b := B163_6) (gs := []) (c' := (114, [some (21, 0), some (0, v1), some (0, v2)], [(0, (if 0 < (wsub (h 586 0 v1) r2) then (wsub (h 586 0 v1) r2) else 0))], (h, hm, o))) K163_6 rfl trivial ?_
        obtain rfl := Option.some.inj e
        exact zF_ri (zRe1_w (by decide +kernel))
      · refine zF_blk (m := []) (d := 0) (b := B163_7) (gs := [¬ (v2 ≤ 3)]) (c' := (17, [some (21, 0), some (0, v1), some (0, v2)], [], (h, hm, o))) K163_7 rfl ⟨q4, trivial⟩ ?_
        refine zF_blk (m := [false, false, false]) (d := 0) (b := []) (gs := []) (c' := (17, [none, none, none], [], (h, hm, o))) rfl rfl trivial ?_
        exact T163_0 hd h _ e
noncomputable def B165_0 : List zRow := [(0, .iconst 0, 1, (0, 0, 0)), (1, .istore_n 3, 1, (0, 0, 0)), (2, .iconst 0, 1, (0, 0, 0)), (3, .istore 4, 2, (0, 0, 0))]
theorem K165_0 : zRk 165 B165_0 = true := zRw_ok (by decide +kernel)
noncomputable def B165_1 : List zRow := [(37, .iload_n 3, 1, (0, 0, 0))]
theorem K165_1 : zRk 165 B165_1 = true := zRw_ok (by decide +kernel)
noncomputable def B165_2 : List zRow := [(14, .aload_n 0, 1, (0, 0, 0)), (15, .iload 4, 2, (0, 0, 0)), (17, .iload_n 1, 1, (0, 0, 0))]
theorem K165_2 : zRk 165 B165_2 = true := zRw_ok (by decide +kernel)
noncomputable def B165_3 : List zRow := [(21, .iload_n 2, 1, (0, 0, 0))]
theorem K165_3 : zRk 165 B165_3 = true := zRw_ok (by decide +kernel)
noncomputable def B165_4 : List zRow := [(28, .iinc 3 1, 3, (0, 0, 0))]
theorem K165_4 : zRk 165 B165_4 = true := zRw_ok (by decide +kernel)
noncomputable def B165_5 : List zRow := [(25, .ifCond .eq 6, 3, (0, 0, 0))]
theorem K165_5 : zRk 165 B165_5 = true := zRw_ok (by decide +kernel)
noncomputable def B165_6 : List zRow := [(5, .iload 4, 2, (0, 0, 0)), (7, .aload_n 0, 1, (0, 0, 0)), (8, .getfield 34, 3, (1, 1, 0)), (11, .if_icmp .ge 26, 3, (0, 0, 0))]
theorem K165_6 : zRk 165 B165_6 = true := zRw_ok (by decide +kernel)
noncomputable def B165_7 : List zRow := [(31, .iinc 4 1, 3, (0, 0, 0)), (34, .goto (-29), 3, (0, 0, 0))]
theorem K165_7 : zRk 165 B165_7 = true := zRw_ok (by decide +kernel)
def F165_1 (k0 : Int → Int → Int → Int → Int → Option Int) (h : zHC) (v0 : Int) (v1 : Int) (v2 : Int) (v3 : Int) (v4 : Int) : Option Int := k0 v0 v1 v2 v3 (wadd v4 1)
set_option maxRecDepth 100000 in
theorem T165_1 {spec : zRn zH2} {hm : zHM} {o : Int → Int} {d : Nat} (hd : 1 ≤ d) (h : zHC) (k0 : Int → Int → Int → Int → Int → Option Int) (hk0 : ∀ (v0 : Int) (v1 : Int) (v2 : Int) (v3 : Int) (v4 : Int) (v : Int), k0 v0 v1 v2 v3 v4 = some v → zFin 0 (fun _ => 0) (zRu2 spec d) 165 (some (0, v)) (h, hm, o) (5, [some (11, v0), some (0, v1), some (0, v2), some (0, v3), some (0, v4)], [], (h, hm, o))) (v0 : Int) (v1 : Int) (v2 : Int) (v3 : Int) (v4 : Int) (v : Int) (e : F165_1 k0 h v0 v1 v2 v3 v4 = some v) : zFin 0 (fun _ => 0) (zRu2 spec d) 165 (some (0, v)) (h, hm, o) (31, [some (11, v0), some (0, v1), some (0, v2), some (0, v3), some (0, v4)], [], (h, hm, o)) := by
  unfold F165_1 at e
  refine zF_blk (m := []) (d := 0) (b := B165_7) (gs := []) (c' := (5, [some (11, v0), some (0, v1), some (0, v2), some (0, v3), some (0, (wadd v4 1))], [], (h, hm, o))) K165_7 rfl trivial ?_
  exact hk0 v0 v1 v2 v3 (wadd v4 1) _ e
def F165_0 (h : zHC) : Nat → Int → Int → Int → Int → Int → Option Int
  | 0, _, _, _, _, _ => none
  | n + 1, v0, v1, v2, v3, v4 => if (h 65 v0 0) ≤ v4 then some v3 else (F63 v0 v4 v1 h).bind fun r1 => (F65 r1 v2).bind fun r2 => if r2 = 0 then F165_1 (F165_0 h n) h v0 v1 v2 v3 v4 else F165_1 (F165_0 h n) h v0 v1 v2 (wadd v3 1) v4
set_option maxRecDepth 100000 in
theorem T165_0 {spec : zRn zH2} {hm : zHM} {o : Int → Int} {d : Nat} (hd : 1 ≤ d) (h : zHC) : ∀ (n : Nat) (v0 : Int) (v1 : Int) (v2 : Int) (v3 : Int) (v4 : Int) (v : Int), F165_0 h n v0 v1 v2 v3 v4 = some v → zFin 0 (fun _ => 0) (zRu2 spec d) 165 (some (0, v)) (h, hm, o) (5, [some (11, v0), some (0, v1), some (0, v2), some (0, v3), some (0, v4)], [], (h, hm, o)) := by
  intro n
  induction n with
  | zero => intro v0 v1 v2 v3 v4 v e; unfold F165_0 at e; cases e
  | succ n hk0 =>
    intro v0 v1 v2 v3 v4 v e
    unfold F165_0 at e
    rcases zI_s e with ⟨q1, e⟩ | ⟨q1, e⟩
    · refine zF_blk (m := []) (d := 1) (b := B165_6) (gs := [(h 65 v0 0) ≤ v4]) (c' := (37, [some (11, v0), some (0, v1), some (0, v2), some (0, v3), some (0, v4)], [], (h, hm, o))) K165_6 rfl ⟨q1, trivial⟩ ?_
      refine zF_blk (m := []) (d := 0) (b := B165_1) (gs := []) (c' := (38, [some (11, v0), some (0, v1), some (0, v2), some (0, v3), some (0, v4)], [(0, v3)], (h, hm, o))) K165_1 rfl trivial ?_
      obtain rfl := Option.some.inj e
      exact zF_ri (zRe1_w (by decide +kernel))
    · refine zF_blk (m := []) (d := 0) (b := B165_6) (gs := [¬ ((h 65 v0 0) ≤ v4)]) (c' := (14, [some (11, v0), some (0, v1), some (0, v2), some (0, v3), some (0, v4)], [], (h, hm, o))) K165_6 rfl ⟨q1, trivial⟩ ?_
      obtain ⟨r1, q2, e⟩ := zB_s e
      refine zF_blk (m := []) (d := 0) (b := B165_2) (gs := []) (c' := (18, [some (11, v0), some (0, v1), some (0, v2), some (0, v3), some (0, v4)], [(0, v1), (0, v4), (11, v0)], (h, hm, o))) K165_2 rfl trivial ?_
      refine zF_call (k := 63) (cl := 1) (n := 3) (i := .invokevirtual 138) (args := [(11, v0), (0, v4), (0, v1)]) (rest := []) (g1 := (h, hm, o)) (r1 := some (0, r1)) (zCk1_w (by decide +kernel)) rfl rfl rfl (st' := [(0, r1)]) rfl (S63 (Nat.le_trans (by decide) hd) v0 v4 v1 h _ q2) ?_
      obtain ⟨r2, q3, e⟩ := zB_s e
      refine zF_blk (m := []) (d := 0) (b := B165_3) (gs := []) (c' := (22, [some (11, v0), some (0, v1), some (0, v2), some (0, v3), some (0, v4)], [(0, v2), (0, r1)], (h, hm, o))) K165_3 rfl trivial ?_
      refine zF_call (k := 65) (cl := 11) (n := 2) (i := .invokestatic 146) (args := [(0, r1), (0, v2)]) (rest := []) (g1 := (h, hm, o)) (r1 := some (0, r2)) (zCk1_w (by decide +kernel)) rfl rfl rfl (st' := [(0, r2)]) rfl (S65 (Nat.le_trans (by decide) hd) r1 v2 h _ q3) ?_
      rcases zI_s e with ⟨q4, e⟩ | ⟨q4, e⟩
      · refine zF_blk (m := []) (d := 1) (b := B165_5) (gs := [r2 = 0]) (c' := (31, [some (11, v0), some (0, v1), some (0, v2), some (0, v3), some (0, v4)], [], (h, hm, o))) K165_5 rfl ⟨q4, trivial⟩ ?_
        exact T165_1 hd h (F165_0 h n) hk0 v0 v1 v2 v3 v4 _ e
      · refine zF_blk (m := []) (d := 0) (b := B165_5) (gs := [¬ (r2 = 0)]) (c' := (28, [some (11, v0), some (0, v1), some (0, v2), some (0, v3), some (0, v4)], [], (h, hm, o))) K165_5 rfl ⟨q4, trivial⟩ ?_
        refine zF_blk (m := []) (d := 0) (b := B165_4) (gs := []) (c' := (31, [some (11, v0), some (0, v1), some (0, v2), some (0, (wadd v3 1)), some (0, v4)], [], (h, hm, o))) K165_4 rfl trivial ?_
        exact T165_1 hd h (F165_0 h n) hk0 v0 v1 v2 (wadd v3 1) v4 _ e
/-- EchoVale$Course.countWith(II)I -/
def F165 (v0 : Int) (v1 : Int) (v2 : Int) (h : zHC) : Option Int := F165_0 h zFu v0 v1 v2 0 0
set_option maxRecDepth 100000 in
theorem S165 {spec : zRn zH2} {hm : zHM} {o : Int → Int} {d : Nat} (hd : 2 ≤ d) (v0 : Int) (v1 : Int) (v2 : Int) (h : zHC) (v : Int) (e : F165 v0 v1 v2 h = some v) : zRu2 spec d 165 [(11, v0), (0, v1), (0, v2)] (h, hm, o) (some (0, v)) (h, hm, o) := by
  refine zF_in (D := 1) (mx := 5) (L := [some (11, v0), some (0, v1), some (0, v2), none, none]) (by decide +kernel) rfl rfl hd (fun d hd => ?_)
  unfold F165 at e
  refine zF_blk (m := []) (d := 0) (b := B165_0) (gs := []) (c' := (5, [some (11, v0), some (0, v1), some (0, v2), some (0, 0), some (0, 0)], [], (h, hm, o))) K165_0 rfl trivial ?_
  exact T165_0 hd h zFu v0 v1 v2 0 0 _ e
noncomputable def B166_0 : List zRow := [(0, .iconst 0, 1, (0, 0, 0)), (1, .istore_n 2, 1, (0, 0, 0)), (2, .iconst 0, 1, (0, 0, 0)), (3, .istore_n 3, 1, (0, 0, 0))]
theorem K166_0 : zRk 166 B166_0 = true := zRw_ok (by decide +kernel)
noncomputable def B166_1 : List zRow := [(31, .iload_n 2, 1, (0, 0, 0))]
theorem K166_1 : zRk 166 B166_1 = true := zRw_ok (by decide +kernel)
noncomputable def B166_2 : List zRow := [(12, .aload_n 0, 1, (0, 0, 0)), (13, .iload_n 3, 1, (0, 0, 0)), (14, .iconst 1, 1, (0, 0, 0))]
theorem K166_2 : zRk 166 B166_2 = true := zRw_ok (by decide +kernel)
noncomputable def B166_3 : List zRow := [(22, .iinc 2 1, 3, (0, 0, 0))]
theorem K166_3 : zRk 166 B166_3 = true := zRw_ok (by decide +kernel)
noncomputable def B166_4 : List zRow := [(18, .iload_n 1, 1, (0, 0, 0)), (19, .if_icmp .ne 6, 3, (0, 0, 0))]
theorem K166_4 : zRk 166 B166_4 = true := zRw_ok (by decide +kernel)
noncomputable def B166_5 : List zRow := [(4, .iload_n 3, 1, (0, 0, 0)), (5, .aload_n 0, 1, (0, 0, 0)), (6, .getfield 34, 3, (1, 1, 0)), (9, .if_icmp .ge 22, 3, (0, 0, 0))]
theorem K166_5 : zRk 166 B166_5 = true := zRw_ok (by decide +kernel)
noncomputable def B166_6 : List zRow := [(25, .iinc 3 1, 3, (0, 0, 0)), (28, .goto (-24), 3, (0, 0, 0))]
theorem K166_6 : zRk 166 B166_6 = true := zRw_ok (by decide +kernel)
def F166_1 (k0 : Int → Int → Int → Int → Option Int) (h : zHC) (v0 : Int) (v1 : Int) (v2 : Int) (v3 : Int) : Option Int := k0 v0 v1 v2 (wadd v3 1)
set_option maxRecDepth 100000 in
theorem T166_1 {spec : zRn zH2} {hm : zHM} {o : Int → Int} {d : Nat} (hd : 1 ≤ d) (h : zHC) (k0 : Int → Int → Int → Int → Option Int) (hk0 : ∀ (v0 : Int) (v1 : Int) (v2 : Int) (v3 : Int) (v : Int), k0 v0 v1 v2 v3 = some v → zFin 0 (fun _ => 0) (zRu2 spec d) 166 (some (0, v)) (h, hm, o) (4, [some (11, v0), some (0, v1), some (0, v2), some (0, v3)], [], (h, hm, o))) (v0 : Int) (v1 : Int) (v2 : Int) (v3 : Int) (v : Int) (e : F166_1 k0 h v0 v1 v2 v3 = some v) : zFin 0 (fun _ => 0) (zRu2 spec d) 166 (some (0, v)) (h, hm, o) (25, [some (11, v0), some (0, v1), some (0, v2), some (0, v3)], [], (h, hm, o)) := by
  unfold F166_1 at e
  refine zF_blk (m := []) (d := 0) (b := B166_6) (gs := []) (c' := (4, [some (11, v0), some (0, v1), some (0, v2), some (0, (wadd v3 1))], [], (h, hm, o))) K166_6 rfl trivial ?_
  exact hk0 v0 v1 v2 (wadd v3 1) _ e
def F166_0 (h : zHC) : Nat → Int → Int → Int → Int → Option Int
  | 0, _, _, _, _ => none
  | n + 1, v0, v1, v2, v3 => if (h 65 v0 0) ≤ v3 then some v2 else (F63 v0 v3 1 h).bind fun r1 => if ¬ r1 = v1 then F166_1 (F166_0 h n) h v0 v1 v2 v3 else F166_1 (F166_0 h n) h v0 v1 (wadd v2 1) v3
set_option maxRecDepth 100000 in
theorem T166_0 {spec : zRn zH2} {hm : zHM} {o : Int → Int} {d : Nat} (hd : 1 ≤ d) (h : zHC) : ∀ (n : Nat) (v0 : Int) (v1 : Int) (v2 : Int) (v3 : Int) (v : Int), F166_0 h n v0 v1 v2 v3 = some v → zFin 0 (fun _ => 0) (zRu2 spec d) 166 (some (0, v)) (h, hm, o) (4, [some (11, v0), some (0, v1), some (0, v2), some (0, v3)], [], (h, hm, o)) := by
  intro n
  induction n with
  | zero => intro v0 v1 v2 v3 v e; unfold F166_0 at e; cases e
  | succ n hk0 =>
    intro v0 v1 v2 v3 v e
    unfold F166_0 at e
    rcases zI_s e with ⟨q1, e⟩ | ⟨q1, e⟩
    · refine zF_blk (m := []) (d := 1) (b := B166_5) (gs := [(h 65 v0 0) ≤ v3]) (c' := (31, [some (11, v0), some (0, v1), some (0, v2), some (0, v3)], [], (h, hm, o))) K166_5 rfl ⟨q1, trivial⟩ ?_
      refine zF_blk (m := []) (d := 0) (b := B166_1) (gs := []) (c' := (32, [some (11, v0), some (0, v1), some (0, v2), some (0, v3)], [(0, v2)], (h, hm, o))) K166_1 rfl trivial ?_
      obtain rfl := Option.some.inj e
      exact zF_ri (zRe1_w (by decide +kernel))
    · refine zF_blk (m := []) (d := 0) (b := B166_5) (gs := [¬ ((h 65 v0 0) ≤ v3)]) (c' := (12, [some (11, v0), some (0, v1), some (0, v2), some (0, v3)], [], (h, hm, o))) K166_5 rfl ⟨q1, trivial⟩ ?_
      obtain ⟨r1, q2, e⟩ := zB_s e
      refine zF_blk (m := []) (d := 0) (b := B166_2) (gs := []) (c' := (15, [some (11, v0), some (0, v1), some (0, v2), some (0, v3)], [(0, 1), (0, v3), (11, v0)], (h, hm, o))) K166_2 rfl trivial ?_
      refine zF_call (k := 63) (cl := 1) (n := 3) (i := .invokevirtual 138) (args := [(11, v0), (0, v3), (0, 1)]) (rest := []) (g1 := (h, hm, o)) (r1 := some (0, r1)) (zCk1_w (by decide +kernel)) rfl rfl rfl (st' := [(0, r1)]) rfl (S63 (Nat.le_trans (by decide) hd) v0 v3 1 h _ q2) ?_
      rcases zI_s e with ⟨q3, e⟩ | ⟨q3, e⟩
      · refine zF_blk (m := []) (d := 1) (b := B166_4) (gs := [¬ r1 = v1]) (c' := (25, [some (11, v0), some (0, v1), some (0, v2), some (0, v3)], [], (h, hm, o))) K166_4 rfl ⟨q3, trivial⟩ ?_
        exact T166_1 hd h (F166_0 h n) hk0 v0 v1 v2 v3 _ e
      · refine zF_blk (m := []) (d := 0) (b := B166_4) (gs := [¬ (¬ r1 = v1)]) (c' := (22, [some (11, v0), some (0, v1), some (0, v2), some (0, v3)], [], (h, hm, o))) K166_4 rfl ⟨q3, trivial⟩ ?_
        refine zF_blk (m := []) (d := 0) (b := B166_3) (gs := []) (c' := (25, [some (11, v0), some (0, v1), some (0, (wadd v2 1)), some (0, v3)], [], (h, hm, o))) K166_3 rfl trivial ?_
        exact T166_1 hd h (F166_0 h n) hk0 v0 v1 (wadd v2 1) v3 _ e
/-- EchoVale$Course.countBy(I)I -/
def F166 (v0 : Int) (v1 : Int) (h : zHC) : Option Int := F166_0 h zFu v0 v1 0 0
set_option maxRecDepth 100000 in
theorem S166 {spec : zRn zH2} {hm : zHM} {o : Int → Int} {d : Nat} (hd : 2 ≤ d) (v0 : Int) (v1 : Int) (h : zHC) (v : Int) (e : F166 v0 v1 h = some v) : zRu2 spec d 166 [(11, v0), (0, v1)] (h, hm, o) (some (0, v)) (h, hm, o) := by
  refine zF_in (D := 1) (mx := 4) (L := [some (11, v0), some (0, v1), none, none]) (by decide +kernel) rfl rfl hd (fun d hd => ?_)
  unfold F166 at e
  refine zF_blk (m := []) (d := 0) (b := B166_0) (gs := []) (c' := (4, [some (11, v0), some (0, v1), some (0, 0), some (0, 0)], [], (h, hm, o))) K166_0 rfl trivial ?_
  exact T166_0 hd h zFu v0 v1 0 0 _ e
noncomputable def B164_0 : List zRow := [(0, .aload_n 0, 1, (0, 0, 0)), (1, .iload_n 1, 1, (0, 0, 0))]
theorem K164_0 : zRk 164 B164_0 = true := zRw_ok (by decide +kernel)
noncomputable def B164_1 : List zRow := [(64, .aload_n 0, 1, (0, 0, 0)), (65, .getfield 56, 3, (11, 6, 7)), (68, .getfield 177, 3, (1, 3, 5242906)), (71, .iload_n 1, 1, (0, 0, 0)), (72, .iaload, 1, (0, 0, 0))]
theorem K164_1 : zRk 164 B164_1 = true := zRw_ok (by decide +kernel)
noncomputable def B164_2 : List zRow := [(27, .iload_n 2, 1, (0, 0, 0)), (28, .tableswitch 85 0 4 #[36, 46, 55, 65, 74], 36, (0, 0, 0))]
theorem K164_2 : zRk 164 B164_2 = true := by decide +kernel
noncomputable def B164_3 : List zRow := [(74, .aload_n 0, 1, (0, 0, 0)), (75, .getfield 56, 3, (11, 6, 7)), (78, .iload_n 1, 1, (0, 0, 0))]
theorem K164_3 : zRk 164 B164_3 = true := zRw_ok (by decide +kernel)
noncomputable def B164_4 : List zRow := [(83, .aload_n 0, 1, (0, 0, 0)), (84, .getfield 56, 3, (11, 6, 7)), (87, .iconst 5, 1, (0, 0, 0)), (88, .iload_n 1, 1, (0, 0, 0))]
theorem K164_4 : zRk 164 B164_4 = true := zRw_ok (by decide +kernel)
noncomputable def B164_5 : List zRow := [(93, .aload_n 0, 1, (0, 0, 0)), (94, .getfield 56, 3, (11, 6, 7)), (97, .iload_n 1, 1, (0, 0, 0))]
theorem K164_5 : zRk 164 B164_5 = true := zRw_ok (by decide +kernel)
noncomputable def B164_6 : List zRow := [(102, .aload_n 0, 1, (0, 0, 0)), (103, .getfield 56, 3, (11, 6, 7)), (106, .bipush 7, 2, (0, 0, 0)), (108, .iload_n 1, 1, (0, 0, 0))]
theorem K164_6 : zRk 164 B164_6 = true := zRw_ok (by decide +kernel)
noncomputable def B164_7 : List zRow := [(113, .aload_n 0, 1, (0, 0, 0)), (114, .getfield 19, 3, (11, 1, 39)), (117, .getfield 188, 3, (9, 13, 5242906)), (120, .iload_n 1, 1, (0, 0, 0)), (121, .iaload, 1, (0, 0, 0))]
theorem K164_7 : zRk 164 B164_7 = true := zRw_ok (by decide +kernel)
noncomputable def B164_8 : List zRow := [(12, .iload_n 2, 1, (0, 0, 0)), (13, .iconst 5, 1, (0, 0, 0)), (14, .if_icmp .le 13, 3, (0, 0, 0))]
theorem K164_8 : zRk 164 B164_8 = true := zRw_ok (by decide +kernel)
noncomputable def B164_9 : List zRow := [(8, .iload_n 2, 1, (0, 0, 0)), (9, .ifCond .lt 8, 3, (0, 0, 0))]
theorem K164_9 : zRk 164 B164_9 = true := zRw_ok (by decide +kernel)
noncomputable def B164_10 : List zRow := [(5, .ifCond .eq 12, 3, (0, 0, 0))]
theorem K164_10 : zRk 164 B164_10 = true := zRw_ok (by decide +kernel)
def F164_0 (h : zHC) : Option Int := none
set_option maxRecDepth 100000 in
theorem T164_0 {spec : zRn zH2} {hm : zHM} {o : Int → Int} {d : Nat} (hd : 3 ≤ d) (h : zHC) (v : Int) (e : F164_0 h = some v) : zFin 0 (fun _ => 0) (zRu2 spec d) 164 (some (0, v)) (h, hm, o) (17, [none, none, none], [], (h, hm, o)) := by
  unfold F164_0 at e
  cases e
/-- EchoVale.person(II)I -/
def F164 (v1 : Int) (v2 : Int) (h : zHC) : Option Int := (F61 v1 h).bind fun r1 => if r1 = 0 then F164_0 h else if v2 < 0 then F164_0 h else if v2 ≤ 5 then if v2 = 0 then zG (0 ≤ v1 ∧ v1 < 6) (some (h 67 0 v1)) else if v2 = 1 then (F101 0 v1 h).bind fun r2 => some r2 else if v2 = 2 then (F165 0 5 v1 h).bind fun r3 => some r3 else if v2 = 3 then (F166 0 v1 h).bind fun r4 => some r4 else if v2 = 4 then (F165 0 7 v1 h).bind fun r5 => some r5 else zG (v2 < 0 ∨ 4 < v2) (zG (0 ≤ v1 ∧ v1 < 6) (some (h 589 0 v1))) else F164_0 h
set_option maxRecDepth 100000 in
theorem S164 {spec : zRn zH2} {hm : zHM} {o : Int → Int} {d : Nat} (hd : 4 ≤ d) (v1 : Int) (v2 : Int) (h : zHC) (v : Int) (e : F164 v1 v2 h = some v) : zRu2 spec d 164 [(21, 0), (0, v1), (0, v2)] (h, hm, o) (some (0, v)) (h, hm, o) := by
  refine zF_in (D := 3) (mx := 3) (L := [some (21, 0), some (0, v1), some (0, v2)]) (by decide +kernel) rfl rfl hd (fun d hd => ?_)
  unfold F164 at e
  obtain ⟨r1, q1, e⟩ := zB_s e
  refine zF_blk (m := []) (d := 0) (b := B164_0) (gs := []) (c' := (2, [some (21, 0), some (0, v1), some (0, v2)], [(0, v1), (21, 0)], (h, hm, o))) K164_0 rfl trivial ?_
  refine zF_call (k := 61) (cl := 11) (n := 2) (i := .invokevirtual 172) (args := [(21, 0), (0, v1)]) (rest := []) (g1 := (h, hm, o)) (r1 := some (0, r1)) (zCk1_w (by decide +kernel)) rfl rfl rfl (st' := [(0, r1)]) rfl (S61 (Nat.le_trans (by decide) hd) v1 h _ q1) ?_
  rcases zI_s e with ⟨q2, e⟩ | ⟨q2, e⟩
  · refine zF_blk (m := []) (d := 1) (b := B164_10) (gs := [r1 = 0]) (c' := (17, [some (21, 0), some (0, v1), some (0, v2)], [], (h, hm, o))) K164_10 rfl ⟨q2, trivial⟩ ?_
    refine zF_blk (m := [false, false, false]) (d := 0) (b := []) (gs := []) (c' := (17, [none, none, none], [], (h, hm, o))) rfl rfl trivial ?_
    exact T164_0 hd h _ e
  · refine zF_blk (m := []) (d := 0) (b := B164_10) (gs := [¬ (r1 = 0)]) (c' := (8, [some (21, 0), some (0, v1), some (0, v2)], [], (h, hm, o))) K164_10 rfl ⟨q2, trivial⟩ ?_
    rcases zI_s e with ⟨q3, e⟩ | ⟨q3, e⟩
    · refine zF_blk (m := []) (d := 1) (b := B164_9) (gs := [v2 < 0]) (c' := (17, [some (21, 0), some (0, v1), some (0, v2)], [], (h, hm, o))) K164_9 rfl ⟨q3, trivial⟩ ?_
      refine zF_blk (m := [false, false, false]) (d := 0) (b := []) (gs := []) (c' := (17, [none, none, none], [], (h, hm, o))) rfl rfl trivial ?_
      exact T164_0 hd h _ e
    · refine zF_blk (m := []) (d := 0) (b := B164_9) (gs := [¬ (v2 < 0)]) (c' := (12, [some (21, 0), some (0, v1), some (0, v2)], [], (h, hm, o))) K164_9 rfl ⟨q3, trivial⟩ ?_
      rcases zI_s e with ⟨q4, e⟩ | ⟨q4, e⟩
      · refine zF_blk (m := []) (d := 1) (b := B164_8) (gs := [v2 ≤ 5]) (c' := (27, [some (21, 0), some (0, v1), some (0, v2)], [], (h, hm, o))) K164_8 rfl ⟨q4, trivial⟩ ?_
        rcases zI_s e with ⟨q5, e⟩ | ⟨q5, e⟩
        · refine zF_blk (m := []) (d := 0) (b := B164_2) (gs := [v2 = 0]) (c' := (64, [some (21, 0), some (0, v1), some (0, v2)], [], (h, hm, o))) K164_2 rfl ⟨q5, trivial⟩ ?_
          obtain ⟨q6, e⟩ := zG_s e
          refine zF_blk (m := []) (d := 0) (b := B164_1) (gs := [0 ≤ v1 ∧ v1 < 6]) (c' := (73, [some (21, 0), some (0, v1), some (0, v2)], [(0, (h 67 0 v1))], (h, hm, o))) K164_1 rfl ⟨q6, trivial⟩ ?_
          obtain rfl := Option.some.inj e
          exact zF_ri (zRe1_w (by decide +kernel))
        rcases zI_s e with ⟨q7, e⟩ | ⟨q7, e⟩
        · refine zF_blk (m := []) (d := 1) (b := B164_2) (gs := [v2 = 1]) (c' := (74, [some (21, 0), some (0, v1), some (0, v2)], [], (h, hm, o))) K164_2 rfl ⟨q7, trivial⟩ ?_
          obtain ⟨r2, q8, e⟩ := zB_s e
          refine zF_blk (m := []) (d := 0) (b := B164_3) (gs := []) (c' := (79, [some (21, 0), some (0, v1), some (0, v2)], [(0, v1), (11, 0)], (h, hm, o))) K164_3 rfl trivial ?_
          refine zF_call (k := 101) (cl := 1) (n := 2) (i := .invokevirtual 179) (args := [(11, 0), (0, v1)]) (rest := []) (g1 := (h, hm, o)) (r1 := some (0, r2)) (zCk1_w (by decide +kernel)) rfl rfl rfl (st' := [(0, r2)]) rfl (S101 (Nat.le_trans (by decide) hd) 0 v1 h _ q8) ?_
          obtain rfl := Option.some.inj e
          exact zF_ri (zRe1_w (by decide +kernel))
        rcases zI_s e with ⟨q9, e⟩ | ⟨q9, e⟩
        · refine zF_blk (m := []) (d := 2) (b := B164_2) (gs := [v2 = 2]) (c' := (83, [some (21, 0), some (0, v1), some (0, v2)], [], (h, hm, o))) K164_2 rfl ⟨q9, trivial⟩ ?_
          obtain ⟨r3, q10, e⟩ := zB_s e
          refine zF_blk (m := []) (d := 0) (b := B164_4) (gs := []) (c' := (89, [some (21, 0), some (0, v1), some (0, v2)], [(0, v1), (0, 5), (11, 0)], (h, hm, o))) K164_4 rfl trivial ?_
          refine zF_call (k := 165) (cl := 1) (n := 3) (i := .invokevirtual 182) (args := [(11, 0), (0, 5), (0, v1)]) (rest := []) (g1 := (h, hm, o)) (r1 := some (0, r3)) (zCk1_w (by decide +kernel)) rfl rfl rfl (st' := [(0, r3)]) rfl (S165 (Nat.le_trans (by decide) hd) 0 5 v1 h _ q10) ?_
          obtain rfl := Option.some.inj e
          exact zF_ri (zRe1_w (by decide +kernel))
        rcases zI_s e with ⟨q11, e⟩ | ⟨q11, e⟩
        · refine zF_blk (m := []) (d := 3) (b := B164_2) (gs := [v2 = 3]) (c' := (93, [some (21, 0), some (0, v1), some (0, v2)], [], (h, hm, o))) K164_2 rfl ⟨q11, trivial⟩ ?_
          obtain ⟨r4, q12, e⟩ := zB_s e
          refine zF_blk (m := []) (d := 0) (b := B164_5) (gs := []) (c' := (98, [some (21, 0), some (0, v1), some (0, v2)], [(0, v1), (11, 0)], (h, hm, o))) K164_5 rfl trivial ?_
          refine zF_call (k := 166) (cl := 1) (n := 2) (i := .invokevirtual 185) (args := [(11, 0), (0, v1)]) (rest := []) (g1 := (h, hm, o)) (r1 := some (0, r4)) (zCk1_w (by decide +kernel)) rfl rfl rfl (st' := [(0, r4)]) rfl (S166 (Nat.le_trans (by decide) hd) 0 v1 h _ q12) ?_
          obtain rfl := Option.some.inj e
          exact zF_ri (zRe1_w (by decide +kernel))
        rcases zI_s e with ⟨q13, e⟩ | ⟨q13, e⟩
        · refine zF_blk (m := []) (d := 4) (b := B164_2) (gs := [v2 = 4]) (c' := (102, [some (21, 0), some (0, v1), some (0, v2)], [], (h, hm, o))) K164_2 rfl ⟨q13, trivial⟩ ?_
          obtain ⟨r5, q14, e⟩ := zB_s e
          refine zF_blk (m := []) (d := 0) (b := B164_6) (gs := []) (c' := (109, [some (21, 0), some (0, v1), some (0, v2)], [(0, v1), (0, 7), (11, 0)], (h, hm, o))) K164_6 rfl trivial ?_
          refine zF_call (k := 165) (cl := 1) (n := 3) (i := .invokevirtual 182) (args := [(11, 0), (0, 7), (0, v1)]) (rest := []) (g1 := (h, hm, o)) (r1 := some (0, r5)) (zCk1_w (by decide +kernel)) rfl rfl rfl (st' := [(0, r5)]) rfl (S165 (Nat.le_trans (by decide) hd) 0 7 v1 h _ q14) ?_
          obtain rfl := Option.some.inj e
          exact zF_ri (zRe1_w (by decide +kernel))
        obtain ⟨q16, e⟩ := zG_s e
        refine zF_blk (m := []) (d := 5) (b := B164_2) (gs := [v2 < 0 ∨ 4 < v2]) (c' := (113, [some (21, 0), some (0, v1), some (0, v2)], [], (h, hm, o))) K164_2 rfl ⟨q16, trivial⟩ ?_
        obtain ⟨q15, e⟩ := zG_s e
        refine zF_blk (m := []) (d := 0) (b := B164_7) (gs := [0 ≤ v1 ∧ v1 < 6]) (c' := (122, [some (21, 0), some (0, v1), some (0, v2)], [(0, (h 589 0 v1))], (h, hm, o))) K164_7 rfl ⟨q15, trivial⟩ ?_
        obtain rfl := Option.some.inj e
        exact zF_ri (zRe1_w (by decide +kernel))
      · refine zF_blk (m := []) (d := 0) (b := B164_8) (gs := [¬ (v2 ≤ 5)]) (c' := (17, [some (21, 0), some (0, v1), some (0, v2)], [], (h, hm, o))) K164_8 rfl ⟨q4, trivial⟩ ?_
        refine zF_blk (m := [false, false, false]) (d := 0) (b := []) (gs := []) (c' := (17, [none, none, none], [], (h, hm, o))) rfl rfl trivial ?_
        exact T164_0 hd h _ e
noncomputable def B167_0 : List zRow := [(0, .aload_n 0, 1, (0, 0, 0)), (1, .iload_n 1, 1, (0, 0, 0))]
theorem K167_0 : zRk 167 B167_0 = true := zRw_ok (by decide +kernel)
noncomputable def B167_1 : List zRow := [(28, .aload_n 0, 1, (0, 0, 0)), (29, .getfield 56, 3, (11, 6, 7)), (32, .iload_n 1, 1, (0, 0, 0)), (33, .iload_n 2, 1, (0, 0, 0))]
theorem K167_1 : zRk 167 B167_1 = true := zRw_ok (by decide +kernel)
noncomputable def B167_2 : List zRow := [(12, .iload_n 2, 1, (0, 0, 0)), (13, .bipush 8, 2, (0, 0, 0)), (15, .if_icmp .lt 13, 3, (0, 0, 0))]
theorem K167_2 : zRk 167 B167_2 = true := zRw_ok (by decide +kernel)
noncomputable def B167_3 : List zRow := [(8, .iload_n 2, 1, (0, 0, 0)), (9, .ifCond .lt 9, 3, (0, 0, 0))]
theorem K167_3 : zRk 167 B167_3 = true := zRw_ok (by decide +kernel)
noncomputable def B167_4 : List zRow := [(5, .ifCond .eq 13, 3, (0, 0, 0))]
theorem K167_4 : zRk 167 B167_4 = true := zRw_ok (by decide +kernel)
def F167_0 (h : zHC) : Option Int := none
set_option maxRecDepth 100000 in
theorem T167_0 {spec : zRn zH2} {hm : zHM} {o : Int → Int} {d : Nat} (hd : 1 ≤ d) (h : zHC) (v : Int) (e : F167_0 h = some v) : zFin 0 (fun _ => 0) (zRu2 spec d) 167 (some (0, v)) (h, hm, o) (18, [none, none, none], [], (h, hm, o)) := by
  unfold F167_0 at e
  cases e
/-- EchoVale.saying(II)I -/
def F167 (v1 : Int) (v2 : Int) (h : zHC) : Option Int := (F58 v1 h).bind fun r1 => if r1 = 0 then F167_0 h else if v2 < 0 then F167_0 h else if v2 < 8 then (F63 0 v1 v2 h).bind fun r2 => some r2 else F167_0 h
set_option maxRecDepth 100000 in
theorem S167 {spec : zRn zH2} {hm : zHM} {o : Int → Int} {d : Nat} (hd : 2 ≤ d) (v1 : Int) (v2 : Int) (h : zHC) (v : Int) (e : F167 v1 v2 h = some v) : zRu2 spec d 167 [(21, 0), (0, v1), (0, v2)] (h, hm, o) (some (0, v)) (h, hm, o) := by
  refine zF_in (D := 1) (mx := 3) (L := [some (21, 0), some (0, v1), some (0, v2)]) (by decide +kernel) rfl rfl hd (fun d hd => ?_)
  unfold F167 at e
  obtain ⟨r1, q1, e⟩ := zB_s e
  refine zF_blk (m := []) (d := 0) (b := B167_0) (gs := []) (c' := (2, [some (21, 0), some (0, v1), some (0, v2)], [(0, v1), (21, 0)], (h, hm, o))) K167_0 rfl trivial ?_
  refine zF_call (k := 58) (cl := 11) (n := 2) (i := .invokevirtual 191) (args := [(21, 0), (0, v1)]) (rest := []) (g1 := (h, hm, o)) (r1 := some (0, r1)) (zCk1_w (by decide +kernel)) rfl rfl rfl (st' := [(0, r1)]) rfl (S58 (Nat.le_trans (by decide) hd) v1 h _ q1) ?_
  rcases zI_s e with ⟨q2, e⟩ | ⟨q2, e⟩
  · refine zF_blk (m := []) (d := 1) (b := B167_4) (gs := [r1 = 0]) (c' := (18, [some (21, 0), some (0, v1), some (0, v2)], [], (h, hm, o))) K167_4 rfl ⟨q2, trivial⟩ ?_
    refine zF_blk (m := [false, false, false]) (d := 0) (b := []) (gs := []) (c' := (18, [none, none, none], [], (h, hm, o))) rfl rfl trivial ?_
    exact T167_0 hd h _ e
  · refine zF_blk (m := []) (d := 0) (b := B167_4) (gs := [¬ (r1 = 0)]) (c' := (8, [some (21, 0), some (0, v1), some (0, v2)], [], (h, hm, o))) K167_4 rfl ⟨q2, trivial⟩ ?_
    rcases zI_s e with ⟨q3, e⟩ | ⟨q3, e⟩
    · refine zF_blk (m := []) (d := 1) (b := B167_3) (gs := [v2 < 0]) (c' := (18, [some (21, 0), some (0, v1), some (0, v2)], [], (h, hm, o))) K167_3 rfl ⟨q3, trivial⟩ ?_
      refine zF_blk (m := [false, false, false]) (d := 0) (b := []) (gs := []) (c' := (18, [none, none, none], [], (h, hm, o))) rfl rfl trivial ?_
      exact T167_0 hd h _ e
    · refine zF_blk (m := []) (d := 0) (b := B167_3) (gs := [¬ (v2 < 0)]) (c' := (12, [some (21, 0), some (0, v1), some (0, v2)], [], (h, hm, o))) K167_3 rfl ⟨q3, trivial⟩ ?_
      rcases zI_s e with ⟨q4, e⟩ | ⟨q4, e⟩
      · refine zF_blk (m := []) (d := 1) (b := B167_2) (gs := [v2 < 8]) (c' := (28, [some (21, 0), some (0, v1), some (0, v2)], [], (h, hm, o))) K167_2 rfl ⟨q4, trivial⟩ ?_
        obtain ⟨r2, q5, e⟩ := zB_s e
        refine zF_blk (m := []) (d := 0) (b := B167_1) (gs := []) (c' := (34, [some (21, 0), some (0, v1), some (0, v2)], [(0, v2), (0, v1), (11, 0)], (h, hm, o))) K167_1 rfl trivial ?_
        refine zF_call (k := 63) (cl := 1) (n := 3) (i := .invokevirtual 196) (args := [(11, 0), (0, v1), (0, v2)]) (rest := []) (g1 := (h, hm, o)) (r1 := some (0, r2)) (zCk1_w (by decide +kernel)) rfl rfl rfl (st' := [(0, r2)]) rfl (S63 (Nat.le_trans (by decide) hd) 0 v1 v2 h _ q5) ?_
        obtain rfl := Option.some.inj e
        exact zF_ri (zRe1_w (by decide +kernel))
      · refine zF_blk (m := []) (d := 0) (b := B167_2) (gs := [¬ (v2 < 8)]) (c' := (18, [some (21, 0), some (0, v1), some (0, v2)], [], (h, hm, o))) K167_2 rfl ⟨q4, trivial⟩ ?_
        refine zF_blk (m := [false, false, false]) (d := 0) (b := []) (gs := []) (c' := (18, [none, none, none], [], (h, hm, o))) rfl rfl trivial ?_
        exact T167_0 hd h _ e
