/-! Functions of the methods, by wip/gen/lift.py. -/
def zFu : Nat := 1048576
theorem zF_riC {run : zRn zH2} {mi pc : Nat} {L : zLo} {x : Int} {g : zHC} {hm : zHM} {o : Int → Int} {v : Int × zHC} (hk : zRe1 mi pc .ireturn (some .int) = true) (e : some (x, g) = some v) : zFin 0 (fun _ => 0) run mi (some (0, v.1)) (v.2, hm, o) (pc, L, [(0, x)], (g, hm, o)) := by
  have q := Option.some.inj e
  subst q
  exact zF_ri hk
theorem zF_rbC {run : zRn zH2} {mi pc : Nat} {L : zLo} {x : Int} {g : zHC} {hm : zHM} {o : Int → Int} {v : Int × zHC} (hk : zRe1 mi pc .ireturn (some .boolean) = true) (hv : x = 0 ∨ x = 1) (e : some (x, g) = some v) : zFin 0 (fun _ => 0) run mi (some (0, v.1)) (v.2, hm, o) (pc, L, [(0, x)], (g, hm, o)) := by
  have q := Option.some.inj e
  subst q
  exact zF_rb hk hv
theorem zF_rlC {run : zRn zH2} {mi pc : Nat} {L : zLo} {x : Int} {g : zHC} {hm : zHM} {o : Int → Int} {v : Int × zHC} (hk : zRe1 mi pc .lreturn (some .long) = true) (e : some (x, g) = some v) : zFin 0 (fun _ => 0) run mi (some (1, v.1)) (v.2, hm, o) (pc, L, [(1, x)], (g, hm, o)) := by
  have q := Option.some.inj e
  subst q
  exact zF_rl hk
theorem zF_riM {run : zRn zH2} {mi pc : Nat} {L : zLo} {x : Int} {g : zHM} {hc : zHC} {o : Int → Int} {v : Int × zHM} (hk : zRe1 mi pc .ireturn (some .int) = true) (e : some (x, g) = some v) : zFin 0 (fun _ => 0) run mi (some (0, v.1)) (hc, v.2, o) (pc, L, [(0, x)], (hc, g, o)) := by
  have q := Option.some.inj e
  subst q
  exact zF_ri hk
theorem zF_rbM {run : zRn zH2} {mi pc : Nat} {L : zLo} {x : Int} {g : zHM} {hc : zHC} {o : Int → Int} {v : Int × zHM} (hk : zRe1 mi pc .ireturn (some .boolean) = true) (hv : x = 0 ∨ x = 1) (e : some (x, g) = some v) : zFin 0 (fun _ => 0) run mi (some (0, v.1)) (hc, v.2, o) (pc, L, [(0, x)], (hc, g, o)) := by
  have q := Option.some.inj e
  subst q
  exact zF_rb hk hv
theorem zF_rlM {run : zRn zH2} {mi pc : Nat} {L : zLo} {x : Int} {g : zHM} {hc : zHC} {o : Int → Int} {v : Int × zHM} (hk : zRe1 mi pc .lreturn (some .long) = true) (e : some (x, g) = some v) : zFin 0 (fun _ => 0) run mi (some (1, v.1)) (hc, v.2, o) (pc, L, [(1, x)], (hc, g, o)) := by
  have q := Option.some.inj e
  subst q
  exact zF_rl hk
noncomputable def B15_0 : List zRow := [(0, .bipush 24, 2, (0, 0, 0)), (2, .istore_n 2, 1, (0, 0, 0))]
theorem K15_0 : zRk 15 B15_0 = true := zRw_ok (by decide +kernel)
noncomputable def B15_1 : List zRow := [(17, .aload_n 0, 1, (0, 0, 0)), (18, .getfield 9, 3, (5, 0, 5246642)), (21, .aload_n 0, 1, (0, 0, 0)), (22, .getfield 39, 3, (5, 1, 0)), (25, .iload_n 1, 1, (0, 0, 0)), (26, .iload_n 2, 1, (0, 0, 0)), (27, .iushr, 1, (0, 0, 0)), (28, .sipush 255, 3, (0, 0, 0)), (31, .iand, 1, (0, 0, 0)), (32, .iastore, 1, (0, 0, 0)), (33, .aload_n 0, 1, (0, 0, 0)), (34, .dup, 1, (0, 0, 0)), (35, .getfield 39, 3, (5, 1, 0)), (38, .iconst 1, 1, (0, 0, 0)), (39, .iadd, 1, (0, 0, 0)), (40, .putfield 39, 3, (5, 1, 0)), (43, .iinc 2 (-8), 3, (0, 0, 0)), (46, .goto (-43), 3, (0, 0, 0))]
theorem K15_1 : zRk 15 B15_1 = true := zRw_ok (by decide +kernel)
noncomputable def B15_2 : List zRow := [(7, .aload_n 0, 1, (0, 0, 0)), (8, .getfield 39, 3, (5, 1, 0)), (11, .sipush 940, 3, (0, 0, 0)), (14, .if_icmp .ge 35, 3, (0, 0, 0))]
theorem K15_2 : zRk 15 B15_2 = true := zRw_ok (by decide +kernel)
noncomputable def B15_3 : List zRow := [(3, .iload_n 2, 1, (0, 0, 0)), (4, .ifCond .lt 45, 3, (0, 0, 0))]
theorem K15_3 : zRk 15 B15_3 = true := zRw_ok (by decide +kernel)
def F15_0 : Nat → Int → Int → zHC → Option zHC
  | 0, _, _, _ => none
  | n + 1, v1, v2, h => if v2 < 0 then some h else if 940 ≤ (h 321 0 0) then some h else zG (0 ≤ (h 321 0 0) ∧ (h 321 0 0) < 940) ((F15_0 n) v1 (wadd v2 (-8)) (hset (hset h 320 0 (h 321 0 0) (wand (wushr v1 v2) 255)) 321 0 0 (wadd (h 321 0 0) 1)))
set_option maxRecDepth 100000 in
theorem T15_0 {spec : zRn zH2} {hm : zHM} {o : Int → Int} {d : Nat} (hd : 0 ≤ d) : ∀ (n : Nat) (v1 : Int) (v2 : Int) (h : zHC) (v : zHC), F15_0 n v1 v2 h = some v → zFin 0 (fun _ => 0) (zRu2 spec d) 15 none (v, hm, o) (3, [some (15, 0), some (0, v1), some (0, v2)], [], (h, hm, o)) := by
  intro n
  induction n with
  | zero => intro v1 v2 h v e; unfold F15_0 at e; cases e
  | succ n hk0 =>
    intro v1 v2 h v e
    unfold F15_0 at e
    rcases zI_s e with ⟨q1, e⟩ | ⟨q1, e⟩
    · refine zF_blk (m := []) (d := 1) (b := B15_3) (gs := [v2 < 0]) (c' := (49, [some (15, 0), some (0, v1), some (0, v2)], [], (h, hm, o))) K15_3 rfl ⟨q1, trivial⟩ ?_
      obtain rfl := Option.some.inj e
      exact zF_rv (zRe1_w (by decide +kernel))
    · refine zF_blk (m := []) (d := 0) (b := B15_3) (gs := [¬ (v2 < 0)]) (c' := (7, [some (15, 0), some (0, v1), some (0, v2)], [], (h, hm, o))) K15_3 rfl ⟨q1, trivial⟩ ?_
      rcases zI_s e with ⟨q2, e⟩ | ⟨q2, e⟩
      · refine zF_blk (m := []) (d := 1) (b := B15_2) (gs := [940 ≤ (h 321 0 0)]) (c' := (49, [some (15, 0), some (0, v1), some (0, v2)], [], (h, hm, o))) K15_2 rfl ⟨q2, trivial⟩ ?_
        obtain rfl := Option.some.inj e
        exact zF_rv (zRe1_w (by decide +kernel))
      · refine zF_blk (m := []) (d := 0) (b := B15_2) (gs := [¬ (940 ≤ (h 321 0 0))]) (c' := (17, [some (15, 0), some (0, v1), some (0, v2)], [], (h, hm, o))) K15_2 rfl ⟨q2, trivial⟩ ?_
        obtain ⟨q3, e⟩ := zG_s e
        refine zF_blk (m := []) (d := 0) (b := B15_1) (gs := [0 ≤ (h 321 0 0) ∧ (h 321 0 0) < 940]) (c' := (3, [some (15, 0), some (0, v1), some (0, (wadd v2 (-8)))], [], ((hset (hset h 320 0 (h 321 0 0) (wand (wushr v1 v2) 255)) 321 0 0 (wadd (h 321 0 0) 1)), hm, o))) K15_1 rfl ⟨q3, trivial⟩ ?_
        exact hk0 v1 (wadd v2 (-8)) (hset (hset h 320 0 (h 321 0 0) (wand (wushr v1 v2) 255)) 321 0 0 (wadd (h 321 0 0) 1)) _ e
/-- EchoVale$Reader.addBytes(I)V -/
def F15 (v1 : Int) (h : zHC) : Option zHC := F15_0 zFu v1 24 h
set_option maxRecDepth 100000 in
theorem S15 {spec : zRn zH2} {hm : zHM} {o : Int → Int} {d : Nat} (hd : 1 ≤ d) (v1 : Int) (h : zHC) (v : zHC) (e : F15 v1 h = some v) : zRu2 spec d 15 [(15, 0), (0, v1)] (h, hm, o) none (v, hm, o) := by
  refine zF_in (D := 0) (mx := 3) (L := [some (15, 0), some (0, v1), none]) (by decide +kernel) rfl rfl hd (fun d hd => ?_)
  unfold F15 at e
  refine zF_blk (m := []) (d := 0) (b := B15_0) (gs := []) (c' := (3, [some (15, 0), some (0, v1), some (0, 24)], [], (h, hm, o))) K15_0 rfl trivial ?_
  exact T15_0 hd zFu v1 24 h _ e
noncomputable def B14_0 : List zRow := [(18, .aload_n 0, 1, (0, 0, 0)), (19, .getfield 12, 3, (11, 0, 23)), (22, .iload_n 1, 1, (0, 0, 0))]
theorem K14_0 : zRk 14 B14_0 = true := zRw_ok (by decide +kernel)
noncomputable def B14_1 : List zRow := [(26, .aload_n 0, 1, (0, 0, 0)), (27, .getfield 12, 3, (11, 0, 23)), (30, .iload_n 2, 1, (0, 0, 0))]
theorem K14_1 : zRk 14 B14_1 = true := zRw_ok (by decide +kernel)
noncomputable def B14_2 : List zRow := [(34, .aload_n 0, 1, (0, 0, 0)), (35, .getfield 12, 3, (11, 0, 23)), (38, .iload_n 3, 1, (0, 0, 0))]
theorem K14_2 : zRk 14 B14_2 = true := zRw_ok (by decide +kernel)
noncomputable def B14_3 : List zRow := [(42, .aload_n 0, 1, (0, 0, 0)), (43, .getfield 12, 3, (11, 0, 23)), (46, .iload 4, 2, (0, 0, 0))]
theorem K14_3 : zRk 14 B14_3 = true := zRw_ok (by decide +kernel)
noncomputable def B14_4 : List zRow := [(51, .aload_n 0, 1, (0, 0, 0)), (52, .getfield 12, 3, (11, 0, 23)), (55, .iload 5, 2, (0, 0, 0))]
theorem K14_4 : zRk 14 B14_4 = true := zRw_ok (by decide +kernel)
noncomputable def B14_5 : List zRow := [(60, .aload_n 0, 1, (0, 0, 0)), (61, .getfield 12, 3, (11, 0, 23)), (64, .getfield 105, 3, (5, 1, 0))]
theorem K14_5 : zRk 14 B14_5 = true := zRw_ok (by decide +kernel)
noncomputable def B14_6 : List zRow := [(16, .iconst (-1), 1, (0, 0, 0))]
theorem K14_6 : zRk 14 B14_6 = true := zRw_ok (by decide +kernel)
noncomputable def B14_7 : List zRow := [(0, .aload_n 0, 1, (0, 0, 0)), (1, .getfield 12, 3, (11, 0, 23)), (4, .getfield 105, 3, (5, 1, 0)), (7, .bipush 20, 2, (0, 0, 0)), (9, .iadd, 1, (0, 0, 0)), (10, .sipush 940, 3, (0, 0, 0)), (13, .if_icmp .le 5, 3, (0, 0, 0))]
theorem K14_7 : zRk 14 B14_7 = true := zRw_ok (by decide +kernel)
/-- EchoVale.feed(IIIII)I -/
def F14 (v1 : Int) (v2 : Int) (v3 : Int) (v4 : Int) (v5 : Int) (h : zHC) : Option (Int × zHC) := if (wadd (h 321 0 0) 20) ≤ 940 then (F15 v1 h).bind fun r1 => (F15 v2 r1).bind fun r2 => (F15 v3 r2).bind fun r3 => (F15 v4 r3).bind fun r4 => (F15 v5 r4).bind fun r5 => some ((r5 321 0 0), r5) else some ((-1), h)
set_option maxRecDepth 100000 in
theorem S14 {spec : zRn zH2} {hm : zHM} {o : Int → Int} {d : Nat} (hd : 2 ≤ d) (v1 : Int) (v2 : Int) (v3 : Int) (v4 : Int) (v5 : Int) (h : zHC) (v : (Int × zHC)) (e : F14 v1 v2 v3 v4 v5 h = some v) : zRu2 spec d 14 [(21, 0), (0, v1), (0, v2), (0, v3), (0, v4), (0, v5)] (h, hm, o) (some (0, v.1)) (v.2, hm, o) := by
  refine zF_in (D := 1) (mx := 6) (L := [some (21, 0), some (0, v1), some (0, v2), some (0, v3), some (0, v4), some (0, v5)]) (by decide +kernel) rfl rfl hd (fun d hd => ?_)
  unfold F14 at e
  rcases zI_s e with ⟨q1, e⟩ | ⟨q1, e⟩
  · refine zF_blk (m := []) (d := 1) (b := B14_7) (gs := [(wadd (h 321 0 0) 20) ≤ 940]) (c' := (18, [some (21, 0), some (0, v1), some (0, v2), some (0, v3), some (0, v4), some (0, v5)], [], (h, hm, o))) K14_7 rfl ⟨q1, trivial⟩ ?_
    obtain ⟨r1, q2, e⟩ := zB_s e
    refine zF_blk (m := []) (d := 0) (b := B14_0) (gs := []) (c' := (23, [some (21, 0), some (0, v1), some (0, v2), some (0, v3), some (0, v4), some (0, v5)], [(0, v1), (15, 0)], (h, hm, o))) K14_0 rfl trivial ?_
    refine zF_call (k := 15) (cl := 5) (n := 2) (i := .invokevirtual 108) (args := [(15, 0), (0, v1)]) (rest := []) (g1 := (r1, hm, o)) (r1 := none) (zCk1_w (by decide +kernel)) rfl rfl rfl (st' := []) rfl (S15 (Nat.le_trans (by decide) hd) v1 h _ q2) ?_
    obtain ⟨r2, q3, e⟩ := zB_s e
    refine zF_blk (m := []) (d := 0) (b := B14_1) (gs := []) (c' := (31, [some (21, 0), some (0, v1), some (0, v2), some (0, v3), some (0, v4), some (0, v5)], [(0, v2), (15, 0)], (r1, hm, o))) K14_1 rfl trivial ?_
    refine zF_call (k := 15) (cl := 5) (n := 2) (i := .invokevirtual 108) (args := [(15, 0), (0, v2)]) (rest := []) (g1 := (r2, hm, o)) (r1 := none) (zCk1_w (by decide +kernel)) rfl rfl rfl (st' := []) rfl (S15 (Nat.le_trans (by decide) hd) v2 r1 _ q3) ?_
    obtain ⟨r3, q4, e⟩ := zB_s e
    refine zF_blk (m := []) (d := 0) (b := B14_2) (gs := []) (c' := (39, [some (21, 0), some (0, v1), some (0, v2), some (0, v3), some (0, v4), some (0, v5)], [(0, v3), (15, 0)], (r2, hm, o))) K14_2 rfl trivial ?_
    refine zF_call (k := 15) (cl := 5) (n := 2) (i := .invokevirtual 108) (args := [(15, 0), (0, v3)]) (rest := []) (g1 := (r3, hm, o)) (r1 := none) (zCk1_w (by decide +kernel)) rfl rfl rfl (st' := []) rfl (S15 (Nat.le_trans (by decide) hd) v3 r2 _ q4) ?_
    obtain ⟨r4, q5, e⟩ := zB_s e
    refine zF_blk (m := []) (d := 0) (b := B14_3) (gs := []) (c' := (48, [some (21, 0), some (0, v1), some (0, v2), some (0, v3), some (0, v4), some (0, v5)], [(0, v4), (15, 0)], (r3, hm, o))) K14_3 rfl trivial ?_
    refine zF_call (k := 15) (cl := 5) (n := 2) (i := .invokevirtual 108) (args := [(15, 0), (0, v4)]) (rest := []) (g1 := (r4, hm, o)) (r1 := none) (zCk1_w (by decide +kernel)) rfl rfl rfl (st' := []) rfl (S15 (Nat.le_trans (by decide) hd) v4 r3 _ q5) ?_
    obtain ⟨r5, q6, e⟩ := zB_s e
    refine zF_blk (m := []) (d := 0) (b := B14_4) (gs := []) (c' := (57, [some (21, 0), some (0, v1), some (0, v2), some (0, v3), some (0, v4), some (0, v5)], [(0, v5), (15, 0)], (r4, hm, o))) K14_4 rfl trivial ?_
    refine zF_call (k := 15) (cl := 5) (n := 2) (i := .invokevirtual 108) (args := [(15, 0), (0, v5)]) (rest := []) (g1 := (r5, hm, o)) (r1 := none) (zCk1_w (by decide +kernel)) rfl rfl rfl (st' := []) rfl (S15 (Nat.le_trans (by decide) hd) v5 r4 _ q6) ?_
    refine zF_blk (m := []) (d := 0) (b := B14_5) (gs := []) (c' := (67, [some (21, 0), some (0, v1), some (0, v2), some (0, v3), some (0, v4), some (0, v5)], [(0, (r5 321 0 0))], (r5, hm, o))) K14_5 rfl trivial ?_
    exact zF_riC (zRe1_w (by decide +kernel)) e
  · refine zF_blk (m := []) (d := 0) (b := B14_7) (gs := [¬ ((wadd (h 321 0 0) 20) ≤ 940)]) (c' := (16, [some (21, 0), some (0, v1), some (0, v2), some (0, v3), some (0, v4), some (0, v5)], [], (h, hm, o))) K14_7 rfl ⟨q1, trivial⟩ ?_
    refine zF_blk (m := []) (d := 0) (b := B14_6) (gs := []) (c' := (17, [some (21, 0), some (0, v1), some (0, v2), some (0, v3), some (0, v4), some (0, v5)], [(0, (-1))], (h, hm, o))) K14_6 rfl trivial ?_
    exact zF_riC (zRe1_w (by decide +kernel)) e
noncomputable def B171_0 : List zRow := [(0, .bipush 24, 2, (0, 0, 0)), (2, .istore_n 2, 1, (0, 0, 0))]
theorem K171_0 : zRk 171 B171_0 = true := zRw_ok (by decide +kernel)
noncomputable def B171_1 : List zRow := [(7, .aload_n 0, 1, (0, 0, 0)), (8, .getfield 7, 3, (12, 1, 5246642)), (11, .aload_n 0, 1, (0, 0, 0)), (12, .getfield 85, 3, (12, 2, 0)), (15, .iload_n 1, 1, (0, 0, 0)), (16, .iload_n 2, 1, (0, 0, 0)), (17, .iushr, 1, (0, 0, 0)), (18, .sipush 255, 3, (0, 0, 0)), (21, .iand, 1, (0, 0, 0)), (22, .iastore, 1, (0, 0, 0)), (23, .aload_n 0, 1, (0, 0, 0)), (24, .dup, 1, (0, 0, 0)), (25, .getfield 85, 3, (12, 2, 0)), (28, .iconst 1, 1, (0, 0, 0)), (29, .iadd, 1, (0, 0, 0)), (30, .putfield 85, 3, (12, 2, 0)), (33, .iinc 2 (-8), 3, (0, 0, 0)), (36, .goto (-33), 3, (0, 0, 0))]
theorem K171_1 : zRk 171 B171_1 = true := zRw_ok (by decide +kernel)
noncomputable def B171_2 : List zRow := [(3, .iload_n 2, 1, (0, 0, 0)), (4, .ifCond .lt 35, 3, (0, 0, 0))]
theorem K171_2 : zRk 171 B171_2 = true := zRw_ok (by decide +kernel)
def F171_0 : Nat → Int → Int → zHM → Option zHM
  | 0, _, _, _ => none
  | n + 1, v1, v2, h => if v2 < 0 then some h else zG (0 ≤ (h 2 0) ∧ (h 2 0) < 940) ((F171_0 n) v1 (wadd v2 (-8)) (mset (mset h 1 (h 2 0) (wand (wushr v1 v2) 255)) 2 0 (wadd (h 2 0) 1)))
set_option maxRecDepth 100000 in
theorem T171_0 {spec : zRn zH2} {hc : zHC} {o : Int → Int} {d : Nat} (hd : 0 ≤ d) : ∀ (n : Nat) (v1 : Int) (v2 : Int) (h : zHM) (v : zHM), F171_0 n v1 v2 h = some v → zFin 0 (fun _ => 0) (zRu2 spec d) 171 none (hc, v, o) (3, [some (22, 0), some (0, v1), some (0, v2)], [], (hc, h, o)) := by
  intro n
  induction n with
  | zero => intro v1 v2 h v e; unfold F171_0 at e; cases e
  | succ n hk0 =>
    intro v1 v2 h v e
    unfold F171_0 at e
    rcases zI_s e with ⟨q1, e⟩ | ⟨q1, e⟩
    · refine zF_blk (m := []) (d := 1) (b := B171_2) (gs := [v2 < 0]) (c' := (39, [some (22, 0), some (0, v1), some (0, v2)], [], (hc, h, o))) K171_2 rfl ⟨q1, trivial⟩ ?_
      obtain rfl := Option.some.inj e
      exact zF_rv (zRe1_w (by decide +kernel))
    · refine zF_blk (m := []) (d := 0) (b := B171_2) (gs := [¬ (v2 < 0)]) (c' := (7, [some (22, 0), some (0, v1), some (0, v2)], [], (hc, h, o))) K171_2 rfl ⟨q1, trivial⟩ ?_
      obtain ⟨q2, e⟩ := zG_s e
      refine zF_blk (m := []) (d := 0) (b := B171_1) (gs := [0 ≤ (h 2 0) ∧ (h 2 0) < 940]) (c' := (3, [some (22, 0), some (0, v1), some (0, (wadd v2 (-8)))], [], (hc, (mset (mset h 1 (h 2 0) (wand (wushr v1 v2) 255)) 2 0 (wadd (h 2 0) 1)), o))) K171_1 rfl ⟨q2, trivial⟩ ?_
      exact hk0 v1 (wadd v2 (-8)) (mset (mset h 1 (h 2 0) (wand (wushr v1 v2) 255)) 2 0 (wadd (h 2 0) 1)) _ e
/-- EchoValeModel.come(I)V -/
def F171 (v1 : Int) (h : zHM) : Option zHM := F171_0 zFu v1 24 h
set_option maxRecDepth 100000 in
theorem S171 {spec : zRn zH2} {hc : zHC} {o : Int → Int} {d : Nat} (hd : 1 ≤ d) (v1 : Int) (h : zHM) (v : zHM) (e : F171 v1 h = some v) : zRu2 spec d 171 [(22, 0), (0, v1)] (hc, h, o) none (hc, v, o) := by
  refine zF_in (D := 0) (mx := 3) (L := [some (22, 0), some (0, v1), none]) (by decide +kernel) rfl rfl hd (fun d hd => ?_)
  unfold F171 at e
  refine zF_blk (m := []) (d := 0) (b := B171_0) (gs := []) (c' := (3, [some (22, 0), some (0, v1), some (0, 24)], [], (hc, h, o))) K171_0 rfl trivial ?_
  exact T171_0 hd zFu v1 24 h _ e
noncomputable def B170_0 : List zRow := [(20, .aload_n 0, 1, (0, 0, 0)), (21, .iload_n 1, 1, (0, 0, 0))]
theorem K170_0 : zRk 170 B170_0 = true := zRw_ok (by decide +kernel)
noncomputable def B170_1 : List zRow := [(25, .aload_n 0, 1, (0, 0, 0)), (26, .iload_n 2, 1, (0, 0, 0))]
theorem K170_1 : zRk 170 B170_1 = true := zRw_ok (by decide +kernel)
noncomputable def B170_2 : List zRow := [(30, .aload_n 0, 1, (0, 0, 0)), (31, .iload_n 3, 1, (0, 0, 0))]
theorem K170_2 : zRk 170 B170_2 = true := zRw_ok (by decide +kernel)
noncomputable def B170_3 : List zRow := [(35, .aload_n 0, 1, (0, 0, 0)), (36, .iload 4, 2, (0, 0, 0))]
theorem K170_3 : zRk 170 B170_3 = true := zRw_ok (by decide +kernel)
noncomputable def B170_4 : List zRow := [(41, .aload_n 0, 1, (0, 0, 0)), (42, .iload 5, 2, (0, 0, 0))]
theorem K170_4 : zRk 170 B170_4 = true := zRw_ok (by decide +kernel)
noncomputable def B170_5 : List zRow := [(47, .aload_n 0, 1, (0, 0, 0)), (48, .getfield 85, 3, (12, 2, 0))]
theorem K170_5 : zRk 170 B170_5 = true := zRw_ok (by decide +kernel)
noncomputable def B170_6 : List zRow := [(18, .iconst (-1), 1, (0, 0, 0))]
theorem K170_6 : zRk 170 B170_6 = true := zRw_ok (by decide +kernel)
noncomputable def B170_7 : List zRow := [(0, .aload_n 0, 1, (0, 0, 0)), (1, .iconst 0, 1, (0, 0, 0)), (2, .putfield 81, 3, (12, 0, 0)), (5, .aload_n 0, 1, (0, 0, 0)), (6, .getfield 85, 3, (12, 2, 0)), (9, .bipush 20, 2, (0, 0, 0)), (11, .iadd, 1, (0, 0, 0)), (12, .sipush 940, 3, (0, 0, 0)), (15, .if_icmp .le 5, 3, (0, 0, 0))]
theorem K170_7 : zRk 170 B170_7 = true := zRw_ok (by decide +kernel)
/-- EchoValeModel.feed(IIIII)I -/
def F170 (v1 : Int) (v2 : Int) (v3 : Int) (v4 : Int) (v5 : Int) (h : zHM) : Option (Int × zHM) := if (wadd (h 2 0) 20) ≤ 940 then (F171 v1 (mset h 0 0 0)).bind fun r1 => (F171 v2 r1).bind fun r2 => (F171 v3 r2).bind fun r3 => (F171 v4 r3).bind fun r4 => (F171 v5 r4).bind fun r5 => some ((r5 2 0), r5) else some ((-1), (mset h 0 0 0))
set_option maxRecDepth 100000 in
theorem S170 {spec : zRn zH2} {hc : zHC} {o : Int → Int} {d : Nat} (hd : 2 ≤ d) (v1 : Int) (v2 : Int) (v3 : Int) (v4 : Int) (v5 : Int) (h : zHM) (v : (Int × zHM)) (e : F170 v1 v2 v3 v4 v5 h = some v) : zRu2 spec d 170 [(22, 0), (0, v1), (0, v2), (0, v3), (0, v4), (0, v5)] (hc, h, o) (some (0, v.1)) (hc, v.2, o) := by
  refine zF_in (D := 1) (mx := 6) (L := [some (22, 0), some (0, v1), some (0, v2), some (0, v3), some (0, v4), some (0, v5)]) (by decide +kernel) rfl rfl hd (fun d hd => ?_)
  unfold F170 at e
  rcases zI_s e with ⟨q1, e⟩ | ⟨q1, e⟩
  · refine zF_blk (m := []) (d := 1) (b := B170_7) (gs := [(wadd (h 2 0) 20) ≤ 940]) (c' := (20, [some (22, 0), some (0, v1), some (0, v2), some (0, v3), some (0, v4), some (0, v5)], [], (hc, (mset h 0 0 0), o))) K170_7 rfl ⟨q1, trivial⟩ ?_
    obtain ⟨r1, q2, e⟩ := zB_s e
    refine zF_blk (m := []) (d := 0) (b := B170_0) (gs := []) (c' := (22, [some (22, 0), some (0, v1), some (0, v2), some (0, v3), some (0, v4), some (0, v5)], [(0, v1), (22, 0)], (hc, (mset h 0 0 0), o))) K170_0 rfl trivial ?_
    refine zF_call (k := 171) (cl := 12) (n := 2) (i := .invokevirtual 88) (args := [(22, 0), (0, v1)]) (rest := []) (g1 := (hc, r1, o)) (r1 := none) (zCk1_w (by decide +kernel)) rfl rfl rfl (st' := []) rfl (S171 (Nat.le_trans (by decide) hd) v1 (mset h 0 0 0) _ q2) ?_
    obtain ⟨r2, q3, e⟩ := zB_s e
    refine zF_blk (m := []) (d := 0) (b := B170_1) (gs := []) (c' := (27, [some (22, 0), some (0, v1), some (0, v2), some (0, v3), some (0, v4), some (0, v5)], [(0, v2), (22, 0)], (hc, r1, o))) K170_1 rfl trivial ?_
    refine zF_call (k := 171) (cl := 12) (n := 2) (i := .invokevirtual 88) (args := [(22, 0), (0, v2)]) (rest := []) (g1 := (hc, r2, o)) (r1 := none) (zCk1_w (by decide +kernel)) rfl rfl rfl (st' := []) rfl (S171 (Nat.le_trans (by decide) hd) v2 r1 _ q3) ?_
    obtain ⟨r3, q4, e⟩ := zB_s e
    refine zF_blk (m := []) (d := 0) (b := B170_2) (gs := []) (c' := (32, [some (22, 0), some (0, v1), some (0, v2), some (0, v3), some (0, v4), some (0, v5)], [(0, v3), (22, 0)], (hc, r2, o))) K170_2 rfl trivial ?_
    refine zF_call (k := 171) (cl := 12) (n := 2) (i := .invokevirtual 88) (args := [(22, 0), (0, v3)]) (rest := []) (g1 := (hc, r3, o)) (r1 := none) (zCk1_w (by decide +kernel)) rfl rfl rfl (st' := []) rfl (S171 (Nat.le_trans (by decide) hd) v3 r2 _ q4) ?_
    obtain ⟨r4, q5, e⟩ := zB_s e
    refine zF_blk (m := []) (d := 0) (b := B170_3) (gs := []) (c' := (38, [some (22, 0), some (0, v1), some (0, v2), some (0, v3), some (0, v4), some (0, v5)], [(0, v4), (22, 0)], (hc, r3, o))) K170_3 rfl trivial ?_
    refine zF_call (k := 171) (cl := 12) (n := 2) (i := .invokevirtual 88) (args := [(22, 0), (0, v4)]) (rest := []) (g1 := (hc, r4, o)) (r1 := none) (zCk1_w (by decide +kernel)) rfl rfl rfl (st' := []) rfl (S171 (Nat.le_trans (by decide) hd) v4 r3 _ q5) ?_
    obtain ⟨r5, q6, e⟩ := zB_s e
    refine zF_blk (m := []) (d := 0) (b := B170_4) (gs := []) (c' := (44, [some (22, 0), some (0, v1), some (0, v2), some (0, v3), some (0, v4), some (0, v5)], [(0, v5), (22, 0)], (hc, r4, o))) K170_4 rfl trivial ?_
    refine zF_call (k := 171) (cl := 12) (n := 2) (i := .invokevirtual 88) (args := [(22, 0), (0, v5)]) (rest := []) (g1 := (hc, r5, o)) (r1 := none) (zCk1_w (by decide +kernel)) rfl rfl rfl (st' := []) rfl (S171 (Nat.le_trans (by decide) hd) v5 r4 _ q6) ?_
    refine zF_blk (m := []) (d := 0) (b := B170_5) (gs := []) (c' := (51, [some (22, 0), some (0, v1), some (0, v2), some (0, v3), some (0, v4), some (0, v5)], [(0, (r5 2 0))], (hc, r5, o))) K170_5 rfl trivial ?_
    exact zF_riM (zRe1_w (by decide +kernel)) e
  · refine zF_blk (m := []) (d := 0) (b := B170_7) (gs := [¬ ((wadd (h 2 0) 20) ≤ 940)]) (c' := (18, [some (22, 0), some (0, v1), some (0, v2), some (0, v3), some (0, v4), some (0, v5)], [], (hc, (mset h 0 0 0), o))) K170_7 rfl ⟨q1, trivial⟩ ?_
    refine zF_blk (m := []) (d := 0) (b := B170_6) (gs := []) (c' := (19, [some (22, 0), some (0, v1), some (0, v2), some (0, v3), some (0, v4), some (0, v5)], [(0, (-1))], (hc, (mset h 0 0 0), o))) K170_6 rfl trivial ?_
    exact zF_riM (zRe1_w (by decide +kernel)) e
noncomputable def B16_0 : List zRow := [(15, .iconst 0, 1, (0, 0, 0))]
theorem K16_0 : zRk 16 B16_0 = true := zRw_ok (by decide +kernel)
noncomputable def B16_1 : List zRow := [(17, .aload_n 0, 1, (0, 0, 0)), (18, .getfield 12, 3, (11, 0, 23)), (21, .iload_n 1, 1, (0, 0, 0)), (22, .putfield 105, 3, (5, 1, 0)), (25, .iconst 1, 1, (0, 0, 0))]
theorem K16_1 : zRk 16 B16_1 = true := zRw_ok (by decide +kernel)
noncomputable def B16_2 : List zRow := [(4, .iload_n 1, 1, (0, 0, 0)), (5, .aload_n 0, 1, (0, 0, 0)), (6, .getfield 12, 3, (11, 0, 23)), (9, .getfield 105, 3, (5, 1, 0)), (12, .if_icmp .le 5, 3, (0, 0, 0))]
theorem K16_2 : zRk 16 B16_2 = true := zRw_ok (by decide +kernel)
noncomputable def B16_3 : List zRow := [(0, .iload_n 1, 1, (0, 0, 0)), (1, .ifCond .lt 14, 3, (0, 0, 0))]
theorem K16_3 : zRk 16 B16_3 = true := zRw_ok (by decide +kernel)
/-- EchoVale.end(I)Z -/
def F16 (v1 : Int) (h : zHC) : Option (Int × zHC) := if v1 < 0 then some (0, h) else if v1 ≤ (h 321 0 0) then some (1, (hset h 321 0 0 v1)) else some (0, h)
set_option maxRecDepth 100000 in
theorem S16 {spec : zRn zH2} {hm : zHM} {o : Int → Int} {d : Nat} (hd : 1 ≤ d) (v1 : Int) (h : zHC) (v : (Int × zHC)) (e : F16 v1 h = some v) : zRu2 spec d 16 [(21, 0), (0, v1)] (h, hm, o) (some (0, v.1)) (v.2, hm, o) := by
  refine zF_in (D := 0) (mx := 2) (L := [some (21, 0), some (0, v1)]) (by decide +kernel) rfl rfl hd (fun d hd => ?_)
  unfold F16 at e
  rcases zI_s e with ⟨q1, e⟩ | ⟨q1, e⟩
  · refine zF_blk (m := []) (d := 1) (b := B16_3) (gs := [v1 < 0]) (c' := (15, [some (21, 0), some (0, v1)], [], (h, hm, o))) K16_3 rfl ⟨q1, trivial⟩ ?_
    refine zF_blk (m := []) (d := 0) (b := B16_0) (gs := []) (c' := (16, [some (21, 0), some (0, v1)], [(0, 0)], (h, hm, o))) K16_0 rfl trivial ?_
    exact zF_rbC (zRe1_w (by decide +kernel)) (Or.inl rfl) e
  · refine zF_blk (m := []) (d := 0) (b := B16_3) (gs := [¬ (v1 < 0)]) (c' := (4, [some (21, 0), some (0, v1)], [], (h, hm, o))) K16_3 rfl ⟨q1, trivial⟩ ?_
    rcases zI_s e with ⟨q2, e⟩ | ⟨q2, e⟩
    · refine zF_blk (m := []) (d := 1) (b := B16_2) (gs := [v1 ≤ (h 321 0 0)]) (c' := (17, [some (21, 0), some (0, v1)], [], (h, hm, o))) K16_2 rfl ⟨q2, trivial⟩ ?_
      refine zF_blk (m := []) (d := 0) (b := B16_1) (gs := []) (c' := (26, [some (21, 0), some (0, v1)], [(0, 1)], ((hset h 321 0 0 v1), hm, o))) K16_1 rfl trivial ?_
      exact zF_rbC (zRe1_w (by decide +kernel)) (Or.inr rfl) e
    · refine zF_blk (m := []) (d := 0) (b := B16_2) (gs := [¬ (v1 ≤ (h 321 0 0))]) (c' := (15, [some (21, 0), some (0, v1)], [], (h, hm, o))) K16_2 rfl ⟨q2, trivial⟩ ?_
      refine zF_blk (m := []) (d := 0) (b := B16_0) (gs := []) (c' := (16, [some (21, 0), some (0, v1)], [(0, 0)], (h, hm, o))) K16_0 rfl trivial ?_
      exact zF_rbC (zRe1_w (by decide +kernel)) (Or.inl rfl) e
noncomputable def B172_0 : List zRow := [(17, .iconst 0, 1, (0, 0, 0))]
theorem K172_0 : zRk 172 B172_0 = true := zRw_ok (by decide +kernel)
noncomputable def B172_1 : List zRow := [(19, .aload_n 0, 1, (0, 0, 0)), (20, .iload_n 1, 1, (0, 0, 0)), (21, .putfield 85, 3, (12, 2, 0)), (24, .iconst 1, 1, (0, 0, 0))]
theorem K172_1 : zRk 172 B172_1 = true := zRw_ok (by decide +kernel)
noncomputable def B172_2 : List zRow := [(9, .iload_n 1, 1, (0, 0, 0)), (10, .aload_n 0, 1, (0, 0, 0)), (11, .getfield 85, 3, (12, 2, 0)), (14, .if_icmp .le 5, 3, (0, 0, 0))]
theorem K172_2 : zRk 172 B172_2 = true := zRw_ok (by decide +kernel)
noncomputable def B172_3 : List zRow := [(0, .aload_n 0, 1, (0, 0, 0)), (1, .iconst 0, 1, (0, 0, 0)), (2, .putfield 81, 3, (12, 0, 0)), (5, .iload_n 1, 1, (0, 0, 0)), (6, .ifCond .lt 11, 3, (0, 0, 0))]
theorem K172_3 : zRk 172 B172_3 = true := zRw_ok (by decide +kernel)
/-- EchoValeModel.end(I)Z -/
def F172 (v1 : Int) (h : zHM) : Option (Int × zHM) := if v1 < 0 then some (0, (mset h 0 0 0)) else if v1 ≤ (h 2 0) then some (1, (mset (mset h 0 0 0) 2 0 v1)) else some (0, (mset h 0 0 0))
set_option maxRecDepth 100000 in
theorem S172 {spec : zRn zH2} {hc : zHC} {o : Int → Int} {d : Nat} (hd : 1 ≤ d) (v1 : Int) (h : zHM) (v : (Int × zHM)) (e : F172 v1 h = some v) : zRu2 spec d 172 [(22, 0), (0, v1)] (hc, h, o) (some (0, v.1)) (hc, v.2, o) := by
  refine zF_in (D := 0) (mx := 2) (L := [some (22, 0), some (0, v1)]) (by decide +kernel) rfl rfl hd (fun d hd => ?_)
  unfold F172 at e
  rcases zI_s e with ⟨q1, e⟩ | ⟨q1, e⟩
  · refine zF_blk (m := []) (d := 1) (b := B172_3) (gs := [v1 < 0]) (c' := (17, [some (22, 0), some (0, v1)], [], (hc, (mset h 0 0 0), o))) K172_3 rfl ⟨q1, trivial⟩ ?_
    refine zF_blk (m := []) (d := 0) (b := B172_0) (gs := []) (c' := (18, [some (22, 0), some (0, v1)], [(0, 0)], (hc, (mset h 0 0 0), o))) K172_0 rfl trivial ?_
    exact zF_rbM (zRe1_w (by decide +kernel)) (Or.inl rfl) e
  · refine zF_blk (m := []) (d := 0) (b := B172_3) (gs := [¬ (v1 < 0)]) (c' := (9, [some (22, 0), some (0, v1)], [], (hc, (mset h 0 0 0), o))) K172_3 rfl ⟨q1, trivial⟩ ?_
    rcases zI_s e with ⟨q2, e⟩ | ⟨q2, e⟩
    · refine zF_blk (m := []) (d := 1) (b := B172_2) (gs := [v1 ≤ (h 2 0)]) (c' := (19, [some (22, 0), some (0, v1)], [], (hc, (mset h 0 0 0), o))) K172_2 rfl ⟨q2, trivial⟩ ?_
      refine zF_blk (m := []) (d := 0) (b := B172_1) (gs := []) (c' := (25, [some (22, 0), some (0, v1)], [(0, 1)], (hc, (mset (mset h 0 0 0) 2 0 v1), o))) K172_1 rfl trivial ?_
      exact zF_rbM (zRe1_w (by decide +kernel)) (Or.inr rfl) e
    · refine zF_blk (m := []) (d := 0) (b := B172_2) (gs := [¬ (v1 ≤ (h 2 0))]) (c' := (17, [some (22, 0), some (0, v1)], [], (hc, (mset h 0 0 0), o))) K172_2 rfl ⟨q2, trivial⟩ ?_
      refine zF_blk (m := []) (d := 0) (b := B172_0) (gs := []) (c' := (18, [some (22, 0), some (0, v1)], [(0, 0)], (hc, (mset h 0 0 0), o))) K172_0 rfl trivial ?_
      exact zF_rbM (zRe1_w (by decide +kernel)) (Or.inl rfl) e
noncomputable def B19_0 : List zRow := [(0, .aload_n 0, 1, (0, 0, 0)), (1, .iconst 0, 1, (0, 0, 0)), (2, .putfield 52, 3, (9, 0, 0)), (5, .aload_n 0, 1, (0, 0, 0)), (6, .iconst 0, 1, (0, 0, 0)), (7, .putfield 56, 3, (9, 1, 0)), (10, .aload_n 0, 1, (0, 0, 0)), (11, .iconst 0, 1, (0, 0, 0)), (12, .putfield 59, 3, (9, 2, 0)), (15, .aload_n 0, 1, (0, 0, 0)), (16, .iconst 0, 1, (0, 0, 0)), (17, .putfield 62, 3, (9, 3, 0)), (20, .aload_n 0, 1, (0, 0, 0)), (21, .iconst 0, 1, (0, 0, 0)), (22, .putfield 65, 3, (9, 4, 0)), (25, .aload_n 0, 1, (0, 0, 0)), (26, .iconst 0, 1, (0, 0, 0)), (27, .putfield 68, 3, (9, 5, 0)), (30, .aload_n 0, 1, (0, 0, 0)), (31, .iconst 0, 1, (0, 0, 0)), (32, .putfield 71, 3, (9, 6, 0))]
theorem K19_0 : zRk 19 B19_0 = true := zRw_ok (by decide +kernel)
/-- EchoVale$Valley.clear()V -/
def F19 (v0 : Int) (h : zHC) : Option zHC := some (hset (hset (hset (hset (hset (hset (hset h 576 v0 0 0) 577 v0 0 0) 578 v0 0 0) 579 v0 0 0) 580 v0 0 0) 581 v0 0 0) 582 v0 0 0)
set_option maxRecDepth 100000 in
theorem S19 {spec : zRn zH2} {hm : zHM} {o : Int → Int} {d : Nat} (hd : 1 ≤ d) (v0 : Int) (h : zHC) (v : zHC) (e : F19 v0 h = some v) : zRu2 spec d 19 [(19, v0)] (h, hm, o) none (v, hm, o) := by
  refine zF_in (D := 0) (mx := 1) (L := [some (19, v0)]) (by decide +kernel) rfl rfl hd (fun d hd => ?_)
  unfold F19 at e
  refine zF_blk (m := []) (d := 0) (b := B19_0) (gs := []) (c' := (35, [some (19, v0)], [], ((hset (hset (hset (hset (hset (hset (hset h 576 v0 0 0) 577 v0 0 0) 578 v0 0 0) 579 v0 0 0) 580 v0 0 0) 581 v0 0 0) 582 v0 0 0), hm, o))) K19_0 rfl trivial ?_
  obtain rfl := Option.some.inj e
  exact zF_rv (zRe1_w (by decide +kernel))
noncomputable def B23_0 : List zRow := [(16, .iconst 0, 1, (0, 0, 0))]
theorem K23_0 : zRk 23 B23_0 = true := zRw_ok (by decide +kernel)
noncomputable def B23_1 : List zRow := [(6, .iload_n 0, 1, (0, 0, 0)), (7, .bipush 10, 2, (0, 0, 0)), (9, .if_icmp .ne 7, 3, (0, 0, 0))]
theorem K23_1 : zRk 23 B23_1 = true := zRw_ok (by decide +kernel)
noncomputable def B23_2 : List zRow := [(0, .iload_n 0, 1, (0, 0, 0)), (1, .bipush 32, 2, (0, 0, 0)), (3, .if_icmp .eq 9, 3, (0, 0, 0))]
theorem K23_2 : zRk 23 B23_2 = true := zRw_ok (by decide +kernel)
noncomputable def B23_3 : List zRow := [(12, .iconst 1, 1, (0, 0, 0)), (13, .goto 4, 3, (0, 0, 0))]
theorem K23_3 : zRk 23 B23_3 = true := zRw_ok (by decide +kernel)
def F23_0 : Option Int := some 1
set_option maxRecDepth 100000 in
theorem T23_0 {spec : zRn zH2} {hm : zHM} {o : Int → Int} {d : Nat} (hd : 0 ≤ d) (h : zHC) (v : Int) (e : F23_0 = some v) : zFin 0 (fun _ => 0) (zRu2 spec d) 23 (some (0, v)) (h, hm, o) (12, [none], [], (h, hm, o)) := by
  unfold F23_0 at e
  refine zF_blk (m := []) (d := 0) (b := B23_3) (gs := []) (c' := (17, [none], [(0, 1)], (h, hm, o))) K23_3 rfl trivial ?_
  obtain rfl := Option.some.inj e
  exact zF_rb (zRe1_w (by decide +kernel)) (Or.inr rfl)
/-- EchoVale$Reader.isBlank(I)Z -/
def F23 (v0 : Int) : Option Int := if v0 = 32 then F23_0 else if ¬ v0 = 10 then some 0 else F23_0
set_option maxRecDepth 100000 in
theorem S23 {spec : zRn zH2} {hm : zHM} {o : Int → Int} {d : Nat} (hd : 1 ≤ d) (v0 : Int) (h : zHC) (v : Int) (e : F23 v0 = some v) : zRu2 spec d 23 [(0, v0)] (h, hm, o) (some (0, v)) (h, hm, o) := by
  refine zF_in (D := 0) (mx := 1) (L := [some (0, v0)]) (by decide +kernel) rfl rfl hd (fun d hd => ?_)
  unfold F23 at e
  rcases zI_s e with ⟨q1, e⟩ | ⟨q1, e⟩
  · refine zF_blk (m := []) (d := 1) (b := B23_2) (gs := [v0 = 32]) (c' := (12, [some (0, v0)], [], (h, hm, o))) K23_2 rfl ⟨q1, trivial⟩ ?_
    refine zF_blk (m := [false]) (d := 0) (b := []) (gs := []) (c' := (12, [none], [], (h, hm, o))) rfl rfl trivial ?_
    exact T23_0 hd h _ e
  · refine zF_blk (m := []) (d := 0) (b := B23_2) (gs := [¬ (v0 = 32)]) (c' := (6, [some (0, v0)], [], (h, hm, o))) K23_2 rfl ⟨q1, trivial⟩ ?_
    rcases zI_s e with ⟨q2, e⟩ | ⟨q2, e⟩
    · refine zF_blk (m := []) (d := 1) (b := B23_1) (gs := [¬ v0 = 10]) (c' := (16, [some (0, v0)], [], (h, hm, o))) K23_1 rfl ⟨q2, trivial⟩ ?_
      refine zF_blk (m := []) (d := 0) (b := B23_0) (gs := []) (c' := (17, [some (0, v0)], [(0, 0)], (h, hm, o))) K23_0 rfl trivial ?_
      obtain rfl := Option.some.inj e
      exact zF_rb (zRe1_w (by decide +kernel)) (Or.inl rfl)
    · refine zF_blk (m := []) (d := 0) (b := B23_1) (gs := [¬ (¬ v0 = 10)]) (c' := (12, [some (0, v0)], [], (h, hm, o))) K23_1 rfl ⟨q2, trivial⟩ ?_
      refine zF_blk (m := [false]) (d := 0) (b := []) (gs := []) (c' := (12, [none], [], (h, hm, o))) rfl rfl trivial ?_
      exact T23_0 hd h _ e
noncomputable def B24_0 : List zRow := [(16, .iconst 0, 1, (0, 0, 0))]
theorem K24_0 : zRk 24 B24_0 = true := zRw_ok (by decide +kernel)
noncomputable def B24_1 : List zRow := [(12, .iconst 1, 1, (0, 0, 0)), (13, .goto 4, 3, (0, 0, 0))]
theorem K24_1 : zRk 24 B24_1 = true := zRw_ok (by decide +kernel)
noncomputable def B24_2 : List zRow := [(6, .iload_n 0, 1, (0, 0, 0)), (7, .bipush 122, 2, (0, 0, 0)), (9, .if_icmp .gt 7, 3, (0, 0, 0))]
theorem K24_2 : zRk 24 B24_2 = true := zRw_ok (by decide +kernel)
noncomputable def B24_3 : List zRow := [(0, .iload_n 0, 1, (0, 0, 0)), (1, .bipush 97, 2, (0, 0, 0)), (3, .if_icmp .lt 13, 3, (0, 0, 0))]
theorem K24_3 : zRk 24 B24_3 = true := zRw_ok (by decide +kernel)
/-- EchoVale$Reader.isLetter(I)Z -/
def F24 (v0 : Int) : Option Int := if v0 < 97 then some 0 else if 122 < v0 then some 0 else some 1
set_option maxRecDepth 100000 in
theorem S24 {spec : zRn zH2} {hm : zHM} {o : Int → Int} {d : Nat} (hd : 1 ≤ d) (v0 : Int) (h : zHC) (v : Int) (e : F24 v0 = some v) : zRu2 spec d 24 [(0, v0)] (h, hm, o) (some (0, v)) (h, hm, o) := by
  refine zF_in (D := 0) (mx := 1) (L := [some (0, v0)]) (by decide +kernel) rfl rfl hd (fun d hd => ?_)
  unfold F24 at e
  rcases zI_s e with ⟨q1, e⟩ | ⟨q1, e⟩
  · refine zF_blk (m := []) (d := 1) (b := B24_3) (gs := [v0 < 97]) (c' := (16, [some (0, v0)], [], (h, hm, o))) K24_3 rfl ⟨q1, trivial⟩ ?_
    refine zF_blk (m := []) (d := 0) (b := B24_0) (gs := []) (c' := (17, [some (0, v0)], [(0, 0)], (h, hm, o))) K24_0 rfl trivial ?_
    obtain rfl := Option.some.inj e
    exact zF_rb (zRe1_w (by decide +kernel)) (Or.inl rfl)
  · refine zF_blk (m := []) (d := 0) (b := B24_3) (gs := [¬ (v0 < 97)]) (c' := (6, [some (0, v0)], [], (h, hm, o))) K24_3 rfl ⟨q1, trivial⟩ ?_
    rcases zI_s e with ⟨q2, e⟩ | ⟨q2, e⟩
    · refine zF_blk (m := []) (d := 1) (b := B24_2) (gs := [122 < v0]) (c' := (16, [some (0, v0)], [], (h, hm, o))) K24_2 rfl ⟨q2, trivial⟩ ?_
      refine zF_blk (m := []) (d := 0) (b := B24_0) (gs := []) (c' := (17, [some (0, v0)], [(0, 0)], (h, hm, o))) K24_0 rfl trivial ?_
      obtain rfl := Option.some.inj e
      exact zF_rb (zRe1_w (by decide +kernel)) (Or.inl rfl)
    · refine zF_blk (m := []) (d := 0) (b := B24_2) (gs := [¬ (122 < v0)]) (c' := (12, [some (0, v0)], [], (h, hm, o))) K24_2 rfl ⟨q2, trivial⟩ ?_
      refine zF_blk (m := []) (d := 0) (b := B24_1) (gs := []) (c' := (17, [some (0, v0)], [(0, 1)], (h, hm, o))) K24_1 rfl trivial ?_
      obtain rfl := Option.some.inj e
      exact zF_rb (zRe1_w (by decide +kernel)) (Or.inr rfl)
noncomputable def B25_0 : List zRow := [(16, .iconst 0, 1, (0, 0, 0))]
theorem K25_0 : zRk 25 B25_0 = true := zRw_ok (by decide +kernel)
noncomputable def B25_1 : List zRow := [(12, .iconst 1, 1, (0, 0, 0)), (13, .goto 4, 3, (0, 0, 0))]
theorem K25_1 : zRk 25 B25_1 = true := zRw_ok (by decide +kernel)
noncomputable def B25_2 : List zRow := [(6, .iload_n 0, 1, (0, 0, 0)), (7, .bipush 57, 2, (0, 0, 0)), (9, .if_icmp .gt 7, 3, (0, 0, 0))]
theorem K25_2 : zRk 25 B25_2 = true := zRw_ok (by decide +kernel)
noncomputable def B25_3 : List zRow := [(0, .iload_n 0, 1, (0, 0, 0)), (1, .bipush 48, 2, (0, 0, 0)), (3, .if_icmp .lt 13, 3, (0, 0, 0))]
theorem K25_3 : zRk 25 B25_3 = true := zRw_ok (by decide +kernel)
/-- EchoVale$Reader.isDigit(I)Z -/
def F25 (v0 : Int) : Option Int := if v0 < 48 then some 0 else if 57 < v0 then some 0 else some 1
set_option maxRecDepth 100000 in
theorem S25 {spec : zRn zH2} {hm : zHM} {o : Int → Int} {d : Nat} (hd : 1 ≤ d) (v0 : Int) (h : zHC) (v : Int) (e : F25 v0 = some v) : zRu2 spec d 25 [(0, v0)] (h, hm, o) (some (0, v)) (h, hm, o) := by
  refine zF_in (D := 0) (mx := 1) (L := [some (0, v0)]) (by decide +kernel) rfl rfl hd (fun d hd => ?_)
  unfold F25 at e
  rcases zI_s e with ⟨q1, e⟩ | ⟨q1, e⟩
  · refine zF_blk (m := []) (d := 1) (b := B25_3) (gs := [v0 < 48]) (c' := (16, [some (0, v0)], [], (h, hm, o))) K25_3 rfl ⟨q1, trivial⟩ ?_
    refine zF_blk (m := []) (d := 0) (b := B25_0) (gs := []) (c' := (17, [some (0, v0)], [(0, 0)], (h, hm, o))) K25_0 rfl trivial ?_
    obtain rfl := Option.some.inj e
    exact zF_rb (zRe1_w (by decide +kernel)) (Or.inl rfl)
  · refine zF_blk (m := []) (d := 0) (b := B25_3) (gs := [¬ (v0 < 48)]) (c' := (6, [some (0, v0)], [], (h, hm, o))) K25_3 rfl ⟨q1, trivial⟩ ?_
    rcases zI_s e with ⟨q2, e⟩ | ⟨q2, e⟩
    · refine zF_blk (m := []) (d := 1) (b := B25_2) (gs := [57 < v0]) (c' := (16, [some (0, v0)], [], (h, hm, o))) K25_2 rfl ⟨q2, trivial⟩ ?_
      refine zF_blk (m := []) (d := 0) (b := B25_0) (gs := []) (c' := (17, [some (0, v0)], [(0, 0)], (h, hm, o))) K25_0 rfl trivial ?_
      obtain rfl := Option.some.inj e
      exact zF_rb (zRe1_w (by decide +kernel)) (Or.inl rfl)
    · refine zF_blk (m := []) (d := 0) (b := B25_2) (gs := [¬ (57 < v0)]) (c' := (12, [some (0, v0)], [], (h, hm, o))) K25_2 rfl ⟨q2, trivial⟩ ?_
      refine zF_blk (m := []) (d := 0) (b := B25_1) (gs := []) (c' := (17, [some (0, v0)], [(0, 1)], (h, hm, o))) K25_1 rfl trivial ?_
      obtain rfl := Option.some.inj e
      exact zF_rb (zRe1_w (by decide +kernel)) (Or.inr rfl)
noncomputable def B28_0 : List zRow := [(40, .iconst 0, 1, (0, 0, 0))]
theorem K28_0 : zRk 28 B28_0 = true := zRw_ok (by decide +kernel)
noncomputable def B28_1 : List zRow := [(30, .iload_n 0, 1, (0, 0, 0)), (31, .bipush 41, 2, (0, 0, 0)), (33, .if_icmp .ne 7, 3, (0, 0, 0))]
theorem K28_1 : zRk 28 B28_1 = true := zRw_ok (by decide +kernel)
noncomputable def B28_2 : List zRow := [(24, .iload_n 0, 1, (0, 0, 0)), (25, .bipush 40, 2, (0, 0, 0)), (27, .if_icmp .eq 9, 3, (0, 0, 0))]
theorem K28_2 : zRk 28 B28_2 = true := zRw_ok (by decide +kernel)
noncomputable def B28_3 : List zRow := [(18, .iload_n 0, 1, (0, 0, 0)), (19, .bipush 62, 2, (0, 0, 0)), (21, .if_icmp .eq 15, 3, (0, 0, 0))]
theorem K28_3 : zRk 28 B28_3 = true := zRw_ok (by decide +kernel)
noncomputable def B28_4 : List zRow := [(12, .iload_n 0, 1, (0, 0, 0)), (13, .bipush 61, 2, (0, 0, 0)), (15, .if_icmp .eq 21, 3, (0, 0, 0))]
theorem K28_4 : zRk 28 B28_4 = true := zRw_ok (by decide +kernel)
noncomputable def B28_5 : List zRow := [(6, .iload_n 0, 1, (0, 0, 0)), (7, .bipush 60, 2, (0, 0, 0)), (9, .if_icmp .eq 27, 3, (0, 0, 0))]
theorem K28_5 : zRk 28 B28_5 = true := zRw_ok (by decide +kernel)
noncomputable def B28_6 : List zRow := [(0, .iload_n 0, 1, (0, 0, 0)), (1, .bipush 59, 2, (0, 0, 0)), (3, .if_icmp .eq 33, 3, (0, 0, 0))]
theorem K28_6 : zRk 28 B28_6 = true := zRw_ok (by decide +kernel)
noncomputable def B28_7 : List zRow := [(36, .iconst 1, 1, (0, 0, 0)), (37, .goto 4, 3, (0, 0, 0))]
theorem K28_7 : zRk 28 B28_7 = true := zRw_ok (by decide +kernel)
def F28_0 : Option Int := some 1
set_option maxRecDepth 100000 in
theorem T28_0 {spec : zRn zH2} {hm : zHM} {o : Int → Int} {d : Nat} (hd : 0 ≤ d) (h : zHC) (v : Int) (e : F28_0 = some v) : zFin 0 (fun _ => 0) (zRu2 spec d) 28 (some (0, v)) (h, hm, o) (36, [none], [], (h, hm, o)) := by
  unfold F28_0 at e
  refine zF_blk (m := []) (d := 0) (b := B28_7) (gs := []) (c' := (41, [none], [(0, 1)], (h, hm, o))) K28_7 rfl trivial ?_
  obtain rfl := Option.some.inj e
  exact zF_rb (zRe1_w (by decide +kernel)) (Or.inr rfl)
/-- EchoVale$Reader.isMark(I)Z -/
def F28 (v0 : Int) : Option Int := if v0 = 59 then F28_0 else if v0 = 60 then F28_0 else if v0 = 61 then F28_0 else if v0 = 62 then F28_0 else if v0 = 40 then F28_0 else if ¬ v0 = 41 then some 0 else F28_0
set_option maxRecDepth 100000 in
theorem S28 {spec : zRn zH2} {hm : zHM} {o : Int → Int} {d : Nat} (hd : 1 ≤ d) (v0 : Int) (h : zHC) (v : Int) (e : F28 v0 = some v) : zRu2 spec d 28 [(0, v0)] (h, hm, o) (some (0, v)) (h, hm, o) := by
  refine zF_in (D := 0) (mx := 1) (L := [some (0, v0)]) (by decide +kernel) rfl rfl hd (fun d hd => ?_)
  unfold F28 at e
  rcases zI_s e with ⟨q1, e⟩ | ⟨q1, e⟩
  · refine zF_blk (m := []) (d := 1) (b := B28_6) (gs := [v0 = 59]) (c' := (36, [some (0, v0)], [], (h, hm, o))) K28_6 rfl ⟨q1, trivial⟩ ?_
    refine zF_blk (m := [false]) (d := 0) (b := []) (gs := []) (c' := (36, [none], [], (h, hm, o))) rfl rfl trivial ?_
    exact T28_0 hd h _ e
  · refine zF_blk (m := []) (d := 0) (b := B28_6) (gs := [¬ (v0 = 59)]) (c' := (6, [some (0, v0)], [], (h, hm, o))) K28_6 rfl ⟨q1, trivial⟩ ?_
    rcases zI_s e with ⟨q2, e⟩ | ⟨q2, e⟩
    · refine zF_blk (m := []) (d := 1) (b := B28_5) (gs := [v0 = 60]) (c' := (36, [some (0, v0)], [], (h, hm, o))) K28_5 rfl ⟨q2, trivial⟩ ?_
      refine zF_blk (m := [false]) (d := 0) (b := []) (gs := []) (c' := (36, [none], [], (h, hm, o))) rfl rfl trivial ?_
      exact T28_0 hd h _ e
    · refine zF_blk (m := []) (d := 0) (b := B28_5) (gs := [¬ (v0 = 60)]) (c' := (12, [some (0, v0)], [], (h, hm, o))) K28_5 rfl ⟨q2, trivial⟩ ?_
      rcases zI_s e with ⟨q3, e⟩ | ⟨q3, e⟩
      · refine zF_blk (m := []) (d := 1) (b := B28_4) (gs := [v0 = 61]) (c' := (36, [some (0, v0)], [], (h, hm, o))) K28_4 rfl ⟨q3, trivial⟩ ?_
        refine zF_blk (m := [false]) (d := 0) (b := []) (gs := []) (c' := (36, [none], [], (h, hm, o))) rfl rfl trivial ?_
        exact T28_0 hd h _ e
      · refine zF_blk (m := []) (d := 0) (b := B28_4) (gs := [¬ (v0 = 61)]) (c' := (18, [some (0, v0)], [], (h, hm, o))) K28_4 rfl ⟨q3, trivial⟩ ?_
        rcases zI_s e with ⟨q4, e⟩ | ⟨q4, e⟩
        · refine zF_blk (m := []) (d := 1) (b := B28_3) (gs := [v0 = 62]) (c' := (36, [some (0, v0)], [], (h, hm, o))) K28_3 rfl ⟨q4, trivial⟩ ?_
          refine zF_blk (m := [false]) (d := 0) (b := []) (gs := []) (c' := (36, [none], [], (h, hm, o))) rfl rfl trivial ?_
          exact T28_0 hd h _ e
        · refine zF_blk (m := []) (d := 0) (b := B28_3) (gs := [¬ (v0 = 62)]) (c' := (24, [some (0, v0)], [], (h, hm, o))) K28_3 rfl ⟨q4, trivial⟩ ?_
          rcases zI_s e with ⟨q5, e⟩ | ⟨q5, e⟩
          · refine zF_blk (m := []) (d := 1) (b := B28_2) (gs := [v0 = 40]) (c' := (36, [some (0, v0)], [], (h, hm, o))) K28_2 rfl ⟨q5, trivial⟩ ?_
            refine zF_blk (m := [false]) (d := 0) (b := []) (gs := []) (c' := (36, [none], [], (h, hm, o))) rfl rfl trivial ?_
            exact T28_0 hd h _ e
          · refine zF_blk (m := []) (d := 0) (b := B28_2) (gs := [¬ (v0 = 40)]) (c' := (30, [some (0, v0)], [], (h, hm, o))) K28_2 rfl ⟨q5, trivial⟩ ?_
            rcases zI_s e with ⟨q6, e⟩ | ⟨q6, e⟩
            · refine zF_blk (m := []) (d := 1) (b := B28_1) (gs := [¬ v0 = 41]) (c' := (40, [some (0, v0)], [], (h, hm, o))) K28_1 rfl ⟨q6, trivial⟩ ?_
              refine zF_blk (m := []) (d := 0) (b := B28_0) (gs := []) (c' := (41, [some (0, v0)], [(0, 0)], (h, hm, o))) K28_0 rfl trivial ?_
              obtain rfl := Option.some.inj e
              exact zF_rb (zRe1_w (by decide +kernel)) (Or.inl rfl)
            · refine zF_blk (m := []) (d := 0) (b := B28_1) (gs := [¬ (¬ v0 = 41)]) (c' := (36, [some (0, v0)], [], (h, hm, o))) K28_1 rfl ⟨q6, trivial⟩ ?_
              refine zF_blk (m := [false]) (d := 0) (b := []) (gs := []) (c' := (36, [none], [], (h, hm, o))) rfl rfl trivial ?_
              exact T28_0 hd h _ e
noncomputable def B3_0 : List zRow := [(0, .lload_n 0, 1, (0, 0, 0)), (1, .iconst 5, 1, (0, 0, 0)), (2, .lshl, 1, (0, 0, 0)), (3, .iload_n 2, 1, (0, 0, 0)), (4, .bipush 97, 2, (0, 0, 0)), (6, .isub, 1, (0, 0, 0)), (7, .iconst 1, 1, (0, 0, 0)), (8, .iadd, 1, (0, 0, 0)), (9, .i2l, 1, (0, 0, 0)), (10, .lor, 1, (0, 0, 0))]
theorem K3_0 : zRk 3 B3_0 = true := zRw_ok (by decide +kernel)
/-- EchoVale$Reader.withLetter(JI)J -/
def F3 (v0 : Int) (v2 : Int) : Option Int := some (qor (qshl v0 5) (wadd (wsub v2 97) 1))
set_option maxRecDepth 100000 in
theorem S3 {spec : zRn zH2} {hm : zHM} {o : Int → Int} {d : Nat} (hd : 1 ≤ d) (v0 : Int) (v2 : Int) (h : zHC) (v : Int) (e : F3 v0 v2 = some v) : zRu2 spec d 3 [(1, v0), (0, v2)] (h, hm, o) (some (1, v)) (h, hm, o) := by
  refine zF_in (D := 0) (mx := 3) (L := [some (1, v0), none, some (0, v2)]) (by decide +kernel) rfl rfl hd (fun d hd => ?_)
  unfold F3 at e
  refine zF_blk (m := []) (d := 0) (b := B3_0) (gs := []) (c' := (11, [some (1, v0), none, some (0, v2)], [(1, (qor (qshl v0 5) (wadd (wsub v2 97) 1)))], (h, hm, o))) K3_0 rfl trivial ?_
  obtain rfl := Option.some.inj e
  exact zF_rl (zRe1_w (by decide +kernel))
noncomputable def B27_0 : List zRow := [(0, .iconst 0, 1, (0, 0, 0)), (1, .istore_n 3, 1, (0, 0, 0))]
theorem K27_0 : zRk 27 B27_0 = true := zRw_ok (by decide +kernel)
noncomputable def B27_1 : List zRow := [(27, .iconst (-1), 1, (0, 0, 0))]
theorem K27_1 : zRk 27 B27_1 = true := zRw_ok (by decide +kernel)
noncomputable def B27_2 : List zRow := [(21, .iinc 3 1, 3, (0, 0, 0)), (24, .goto (-22), 3, (0, 0, 0))]
theorem K27_2 : zRk 27 B27_2 = true := zRw_ok (by decide +kernel)
noncomputable def B27_3 : List zRow := [(19, .iload_n 3, 1, (0, 0, 0))]
theorem K27_3 : zRk 27 B27_3 = true := zRw_ok (by decide +kernel)
noncomputable def B27_4 : List zRow := [(8, .aload_n 0, 1, (0, 0, 0)), (9, .getfield 19, 3, (5, 10, 5505110)), (12, .iload_n 3, 1, (0, 0, 0)), (13, .laload, 1, (0, 0, 0)), (14, .lload_n 1, 1, (0, 0, 0)), (15, .lcmp, 1, (0, 0, 0)), (16, .ifCond .ne 5, 3, (0, 0, 0))]
theorem K27_4 : zRk 27 B27_4 = true := zRw_ok (by decide +kernel)
noncomputable def B27_5 : List zRow := [(2, .iload_n 3, 1, (0, 0, 0)), (3, .bipush 21, 2, (0, 0, 0)), (5, .if_icmp .ge 22, 3, (0, 0, 0))]
theorem K27_5 : zRk 27 B27_5 = true := zRw_ok (by decide +kernel)
def F27_0 (h : zHC) : Nat → Int → Int → Option Int
  | 0, _, _ => none
  | n + 1, v1, v3 => if 21 ≤ v3 then some (-1) else zG (0 ≤ v3 ∧ v3 < 21) (if ¬ (qcmp (h 330 0 v3) v1) = 0 then (F27_0 h n) v1 (wadd v3 1) else some v3)
set_option maxRecDepth 100000 in
theorem T27_0 {spec : zRn zH2} {hm : zHM} {o : Int → Int} {d : Nat} (hd : 0 ≤ d) (h : zHC) : ∀ (n : Nat) (v1 : Int) (v3 : Int) (v : Int), F27_0 h n v1 v3 = some v → zFin 0 (fun _ => 0) (zRu2 spec d) 27 (some (0, v)) (h, hm, o) (2, [some (15, 0), some (1, v1), none, some (0, v3)], [], (h, hm, o)) := by
  intro n
  induction n with
  | zero => intro v1 v3 v e; unfold F27_0 at e; cases e
  | succ n hk0 =>
    intro v1 v3 v e
    unfold F27_0 at e
    rcases zI_s e with ⟨q1, e⟩ | ⟨q1, e⟩
    · refine zF_blk (m := []) (d := 1) (b := B27_5) (gs := [21 ≤ v3]) (c' := (27, [some (15, 0), some (1, v1), none, some (0, v3)], [], (h, hm, o))) K27_5 rfl ⟨q1, trivial⟩ ?_
      refine zF_blk (m := []) (d := 0) (b := B27_1) (gs := []) (c' := (28, [some (15, 0), some (1, v1), none, some (0, v3)], [(0, (-1))], (h, hm, o))) K27_1 rfl trivial ?_
      obtain rfl := Option.some.inj e
      exact zF_ri (zRe1_w (by decide +kernel))
    · refine zF_blk (m := []) (d := 0) (b := B27_5) (gs := [¬ (21 ≤ v3)]) (c' := (8, [some (15, 0), some (1, v1), none, some (0, v3)], [], (h, hm, o))) K27_5 rfl ⟨q1, trivial⟩ ?_
      obtain ⟨q2, e⟩ := zG_s e
      rcases zI_s e with ⟨q3, e⟩ | ⟨q3, e⟩
      · refine zF_blk (m := []) (d := 1) (b := B27_4) (gs := [0 ≤ v3 ∧ v3 < 21, ¬ (qcmp (h 330 0 v3) v1) = 0]) (c' := (21, [some (15, 0), some (1, v1), none, some (0, v3)], [], (h, hm, o))) K27_4 rfl ⟨q2, q3, trivial⟩ ?_
        refine zF_blk (m := []) (d := 0) (b := B27_2) (gs := []) (c' := (2, [some (15, 0), some (1, v1), none, some (0, (wadd v3 1))], [], (h, hm, o))) K27_2 rfl trivial ?_
        exact hk0 v1 (wadd v3 1) _ e
      · refine zF_blk (m := []) (d := 0) (b := B27_4) (gs := [0 ≤ v3 ∧ v3 < 21, ¬ (¬ (qcmp (h 330 0 v3) v1) = 0)]) (c' := (19, [some (15, 0), some (1, v1), none, some (0, v3)], [], (h, hm, o))) K27_4 rfl ⟨q2, q3, trivial⟩ ?_
        refine zF_blk (m := []) (d := 0) (b := B27_3) (gs := []) (c' := (20, [some (15, 0), some (1, v1), none, some (0, v3)], [(0, v3)], (h, hm, o))) K27_3 rfl trivial ?_
        obtain rfl := Option.some.inj e
        exact zF_ri (zRe1_w (by decide +kernel))
/-- EchoVale$Reader.keywordOf(J)I -/
def F27 (v1 : Int) (h : zHC) : Option Int := F27_0 h zFu v1 0
set_option maxRecDepth 100000 in
theorem S27 {spec : zRn zH2} {hm : zHM} {o : Int → Int} {d : Nat} (hd : 1 ≤ d) (v1 : Int) (h : zHC) (v : Int) (e : F27 v1 h = some v) : zRu2 spec d 27 [(15, 0), (1, v1)] (h, hm, o) (some (0, v)) (h, hm, o) := by
  refine zF_in (D := 0) (mx := 4) (L := [some (15, 0), some (1, v1), none, none]) (by decide +kernel) rfl rfl hd (fun d hd => ?_)
  unfold F27 at e
  refine zF_blk (m := []) (d := 0) (b := B27_0) (gs := []) (c' := (2, [some (15, 0), some (1, v1), none, some (0, 0)], [], (h, hm, o))) K27_0 rfl trivial ?_
  exact T27_0 hd h zFu v1 0 _ e
noncomputable def B26_0 : List zRow := [(0, .iconst 0, 1, (0, 0, 0)), (1, .istore_n 1, 1, (0, 0, 0)), (2, .iconst 0, 1, (0, 0, 0)), (3, .istore_n 2, 1, (0, 0, 0)), (4, .aload_n 0, 1, (0, 0, 0)), (5, .lconst 0, 1, (0, 0, 0)), (6, .putfield 88, 3, (5, 7, 1)), (9, .aload_n 0, 1, (0, 0, 0)), (10, .iconst 0, 1, (0, 0, 0)), (11, .putfield 82, 3, (5, 6, 0))]
theorem K26_0 : zRk 26 B26_0 = true := zRw_ok (by decide +kernel)
noncomputable def B26_1 : List zRow := [(25, .aload_n 0, 1, (0, 0, 0)), (26, .getfield 9, 3, (5, 0, 5246642)), (29, .aload_n 0, 1, (0, 0, 0)), (30, .getfield 45, 3, (5, 8, 0)), (33, .iaload, 1, (0, 0, 0))]
theorem K26_1 : zRk 26 B26_1 = true := zRw_ok (by decide +kernel)
noncomputable def B26_2 : List zRow := [(40, .aload_n 0, 1, (0, 0, 0)), (41, .getfield 9, 3, (5, 0, 5246642)), (44, .aload_n 0, 1, (0, 0, 0)), (45, .getfield 45, 3, (5, 8, 0)), (48, .iaload, 1, (0, 0, 0))]
theorem K26_2 : zRk 26 B26_2 = true := zRw_ok (by decide +kernel)
noncomputable def B26_3 : List zRow := [(52, .ifCond .eq 103, 3, (0, 0, 0))]
theorem K26_3 : zRk 26 B26_3 = true := zRw_ok (by decide +kernel)
noncomputable def B26_4 : List zRow := [(37, .ifCond .ne 18, 3, (0, 0, 0))]
theorem K26_4 : zRk 26 B26_4 = true := zRw_ok (by decide +kernel)
noncomputable def B26_5 : List zRow := [(14, .aload_n 0, 1, (0, 0, 0)), (15, .getfield 45, 3, (5, 8, 0)), (18, .aload_n 0, 1, (0, 0, 0)), (19, .getfield 39, 3, (5, 1, 0)), (22, .if_icmp .ge 133, 3, (0, 0, 0))]
theorem K26_5 : zRk 26 B26_5 = true := zRw_ok (by decide +kernel)
noncomputable def B26_6 : List zRow := [(55, .aload_n 0, 1, (0, 0, 0)), (56, .getfield 9, 3, (5, 0, 5246642)), (59, .aload_n 0, 1, (0, 0, 0)), (60, .getfield 45, 3, (5, 8, 0)), (63, .iaload, 1, (0, 0, 0))]
theorem K26_6 : zRk 26 B26_6 = true := zRw_ok (by decide +kernel)
noncomputable def B26_7 : List zRow := [(138, .iconst 0, 1, (0, 0, 0))]
theorem K26_7 : zRk 26 B26_7 = true := zRw_ok (by decide +kernel)
noncomputable def B26_8 : List zRow := [(115, .aload_n 0, 1, (0, 0, 0)), (116, .getfield 82, 3, (5, 6, 0)), (119, .bipush 10, 2, (0, 0, 0)), (121, .imul, 1, (0, 0, 0)), (122, .aload_n 0, 1, (0, 0, 0)), (123, .getfield 9, 3, (5, 0, 5246642)), (126, .aload_n 0, 1, (0, 0, 0)), (127, .getfield 45, 3, (5, 8, 0)), (130, .iaload, 1, (0, 0, 0)), (131, .iadd, 1, (0, 0, 0)), (132, .bipush 48, 2, (0, 0, 0)), (134, .isub, 1, (0, 0, 0)), (135, .goto 4, 3, (0, 0, 0))]
theorem K26_8 : zRk 26 B26_8 = true := zRw_ok (by decide +kernel)
noncomputable def B26_9 : List zRow := [(106, .iinc 2 1, 3, (0, 0, 0)), (109, .aload_n 0, 1, (0, 0, 0)), (110, .iload_n 2, 1, (0, 0, 0)), (111, .iconst 3, 1, (0, 0, 0)), (112, .if_icmp .gt 26, 3, (0, 0, 0))]
theorem K26_9 : zRk 26 B26_9 = true := zRw_ok (by decide +kernel)
noncomputable def B26_10 : List zRow := [(99, .lconst 0, 1, (0, 0, 0))]
theorem K26_10 : zRk 26 B26_10 = true := zRw_ok (by decide +kernel)
noncomputable def B26_11 : List zRow := [(80, .aload_n 0, 1, (0, 0, 0)), (81, .getfield 88, 3, (5, 7, 1)), (84, .aload_n 0, 1, (0, 0, 0)), (85, .getfield 9, 3, (5, 0, 5246642)), (88, .aload_n 0, 1, (0, 0, 0)), (89, .getfield 45, 3, (5, 8, 0)), (92, .iaload, 1, (0, 0, 0))]
theorem K26_11 : zRk 26 B26_11 = true := zRw_ok (by decide +kernel)
noncomputable def B26_12 : List zRow := [(96, .goto 4, 3, (0, 0, 0))]
theorem K26_12 : zRk 26 B26_12 = true := zRw_ok (by decide +kernel)
noncomputable def B26_13 : List zRow := [(70, .iinc 1 1, 3, (0, 0, 0)), (73, .aload_n 0, 1, (0, 0, 0)), (74, .iload_n 1, 1, (0, 0, 0)), (75, .bipush 7, 2, (0, 0, 0)), (77, .if_icmp .gt 22, 3, (0, 0, 0))]
theorem K26_13 : zRk 26 B26_13 = true := zRw_ok (by decide +kernel)
noncomputable def B26_14 : List zRow := [(67, .ifCond .eq 39, 3, (0, 0, 0))]
theorem K26_14 : zRk 26 B26_14 = true := zRw_ok (by decide +kernel)
noncomputable def B26_15 : List zRow := [(100, .putfield 88, 3, (5, 7, 1)), (103, .goto 39, 3, (0, 0, 0))]
theorem K26_15 : zRk 26 B26_15 = true := zRw_ok (by decide +kernel)
noncomputable def B26_16 : List zRow := [(142, .aload_n 0, 1, (0, 0, 0)), (143, .dup, 1, (0, 0, 0)), (144, .getfield 45, 3, (5, 8, 0)), (147, .iconst 1, 1, (0, 0, 0)), (148, .iadd, 1, (0, 0, 0)), (149, .putfield 45, 3, (5, 8, 0)), (152, .goto (-138), 3, (0, 0, 0))]
theorem K26_16 : zRk 26 B26_16 = true := zRw_ok (by decide +kernel)
noncomputable def B26_17 : List zRow := [(139, .putfield 82, 3, (5, 6, 0))]
theorem K26_17 : zRk 26 B26_17 = true := zRw_ok (by decide +kernel)
noncomputable def B26_18 : List zRow := [(165, .aload_n 0, 1, (0, 0, 0)), (166, .aload_n 0, 1, (0, 0, 0)), (167, .aload_n 0, 1, (0, 0, 0)), (168, .getfield 88, 3, (5, 7, 1))]
theorem K26_18 : zRk 26 B26_18 = true := zRw_ok (by decide +kernel)
noncomputable def B26_19 : List zRow := [(190, .iconst 3, 1, (0, 0, 0))]
theorem K26_19 : zRk 26 B26_19 = true := zRw_ok (by decide +kernel)
noncomputable def B26_20 : List zRow := [(186, .iconst 2, 1, (0, 0, 0)), (187, .goto 4, 3, (0, 0, 0))]
theorem K26_20 : zRk 26 B26_20 = true := zRw_ok (by decide +kernel)
noncomputable def B26_21 : List zRow := [(174, .putfield 82, 3, (5, 6, 0)), (177, .aload_n 0, 1, (0, 0, 0)), (178, .aload_n 0, 1, (0, 0, 0)), (179, .getfield 82, 3, (5, 6, 0)), (182, .iconst (-1), 1, (0, 0, 0)), (183, .if_icmp .ne 7, 3, (0, 0, 0))]
theorem K26_21 : zRk 26 B26_21 = true := zRw_ok (by decide +kernel)
noncomputable def B26_22 : List zRow := [(159, .iload_n 1, 1, (0, 0, 0)), (160, .bipush 7, 2, (0, 0, 0)), (162, .if_icmp .gt 35, 3, (0, 0, 0))]
theorem K26_22 : zRk 26 B26_22 = true := zRw_ok (by decide +kernel)
noncomputable def B26_23 : List zRow := [(155, .iload_n 2, 1, (0, 0, 0)), (156, .ifCond .ne 41, 3, (0, 0, 0))]
theorem K26_23 : zRk 26 B26_23 = true := zRw_ok (by decide +kernel)
noncomputable def B26_24 : List zRow := [(191, .putfield 70, 3, (5, 4, 0)), (194, .goto 21, 3, (0, 0, 0))]
theorem K26_24 : zRk 26 B26_24 = true := zRw_ok (by decide +kernel)
noncomputable def B26_25 : List zRow := [(207, .iconst 4, 1, (0, 0, 0)), (208, .goto 4, 3, (0, 0, 0))]
theorem K26_25 : zRk 26 B26_25 = true := zRw_ok (by decide +kernel)
noncomputable def B26_26 : List zRow := [(202, .iload_n 2, 1, (0, 0, 0)), (203, .iconst 3, 1, (0, 0, 0)), (204, .if_icmp .gt 7, 3, (0, 0, 0))]
theorem K26_26 : zRk 26 B26_26 = true := zRw_ok (by decide +kernel)
noncomputable def B26_27 : List zRow := [(197, .aload_n 0, 1, (0, 0, 0)), (198, .iload_n 1, 1, (0, 0, 0)), (199, .ifCond .ne 12, 3, (0, 0, 0))]
theorem K26_27 : zRk 26 B26_27 = true := zRw_ok (by decide +kernel)
noncomputable def B26_28 : List zRow := [(212, .putfield 70, 3, (5, 4, 0))]
theorem K26_28 : zRk 26 B26_28 = true := zRw_ok (by decide +kernel)
noncomputable def B26_29 : List zRow := [(211, .iconst 1, 1, (0, 0, 0))]
theorem K26_29 : zRk 26 B26_29 = true := zRw_ok (by decide +kernel)
def F26_9 (s0 : Int) (h : zHC) : Option zHC := some (hset h 324 0 0 s0)
set_option maxRecDepth 100000 in
theorem T26_9 {spec : zRn zH2} {hm : zHM} {o : Int → Int} {d : Nat} (hd : 1 ≤ d) (s0 : Int) (h : zHC) (v : zHC) (e : F26_9 s0 h = some v) : zFin 0 (fun _ => 0) (zRu2 spec d) 26 none (v, hm, o) (212, [none, none, none], [(0, s0), (15, 0)], (h, hm, o)) := by
  unfold F26_9 at e
  refine zF_blk (m := []) (d := 0) (b := B26_28) (gs := []) (c' := (215, [none, none, none], [], ((hset h 324 0 0 s0), hm, o))) K26_28 rfl trivial ?_
  obtain rfl := Option.some.inj e
  exact zF_rv (zRe1_w (by decide +kernel))
def F26_8 (h : zHC) : Option zHC := F26_9 1 h
set_option maxRecDepth 100000 in
theorem T26_8 {spec : zRn zH2} {hm : zHM} {o : Int → Int} {d : Nat} (hd : 1 ≤ d) (h : zHC) (v : zHC) (e : F26_8 h = some v) : zFin 0 (fun _ => 0) (zRu2 spec d) 26 none (v, hm, o) (211, [none, none, none], [(15, 0)], (h, hm, o)) := by
  unfold F26_8 at e
  refine zF_blk (m := []) (d := 0) (b := B26_29) (gs := []) (c' := (212, [none, none, none], [(0, 1), (15, 0)], (h, hm, o))) K26_29 rfl trivial ?_
  exact T26_9 hd 1 h _ e
def F26_6 (v1 : Int) (v2 : Int) (h : zHC) : Option zHC := if ¬ v1 = 0 then F26_8 h else if 3 < v2 then F26_8 h else F26_9 4 h
set_option maxRecDepth 100000 in
theorem T26_6 {spec : zRn zH2} {hm : zHM} {o : Int → Int} {d : Nat} (hd : 1 ≤ d) (v1 : Int) (v2 : Int) (h : zHC) (v : zHC) (e : F26_6 v1 v2 h = some v) : zFin 0 (fun _ => 0) (zRu2 spec d) 26 none (v, hm, o) (197, [some (15, 0), some (0, v1), some (0, v2)], [], (h, hm, o)) := by
  unfold F26_6 at e
  rcases zI_s e with ⟨q1, e⟩ | ⟨q1, e⟩
  · refine zF_blk (m := []) (d := 1) (b := B26_27) (gs := [¬ v1 = 0]) (c' := (211, [some (15, 0), some (0, v1), some (0, v2)], [(15, 0)], (h, hm, o))) K26_27 rfl ⟨q1, trivial⟩ ?_
    refine zF_blk (m := [false, false, false]) (d := 0) (b := []) (gs := []) (c' := (211, [none, none, none], [(15, 0)], (h, hm, o))) rfl rfl trivial ?_
    exact T26_8 hd h _ e
  · refine zF_blk (m := []) (d := 0) (b := B26_27) (gs := [¬ (¬ v1 = 0)]) (c' := (202, [some (15, 0), some (0, v1), some (0, v2)], [(15, 0)], (h, hm, o))) K26_27 rfl ⟨q1, trivial⟩ ?_
    rcases zI_s e with ⟨q2, e⟩ | ⟨q2, e⟩
    · refine zF_blk (m := []) (d := 1) (b := B26_26) (gs := [3 < v2]) (c' := (211, [some (15, 0), some (0, v1), some (0, v2)], [(15, 0)], (h, hm, o))) K26_26 rfl ⟨q2, trivial⟩ ?_
      refine zF_blk (m := [false, false, false]) (d := 0) (b := []) (gs := []) (c' := (211, [none, none, none], [(15, 0)], (h, hm, o))) rfl rfl trivial ?_
      exact T26_8 hd h _ e
    · refine zF_blk (m := []) (d := 0) (b := B26_26) (gs := [¬ (3 < v2)]) (c' := (207, [some (15, 0), some (0, v1), some (0, v2)], [(15, 0)], (h, hm, o))) K26_26 rfl ⟨q2, trivial⟩ ?_
      refine zF_blk (m := []) (d := 0) (b := B26_25) (gs := []) (c' := (212, [some (15, 0), some (0, v1), some (0, v2)], [(0, 4), (15, 0)], (h, hm, o))) K26_25 rfl trivial ?_
      refine zF_blk (m := [false, false, false]) (d := 0) (b := []) (gs := []) (c' := (212, [none, none, none], [(0, 4), (15, 0)], (h, hm, o))) rfl rfl trivial ?_
      exact T26_9 hd 4 h _ e
def F26_7 (s0 : Int) (h : zHC) : Option zHC := some (hset h 324 0 0 s0)
set_option maxRecDepth 100000 in
theorem T26_7 {spec : zRn zH2} {hm : zHM} {o : Int → Int} {d : Nat} (hd : 1 ≤ d) (s0 : Int) (h : zHC) (v : zHC) (e : F26_7 s0 h = some v) : zFin 0 (fun _ => 0) (zRu2 spec d) 26 none (v, hm, o) (191, [none, none, none], [(0, s0), (15, 0)], (h, hm, o)) := by
  unfold F26_7 at e
  refine zF_blk (m := []) (d := 0) (b := B26_24) (gs := []) (c' := (215, [none, none, none], [], ((hset h 324 0 0 s0), hm, o))) K26_24 rfl trivial ?_
  obtain rfl := Option.some.inj e
  exact zF_rv (zRe1_w (by decide +kernel))
def F26_1 (v1 : Int) (v2 : Int) (h : zHC) : Option zHC := if ¬ v2 = 0 then F26_6 v1 v2 h else if 7 < v1 then F26_6 v1 v2 h else (F27 (h 327 0 0) h).bind fun r1 => if ¬ r1 = (-1) then F26_7 3 (hset h 326 0 0 r1) else F26_7 2 (hset h 326 0 0 r1)
set_option maxRecDepth 100000 in
theorem T26_1 {spec : zRn zH2} {hm : zHM} {o : Int → Int} {d : Nat} (hd : 1 ≤ d) (v1 : Int) (v2 : Int) (h : zHC) (v : zHC) (e : F26_1 v1 v2 h = some v) : zFin 0 (fun _ => 0) (zRu2 spec d) 26 none (v, hm, o) (155, [some (15, 0), some (0, v1), some (0, v2)], [], (h, hm, o)) := by
  unfold F26_1 at e
  rcases zI_s e with ⟨q1, e⟩ | ⟨q1, e⟩
  · refine zF_blk (m := []) (d := 1) (b := B26_23) (gs := [¬ v2 = 0]) (c' := (197, [some (15, 0), some (0, v1), some (0, v2)], [], (h, hm, o))) K26_23 rfl ⟨q1, trivial⟩ ?_
    exact T26_6 hd v1 v2 h _ e
  · refine zF_blk (m := []) (d := 0) (b := B26_23) (gs := [¬ (¬ v2 = 0)]) (c' := (159, [some (15, 0), some (0, v1), some (0, v2)], [], (h, hm, o))) K26_23 rfl ⟨q1, trivial⟩ ?_
    rcases zI_s e with ⟨q2, e⟩ | ⟨q2, e⟩
    · refine zF_blk (m := []) (d := 1) (b := B26_22) (gs := [7 < v1]) (c' := (197, [some (15, 0), some (0, v1), some (0, v2)], [], (h, hm, o))) K26_22 rfl ⟨q2, trivial⟩ ?_
      exact T26_6 hd v1 v2 h _ e
    · refine zF_blk (m := []) (d := 0) (b := B26_22) (gs := [¬ (7 < v1)]) (c' := (165, [some (15, 0), some (0, v1), some (0, v2)], [], (h, hm, o))) K26_22 rfl ⟨q2, trivial⟩ ?_
      obtain ⟨r1, q3, e⟩ := zB_s e
      refine zF_blk (m := []) (d := 0) (b := B26_18) (gs := []) (c' := (171, [some (15, 0), some (0, v1), some (0, v2)], [(1, (h 327 0 0)), (15, 0), (15, 0)], (h, hm, o))) K26_18 rfl trivial ?_
      refine zF_call (k := 27) (cl := 5) (n := 2) (i := .invokevirtual 92) (args := [(15, 0), (1, (h 327 0 0))]) (rest := [(15, 0)]) (g1 := (h, hm, o)) (r1 := some (0, r1)) (zCk1_w (by decide +kernel)) rfl rfl rfl (st' := [(0, r1), (15, 0)]) rfl (S27 (Nat.le_trans (by decide) hd) (h 327 0 0) h _ q3) ?_
      rcases zI_s e with ⟨q4, e⟩ | ⟨q4, e⟩
      · refine zF_blk (m := []) (d := 1) (b := B26_21) (gs := [¬ r1 = (-1)]) (c' := (190, [some (15, 0), some (0, v1), some (0, v2)], [(15, 0)], ((hset h 326 0 0 r1), hm, o))) K26_21 rfl ⟨q4, trivial⟩ ?_
        refine zF_blk (m := []) (d := 0) (b := B26_19) (gs := []) (c' := (191, [some (15, 0), some (0, v1), some (0, v2)], [(0, 3), (15, 0)], ((hset h 326 0 0 r1), hm, o))) K26_19 rfl trivial ?_
        refine zF_blk (m := [false, false, false]) (d := 0) (b := []) (gs := []) (c' := (191, [none, none, none], [(0, 3), (15, 0)], ((hset h 326 0 0 r1), hm, o))) rfl rfl trivial ?_
        exact T26_7 hd 3 (hset h 326 0 0 r1) _ e
      · refine zF_blk (m := []) (d := 0) (b := B26_21) (gs := [¬ (¬ r1 = (-1))]) (c' := (186, [some (15, 0), some (0, v1), some (0, v2)], [(15, 0)], ((hset h 326 0 0 r1), hm, o))) K26_21 rfl ⟨q4, trivial⟩ ?_
        refine zF_blk (m := []) (d := 0) (b := B26_20) (gs := []) (c' := (191, [some (15, 0), some (0, v1), some (0, v2)], [(0, 2), (15, 0)], ((hset h 326 0 0 r1), hm, o))) K26_20 rfl trivial ?_
        refine zF_blk (m := [false, false, false]) (d := 0) (b := []) (gs := []) (c' := (191, [none, none, none], [(0, 2), (15, 0)], ((hset h 326 0 0 r1), hm, o))) rfl rfl trivial ?_
        exact T26_7 hd 2 (hset h 326 0 0 r1) _ e
def F26_5 (k0 : Int → Int → zHC → Option zHC) (v1 : Int) (v2 : Int) (h : zHC) : Option zHC := k0 v1 v2 (hset h 328 0 0 (wadd (h 328 0 0) 1))
set_option maxRecDepth 100000 in
theorem T26_5 {spec : zRn zH2} {hm : zHM} {o : Int → Int} {d : Nat} (hd : 1 ≤ d) (k0 : Int → Int → zHC → Option zHC) (hk0 : ∀ (v1 : Int) (v2 : Int) (h : zHC) (v : zHC), k0 v1 v2 h = some v → zFin 0 (fun _ => 0) (zRu2 spec d) 26 none (v, hm, o) (14, [some (15, 0), some (0, v1), some (0, v2)], [], (h, hm, o))) (v1 : Int) (v2 : Int) (h : zHC) (v : zHC) (e : F26_5 k0 v1 v2 h = some v) : zFin 0 (fun _ => 0) (zRu2 spec d) 26 none (v, hm, o) (142, [some (15, 0), some (0, v1), some (0, v2)], [], (h, hm, o)) := by
  unfold F26_5 at e
  refine zF_blk (m := []) (d := 0) (b := B26_16) (gs := []) (c' := (14, [some (15, 0), some (0, v1), some (0, v2)], [], ((hset h 328 0 0 (wadd (h 328 0 0) 1)), hm, o))) K26_16 rfl trivial ?_
  exact hk0 v1 v2 (hset h 328 0 0 (wadd (h 328 0 0) 1)) _ e
def F26_3 (k0 : Int → Int → zHC → Option zHC) (v1 : Int) (v2 : Int) (s0 : Int) (h : zHC) : Option zHC := F26_5 k0 v1 v2 (hset h 326 0 0 s0)
set_option maxRecDepth 100000 in
theorem T26_3 {spec : zRn zH2} {hm : zHM} {o : Int → Int} {d : Nat} (hd : 1 ≤ d) (k0 : Int → Int → zHC → Option zHC) (hk0 : ∀ (v1 : Int) (v2 : Int) (h : zHC) (v : zHC), k0 v1 v2 h = some v → zFin 0 (fun _ => 0) (zRu2 spec d) 26 none (v, hm, o) (14, [some (15, 0), some (0, v1), some (0, v2)], [], (h, hm, o))) (v1 : Int) (v2 : Int) (s0 : Int) (h : zHC) (v : zHC) (e : F26_3 k0 v1 v2 s0 h = some v) : zFin 0 (fun _ => 0) (zRu2 spec d) 26 none (v, hm, o) (139, [some (15, 0), some (0, v1), some (0, v2)], [(0, s0), (15, 0)], (h, hm, o)) := by
  unfold F26_3 at e
  refine zF_blk (m := []) (d := 0) (b := B26_17) (gs := []) (c' := (142, [some (15, 0), some (0, v1), some (0, v2)], [], ((hset h 326 0 0 s0), hm, o))) K26_17 rfl trivial ?_
  exact T26_5 hd k0 hk0 v1 v2 (hset h 326 0 0 s0) _ e
def F26_4 (k0 : Int → Int → zHC → Option zHC) (v1 : Int) (v2 : Int) (s0 : Int) (h : zHC) : Option zHC := F26_5 k0 v1 v2 (hset h 327 0 0 s0)
set_option maxRecDepth 100000 in
theorem T26_4 {spec : zRn zH2} {hm : zHM} {o : Int → Int} {d : Nat} (hd : 1 ≤ d) (k0 : Int → Int → zHC → Option zHC) (hk0 : ∀ (v1 : Int) (v2 : Int) (h : zHC) (v : zHC), k0 v1 v2 h = some v → zFin 0 (fun _ => 0) (zRu2 spec d) 26 none (v, hm, o) (14, [some (15, 0), some (0, v1), some (0, v2)], [], (h, hm, o))) (v1 : Int) (v2 : Int) (s0 : Int) (h : zHC) (v : zHC) (e : F26_4 k0 v1 v2 s0 h = some v) : zFin 0 (fun _ => 0) (zRu2 spec d) 26 none (v, hm, o) (100, [some (15, 0), some (0, v1), some (0, v2)], [(1, s0), (15, 0)], (h, hm, o)) := by
  unfold F26_4 at e
  refine zF_blk (m := []) (d := 0) (b := B26_15) (gs := []) (c' := (142, [some (15, 0), some (0, v1), some (0, v2)], [], ((hset h 327 0 0 s0), hm, o))) K26_15 rfl trivial ?_
  exact T26_5 hd k0 hk0 v1 v2 (hset h 327 0 0 s0) _ e
def F26_2 (k0 : Int → Int → zHC → Option zHC) (v1 : Int) (v2 : Int) (h : zHC) : Option zHC := zG (0 ≤ (h 328 0 0) ∧ (h 328 0 0) < 940) ((F24 (h 320 0 (h 328 0 0))).bind fun r1 => if r1 = 0 then if 3 < (wadd v2 1) then F26_3 k0 v1 (wadd v2 1) 0 h else zG (0 ≤ (h 328 0 0) ∧ (h 328 0 0) < 940) (F26_3 k0 v1 (wadd v2 1) (wsub (wadd (wmul (h 326 0 0) 10) (h 320 0 (h 328 0 0))) 48) h) else if 7 < (wadd v1 1) then F26_4 k0 (wadd v1 1) v2 0 h else zG (0 ≤ (h 328 0 0) ∧ (h 328 0 0) < 940) ((F3 (h 327 0 0) (h 320 0 (h 328 0 0))).bind fun r2 => F26_4 k0 (wadd v1 1) v2 r2 h))
set_option maxRecDepth 100000 in
theorem T26_2 {spec : zRn zH2} {hm : zHM} {o : Int → Int} {d : Nat} (hd : 1 ≤ d) (k0 : Int → Int → zHC → Option zHC) (hk0 : ∀ (v1 : Int) (v2 : Int) (h : zHC) (v : zHC), k0 v1 v2 h = some v → zFin 0 (fun _ => 0) (zRu2 spec d) 26 none (v, hm, o) (14, [some (15, 0), some (0, v1), some (0, v2)], [], (h, hm, o))) (v1 : Int) (v2 : Int) (h : zHC) (v : zHC) (e : F26_2 k0 v1 v2 h = some v) : zFin 0 (fun _ => 0) (zRu2 spec d) 26 none (v, hm, o) (55, [some (15, 0), some (0, v1), some (0, v2)], [], (h, hm, o)) := by
  unfold F26_2 at e
  obtain ⟨q1, e⟩ := zG_s e
  obtain ⟨r1, q2, e⟩ := zB_s e
  refine zF_blk (m := []) (d := 0) (b := B26_6) (gs := [0 ≤ (h 328 0 0) ∧ (h 328 0 0) < 940]) (c' := (64, [some (15, 0), some (0, v1), some (0, v2)], [(0, (h 320 0 (h 328 0 0)))], (h, hm, o))) K26_6 rfl ⟨q1, trivial⟩ ?_
  refine zF_call (k := 24) (cl := 5) (n := 1) (i := .invokestatic 73) (args := [(0, (h 320 0 (h 328 0 0)))]) (rest := []) (g1 := (h, hm, o)) (r1 := some (0, r1)) (zCk1_w (by decide +kernel)) rfl rfl rfl (st' := [(0, r1)]) rfl (S24 (Nat.le_trans (by decide) hd) (h 320 0 (h 328 0 0)) h _ q2) ?_
  rcases zI_s e with ⟨q3, e⟩ | ⟨q3, e⟩
  · refine zF_blk (m := []) (d := 1) (b := B26_14) (gs := [r1 = 0]) (c' := (106, [some (15, 0), some (0, v1), some (0, v2)], [], (h, hm, o))) K26_14 rfl ⟨q3, trivial⟩ ?_
    rcases zI_s e with ⟨q4, e⟩ | ⟨q4, e⟩
    · refine zF_blk (m := []) (d := 1) (b := B26_9) (gs := [3 < (wadd v2 1)]) (c' := (138, [some (15, 0), some (0, v1), some (0, (wadd v2 1))], [(15, 0)], (h, hm, o))) K26_9 rfl ⟨q4, trivial⟩ ?_
      refine zF_blk (m := []) (d := 0) (b := B26_7) (gs := []) (c' := (139, [some (15, 0), some (0, v1), some (0, (wadd v2 1))], [(0, 0), (15, 0)], (h, hm, o))) K26_7 rfl trivial ?_
      exact T26_3 hd k0 hk0 v1 (wadd v2 1) 0 h _ e
    · refine zF_blk (m := []) (d := 0) (b := B26_9) (gs := [¬ (3 < (wadd v2 1))]) (c' := (115, [some (15, 0), some (0, v1), some (0, (wadd v2 1))], [(15, 0)], (h, hm, o))) K26_9 rfl ⟨q4, trivial⟩ ?_
      obtain ⟨q5, e⟩ := zG_s e
      refine zF_blk (m := []) (d := 0) (b := B26_8) (gs := [0 ≤ (h 328 0 0) ∧ (h 328 0 0) < 940]) (c' := (139, [some (15, 0), some (0, v1), some (0, (wadd v2 1))], [(0, (wsub (wadd (wmul (h 326 0 0) 10) (h 320 0 (h 328 0 0))) 48)), (15, 0)], (h, hm, o))) K26_8 rfl ⟨q5, trivial⟩ ?_
      exact T26_3 hd k0 hk0 v1 (wadd v2 1) (wsub (wadd (wmul (h 326 0 0) 10) (h 320 0 (h 328 0 0))) 48) h _ e
  · refine zF_blk (m := []) (d := 0) (b := B26_14) (gs := [¬ (r1 = 0)]) (c' := (70, [some (15, 0), some (0, v1), some (0, v2)], [], (h, hm, o))) K26_14 rfl ⟨q3, trivial⟩ ?_
    rcases zI_s e with ⟨q6, e⟩ | ⟨q6, e⟩
    · refine zF_blk (m := []) (d := 1) (b := B26_13) (gs := [7 < (wadd v1 1)]) (c' := (99, [some (15, 0), some (0, (wadd v1 1)), some (0, v2)], [(15, 0)], (h, hm, o))) K26_13 rfl ⟨q6, trivial⟩ ?_
      refine zF_blk (m := []) (d := 0) (b := B26_10) (gs := []) (c' := (100, [some (15, 0), some (0, (wadd v1 1)), some (0, v2)], [(1, 0), (15, 0)], (h, hm, o))) K26_10 rfl trivial ?_
      exact T26_4 hd k0 hk0 (wadd v1 1) v2 0 h _ e
    · refine zF_blk (m := []) (d := 0) (b := B26_13) (gs := [¬ (7 < (wadd v1 1))]) (c' := (80, [some (15, 0), some (0, (wadd v1 1)), some (0, v2)], [(15, 0)], (h, hm, o))) K26_13 rfl ⟨q6, trivial⟩ ?_
      obtain ⟨q7, e⟩ := zG_s e
      obtain ⟨r2, q8, e⟩ := zB_s e
      refine zF_blk (m := []) (d := 0) (b := B26_11) (gs := [0 ≤ (h 328 0 0) ∧ (h 328 0 0) < 940]) (c' := (93, [some (15, 0), some (0, (wadd v1 1)), some (0, v2)], [(0, (h 320 0 (h 328 0 0))), (1, (h 327 0 0)), (15, 0)], (h, hm, o))) K26_11 rfl ⟨q7, trivial⟩ ?_
      refine zF_call (k := 3) (cl := 5) (n := 2) (i := .invokestatic 35) (args := [(1, (h 327 0 0)), (0, (h 320 0 (h 328 0 0)))]) (rest := [(15, 0)]) (g1 := (h, hm, o)) (r1 := some (1, r2)) (zCk1_w (by decide +kernel)) rfl rfl rfl (st' := [(1, r2), (15, 0)]) rfl (S3 (Nat.le_trans (by decide) hd) (h 327 0 0) (h 320 0 (h 328 0 0)) h _ q8) ?_
      refine zF_blk (m := []) (d := 0) (b := B26_12) (gs := []) (c' := (100, [some (15, 0), some (0, (wadd v1 1)), some (0, v2)], [(1, r2), (15, 0)], (h, hm, o))) K26_12 rfl trivial ?_
      exact T26_4 hd k0 hk0 (wadd v1 1) v2 r2 h _ e
def F26_0 : Nat → Int → Int → zHC → Option zHC
  | 0, _, _, _ => none
  | n + 1, v1, v2, h => if (h 321 0 0) ≤ (h 328 0 0) then F26_1 v1 v2 h else zG (0 ≤ (h 328 0 0) ∧ (h 328 0 0) < 940) ((F24 (h 320 0 (h 328 0 0))).bind fun r1 => if ¬ r1 = 0 then F26_2 (F26_0 n) v1 v2 h else zG (0 ≤ (h 328 0 0) ∧ (h 328 0 0) < 940) ((F25 (h 320 0 (h 328 0 0))).bind fun r2 => if r2 = 0 then F26_1 v1 v2 h else F26_2 (F26_0 n) v1 v2 h))
set_option maxRecDepth 100000 in
theorem T26_0 {spec : zRn zH2} {hm : zHM} {o : Int → Int} {d : Nat} (hd : 1 ≤ d) : ∀ (n : Nat) (v1 : Int) (v2 : Int) (h : zHC) (v : zHC), F26_0 n v1 v2 h = some v → zFin 0 (fun _ => 0) (zRu2 spec d) 26 none (v, hm, o) (14, [some (15, 0), some (0, v1), some (0, v2)], [], (h, hm, o)) := by
  intro n
  induction n with
  | zero => intro v1 v2 h v e; unfold F26_0 at e; cases e
  | succ n hk0 =>
    intro v1 v2 h v e
    unfold F26_0 at e
    rcases zI_s e with ⟨q1, e⟩ | ⟨q1, e⟩
    · refine zF_blk (m := []) (d := 1) (b := B26_5) (gs := [(h 321 0 0) ≤ (h 328 0 0)]) (c' := (155, [some (15, 0), some (0, v1), some (0, v2)], [], (h, hm, o))) K26_5 rfl ⟨q1, trivial⟩ ?_
      exact T26_1 hd v1 v2 h _ e
    · refine zF_blk (m := []) (d := 0) (b := B26_5) (gs := [¬ ((h 321 0 0) ≤ (h 328 0 0))]) (c' := (25, [some (15, 0), some (0, v1), some (0, v2)], [], (h, hm, o))) K26_5 rfl ⟨q1, trivial⟩ ?_
      obtain ⟨q2, e⟩ := zG_s e
      obtain ⟨r1, q3, e⟩ := zB_s e
      refine zF_blk (m := []) (d := 0) (b := B26_1) (gs := [0 ≤ (h 328 0 0) ∧ (h 328 0 0) < 940]) (c' := (34, [some (15, 0), some (0, v1), some (0, v2)], [(0, (h 320 0 (h 328 0 0)))], (h, hm, o))) K26_1 rfl ⟨q2, trivial⟩ ?_
      refine zF_call (k := 24) (cl := 5) (n := 1) (i := .invokestatic 73) (args := [(0, (h 320 0 (h 328 0 0)))]) (rest := []) (g1 := (h, hm, o)) (r1 := some (0, r1)) (zCk1_w (by decide +kernel)) rfl rfl rfl (st' := [(0, r1)]) rfl (S24 (Nat.le_trans (by decide) hd) (h 320 0 (h 328 0 0)) h _ q3) ?_
      rcases zI_s e with ⟨q4, e⟩ | ⟨q4, e⟩
      · refine zF_blk (m := []) (d := 1) (b := B26_4) (gs := [¬ r1 = 0]) (c' := (55, [some (15, 0), some (0, v1), some (0, v2)], [], (h, hm, o))) K26_4 rfl ⟨q4, trivial⟩ ?_
        exact T26_2 hd (F26_0 n) hk0 v1 v2 h _ e
      · refine zF_blk (m := []) (d := 0) (b := B26_4) (gs := [¬ (¬ r1 = 0)]) (c' := (40, [some (15, 0), some (0, v1), some (0, v2)], [], (h, hm, o))) K26_4 rfl ⟨q4, trivial⟩ ?_
        obtain ⟨q5, e⟩ := zG_s e
        obtain ⟨r2, q6, e⟩ := zB_s e
        refine zF_blk (m := []) (d := 0) (b := B26_2) (gs := [0 ≤ (h 328 0 0) ∧ (h 328 0 0) < 940]) (c' := (49, [some (15, 0), some (0, v1), some (0, v2)], [(0, (h 320 0 (h 328 0 0)))], (h, hm, o))) K26_2 rfl ⟨q5, trivial⟩ ?_
        refine zF_call (k := 25) (cl := 5) (n := 1) (i := .invokestatic 76) (args := [(0, (h 320 0 (h 328 0 0)))]) (rest := []) (g1 := (h, hm, o)) (r1 := some (0, r2)) (zCk1_w (by decide +kernel)) rfl rfl rfl (st' := [(0, r2)]) rfl (S25 (Nat.le_trans (by decide) hd) (h 320 0 (h 328 0 0)) h _ q6) ?_
        rcases zI_s e with ⟨q7, e⟩ | ⟨q7, e⟩
        · refine zF_blk (m := []) (d := 1) (b := B26_3) (gs := [r2 = 0]) (c' := (155, [some (15, 0), some (0, v1), some (0, v2)], [], (h, hm, o))) K26_3 rfl ⟨q7, trivial⟩ ?_
          exact T26_1 hd v1 v2 h _ e
        · refine zF_blk (m := []) (d := 0) (b := B26_3) (gs := [¬ (r2 = 0)]) (c' := (55, [some (15, 0), some (0, v1), some (0, v2)], [], (h, hm, o))) K26_3 rfl ⟨q7, trivial⟩ ?_
          exact T26_2 hd (F26_0 n) hk0 v1 v2 h _ e
/-- EchoVale$Reader.readRun()V -/
def F26 (h : zHC) : Option zHC := F26_0 zFu 0 0 (hset (hset h 327 0 0 0) 326 0 0 0)
set_option maxRecDepth 100000 in
theorem S26 {spec : zRn zH2} {hm : zHM} {o : Int → Int} {d : Nat} (hd : 2 ≤ d) (h : zHC) (v : zHC) (e : F26 h = some v) : zRu2 spec d 26 [(15, 0)] (h, hm, o) none (v, hm, o) := by
  refine zF_in (D := 1) (mx := 3) (L := [some (15, 0), none, none]) (by decide +kernel) rfl rfl hd (fun d hd => ?_)
  unfold F26 at e
  refine zF_blk (m := []) (d := 0) (b := B26_0) (gs := []) (c' := (14, [some (15, 0), some (0, 0), some (0, 0)], [], ((hset (hset h 327 0 0 0) 326 0 0 0), hm, o))) K26_0 rfl trivial ?_
  exact T26_0 hd zFu 0 0 (hset (hset h 327 0 0 0) 326 0 0 0) _ e
noncomputable def B21_0 : List zRow := [(0, .aload_n 0, 1, (0, 0, 0)), (1, .getfield 39, 3, (5, 1, 0)), (4, .aload_n 0, 1, (0, 0, 0)), (5, .getfield 42, 3, (5, 9, 0)), (8, .invokestatic 57, 3, (5003, 0, 0)), (11, .istore_n 1, 1, (0, 0, 0))]
theorem K21_0 : zRk 21 B21_0 = true := zRw_ok (by decide +kernel)
noncomputable def B21_1 : List zRow := [(20, .aload_n 0, 1, (0, 0, 0)), (21, .getfield 9, 3, (5, 0, 5246642)), (24, .aload_n 0, 1, (0, 0, 0)), (25, .getfield 45, 3, (5, 8, 0)), (28, .iaload, 1, (0, 0, 0))]
theorem K21_1 : zRk 21 B21_1 = true := zRw_ok (by decide +kernel)
noncomputable def B21_2 : List zRow := [(35, .aload_n 0, 1, (0, 0, 0)), (36, .dup, 1, (0, 0, 0)), (37, .getfield 45, 3, (5, 8, 0)), (40, .iconst 1, 1, (0, 0, 0)), (41, .iadd, 1, (0, 0, 0)), (42, .putfield 45, 3, (5, 8, 0)), (45, .goto (-33), 3, (0, 0, 0))]
theorem K21_2 : zRk 21 B21_2 = true := zRw_ok (by decide +kernel)
noncomputable def B21_3 : List zRow := [(32, .ifCond .eq 16, 3, (0, 0, 0))]
theorem K21_3 : zRk 21 B21_3 = true := zRw_ok (by decide +kernel)
noncomputable def B21_4 : List zRow := [(12, .aload_n 0, 1, (0, 0, 0)), (13, .getfield 45, 3, (5, 8, 0)), (16, .iload_n 1, 1, (0, 0, 0)), (17, .if_icmp .ge 31, 3, (0, 0, 0))]
theorem K21_4 : zRk 21 B21_4 = true := zRw_ok (by decide +kernel)
noncomputable def B21_5 : List zRow := [(76, .aload_n 0, 1, (0, 0, 0)), (77, .getfield 9, 3, (5, 0, 5246642)), (80, .aload_n 0, 1, (0, 0, 0)), (81, .getfield 45, 3, (5, 8, 0)), (84, .iaload, 1, (0, 0, 0))]
theorem K21_5 : zRk 21 B21_5 = true := zRw_ok (by decide +kernel)
noncomputable def B21_6 : List zRow := [(91, .aload_n 0, 1, (0, 0, 0)), (92, .getfield 9, 3, (5, 0, 5246642)), (95, .aload_n 0, 1, (0, 0, 0)), (96, .getfield 45, 3, (5, 8, 0)), (99, .iaload, 1, (0, 0, 0))]
theorem K21_6 : zRk 21 B21_6 = true := zRw_ok (by decide +kernel)
noncomputable def B21_7 : List zRow := [(113, .aload_n 0, 1, (0, 0, 0)), (114, .aload_n 0, 1, (0, 0, 0)), (115, .getfield 9, 3, (5, 0, 5246642)), (118, .aload_n 0, 1, (0, 0, 0)), (119, .getfield 45, 3, (5, 8, 0)), (122, .iaload, 1, (0, 0, 0)), (123, .putfield 82, 3, (5, 6, 0)), (126, .aload_n 0, 1, (0, 0, 0)), (127, .aload_n 0, 1, (0, 0, 0)), (128, .getfield 82, 3, (5, 6, 0))]
theorem K21_7 : zRk 21 B21_7 = true := zRw_ok (by decide +kernel)
noncomputable def B21_8 : List zRow := [(141, .iconst 1, 1, (0, 0, 0))]
theorem K21_8 : zRk 21 B21_8 = true := zRw_ok (by decide +kernel)
noncomputable def B21_9 : List zRow := [(137, .iconst 5, 1, (0, 0, 0)), (138, .goto 4, 3, (0, 0, 0))]
theorem K21_9 : zRk 21 B21_9 = true := zRw_ok (by decide +kernel)
noncomputable def B21_10 : List zRow := [(134, .ifCond .eq 7, 3, (0, 0, 0))]
theorem K21_10 : zRk 21 B21_10 = true := zRw_ok (by decide +kernel)
noncomputable def B21_11 : List zRow := [(103, .ifCond .eq 10, 3, (0, 0, 0))]
theorem K21_11 : zRk 21 B21_11 = true := zRw_ok (by decide +kernel)
noncomputable def B21_12 : List zRow := [(88, .ifCond .ne 18, 3, (0, 0, 0))]
theorem K21_12 : zRk 21 B21_12 = true := zRw_ok (by decide +kernel)
noncomputable def B21_13 : List zRow := [(68, .aload_n 0, 1, (0, 0, 0)), (69, .iconst 0, 1, (0, 0, 0)), (70, .putfield 70, 3, (5, 4, 0)), (73, .goto 82, 3, (0, 0, 0))]
theorem K21_13 : zRk 21 B21_13 = true := zRw_ok (by decide +kernel)
noncomputable def B21_14 : List zRow := [(48, .aload_n 0, 1, (0, 0, 0)), (49, .aload_n 0, 1, (0, 0, 0)), (50, .getfield 45, 3, (5, 8, 0)), (53, .iload_n 1, 1, (0, 0, 0)), (54, .invokestatic 57, 3, (5003, 0, 0)), (57, .putfield 67, 3, (5, 5, 0)), (60, .aload_n 0, 1, (0, 0, 0)), (61, .getfield 45, 3, (5, 8, 0)), (64, .iload_n 1, 1, (0, 0, 0)), (65, .if_icmp .lt 11, 3, (0, 0, 0))]
theorem K21_14 : zRk 21 B21_14 = true := zRw_ok (by decide +kernel)
noncomputable def B21_15 : List zRow := [(142, .putfield 70, 3, (5, 4, 0)), (145, .aload_n 0, 1, (0, 0, 0)), (146, .dup, 1, (0, 0, 0)), (147, .getfield 45, 3, (5, 8, 0)), (150, .iconst 1, 1, (0, 0, 0)), (151, .iadd, 1, (0, 0, 0)), (152, .putfield 45, 3, (5, 8, 0))]
theorem K21_15 : zRk 21 B21_15 = true := zRw_ok (by decide +kernel)
noncomputable def B21_16 : List zRow := [(106, .aload_n 0, 1, (0, 0, 0))]
theorem K21_16 : zRk 21 B21_16 = true := zRw_ok (by decide +kernel)
noncomputable def B21_17 : List zRow := [(110, .goto 45, 3, (0, 0, 0))]
theorem K21_17 : zRk 21 B21_17 = true := zRw_ok (by decide +kernel)
def F21_2 (h : zHC) : Option zHC := (F26 h).bind fun r1 => some r1
set_option maxRecDepth 100000 in
theorem T21_2 {spec : zRn zH2} {hm : zHM} {o : Int → Int} {d : Nat} (hd : 2 ≤ d) (h : zHC) (v : zHC) (e : F21_2 h = some v) : zFin 0 (fun _ => 0) (zRu2 spec d) 21 none (v, hm, o) (106, [some (15, 0), none], [], (h, hm, o)) := by
  unfold F21_2 at e
  obtain ⟨r1, q1, e⟩ := zB_s e
  refine zF_blk (m := []) (d := 0) (b := B21_16) (gs := []) (c' := (107, [some (15, 0), none], [(15, 0)], (h, hm, o))) K21_16 rfl trivial ?_
  refine zF_call (k := 26) (cl := 5) (n := 1) (i := .invokevirtual 79) (args := [(15, 0)]) (rest := []) (g1 := (r1, hm, o)) (r1 := none) (zCk1_w (by decide +kernel)) rfl rfl rfl (st' := []) rfl (S26 (Nat.le_trans (by decide) hd)  h _ q1) ?_
  refine zF_blk (m := []) (d := 0) (b := B21_17) (gs := []) (c' := (155, [some (15, 0), none], [], (r1, hm, o))) K21_17 rfl trivial ?_
  obtain rfl := Option.some.inj e
  exact zF_rv (zRe1_w (by decide +kernel))
def F21_3 (s0 : Int) (h : zHC) : Option zHC := some (hset (hset h 324 0 0 s0) 328 0 0 (wadd (h 328 0 0) 1))
set_option maxRecDepth 100000 in
theorem T21_3 {spec : zRn zH2} {hm : zHM} {o : Int → Int} {d : Nat} (hd : 2 ≤ d) (s0 : Int) (h : zHC) (v : zHC) (e : F21_3 s0 h = some v) : zFin 0 (fun _ => 0) (zRu2 spec d) 21 none (v, hm, o) (142, [some (15, 0), none], [(0, s0), (15, 0)], (h, hm, o)) := by
  unfold F21_3 at e
  refine zF_blk (m := []) (d := 0) (b := B21_15) (gs := []) (c' := (155, [some (15, 0), none], [], ((hset (hset h 324 0 0 s0) 328 0 0 (wadd (h 328 0 0) 1)), hm, o))) K21_15 rfl trivial ?_
  obtain rfl := Option.some.inj e
  exact zF_rv (zRe1_w (by decide +kernel))
def F21_1 (v1 : Int) (h : zHC) : Option zHC := if (h 328 0 0) < v1 then zG (0 ≤ (h 328 0 0) ∧ (h 328 0 0) < 940) ((F24 (h 320 0 (h 328 0 0))).bind fun r1 => if ¬ r1 = 0 then F21_2 (hset h 325 0 0 (if v1 < (h 328 0 0) then v1 else (h 328 0 0))) else zG (0 ≤ (h 328 0 0) ∧ (h 328 0 0) < 940) ((F25 (h 320 0 (h 328 0 0))).bind fun r2 => if r2 = 0 then zG (0 ≤ (h 328 0 0) ∧ (h 328 0 0) < 940) ((F28 (h 320 0 (h 328 0 0))).bind fun r3 => if r3 = 0 then F21_3 1 (hset (hset h 325 0 0 (if v1 < (h 328 0 0) then v1 else (h 328 0 0))) 326 0 0 (h 320 0 (h 328 0 0))) else F21_3 5 (hset (hset h 325 0 0 (if v1 < (h 328 0 0) then v1 else (h 328 0 0))) 326 0 0 (h 320 0 (h 328 0 0)))) else F21_2 (hset h 325 0 0 (if v1 < (h 328 0 0) then v1 else (h 328 0 0))))) else some (hset (hset h 325 0 0 (if v1 < (h 328 0 0) then v1 else (h 328 0 0))) 324 0 0 0)
set_option maxRecDepth 100000 in
theorem T21_1 {spec : zRn zH2} {hm : zHM} {o : Int → Int} {d : Nat} (hd : 2 ≤ d) (v1 : Int) (h : zHC) (v : zHC) (e : F21_1 v1 h = some v) : zFin 0 (fun _ => 0) (zRu2 spec d) 21 none (v, hm, o) (48, [some (15, 0), some (0, v1)], [], (h, hm, o)) := by
  unfold F21_1 at e
  rcases zI_s e with ⟨q1, e⟩ | ⟨q1, e⟩
  · refine zF_blk (m := []) (d := 1) (b := B21_14) (gs := [(h 328 0 0) < v1]) (c' := (76, [some (15, 0), some (0, v1)], [], ((hset h 325 0 0 (if v1 < (h 328 0 0) then v1 else (h 328 0 0))), hm, o))) K21_14 rfl ⟨q1, trivial⟩ ?_
    obtain ⟨q2, e⟩ := zG_s e
    obtain ⟨r1, q3, e⟩ := zB_s e
    refine zF_blk (m := []) (d := 0) (b := B21_5) (gs := [0 ≤ (h 328 0 0) ∧ (h 328 0 0) < 940]) (c' := (85, [some (15, 0), some (0, v1)], [(0, (h 320 0 (h 328 0 0)))], ((hset h 325 0 0 (if v1 < (h 328 0 0) then v1 else (h 328 0 0))), hm, o))) K21_5 rfl ⟨q2, trivial⟩ ?_
    refine zF_call (k := 24) (cl := 5) (n := 1) (i := .invokestatic 73) (args := [(0, (h 320 0 (h 328 0 0)))]) (rest := []) (g1 := ((hset h 325 0 0 (if v1 < (h 328 0 0) then v1 else (h 328 0 0))), hm, o)) (r1 := some (0, r1)) (zCk1_w (by decide +kernel)) rfl rfl rfl (st' := [(0, r1)]) rfl (S24 (Nat.le_trans (by decide) hd) (h 320 0 (h 328 0 0)) (hset h 325 0 0 (if v1 < (h 328 0 0) then v1 else (h 328 0 0))) _ q3) ?_
    rcases zI_s e with ⟨q4, e⟩ | ⟨q4, e⟩
    · refine zF_blk (m := []) (d := 1) (b := B21_12) (gs := [¬ r1 = 0]) (c' := (106, [some (15, 0), some (0, v1)], [], ((hset h 325 0 0 (if v1 < (h 328 0 0) then v1 else (h 328 0 0))), hm, o))) K21_12 rfl ⟨q4, trivial⟩ ?_
      refine zF_blk (m := [true, false]) (d := 0) (b := []) (gs := []) (c' := (106, [some (15, 0), none], [], ((hset h 325 0 0 (if v1 < (h 328 0 0) then v1 else (h 328 0 0))), hm, o))) rfl rfl trivial ?_
      exact T21_2 hd (hset h 325 0 0 (if v1 < (h 328 0 0) then v1 else (h 328 0 0))) _ e
    · refine zF_blk (m := []) (d := 0) (b := B21_12) (gs := [¬ (¬ r1 = 0)]) (c' := (91, [some (15, 0), some (0, v1)], [], ((hset h 325 0 0 (if v1 < (h 328 0 0) then v1 else (h 328 0 0))), hm, o))) K21_12 rfl ⟨q4, trivial⟩ ?_
      obtain ⟨q5, e⟩ := zG_s e
      obtain ⟨r2, q6, e⟩ := zB_s e
      refine zF_blk (m := []) (d := 0) (b := B21_6) (gs := [0 ≤ (h 328 0 0) ∧ (h 328 0 0) < 940]) (c' := (100, [some (15, 0), some (0, v1)], [(0, (h 320 0 (h 328 0 0)))], ((hset h 325 0 0 (if v1 < (h 328 0 0) then v1 else (h 328 0 0))), hm, o))) K21_6 rfl ⟨q5, trivial⟩ ?_
      refine zF_call (k := 25) (cl := 5) (n := 1) (i := .invokestatic 76) (args := [(0, (h 320 0 (h 328 0 0)))]) (rest := []) (g1 := ((hset h 325 0 0 (if v1 < (h 328 0 0) then v1 else (h 328 0 0))), hm, o)) (r1 := some (0, r2)) (zCk1_w (by decide +kernel)) rfl rfl rfl (st' := [(0, r2)]) rfl (S25 (Nat.le_trans (by decide) hd) (h 320 0 (h 328 0 0)) (hset h 325 0 0 (if v1 < (h 328 0 0) then v1 else (h 328 0 0))) _ q6) ?_
      rcases zI_s e with ⟨q7, e⟩ | ⟨q7, e⟩
      · refine zF_blk (m := []) (d := 1) (b := B21_11) (gs := [r2 = 0]) (c' := (113, [some (15, 0), some (0, v1)], [], ((hset h 325 0 0 (if v1 < (h 328 0 0) then v1 else (h 328 0 0))), hm, o))) K21_11 rfl ⟨q7, trivial⟩ ?_
        obtain ⟨q8, e⟩ := zG_s e
        obtain ⟨r3, q9, e⟩ := zB_s e
        refine zF_blk (m := []) (d := 0) (b := B21_7) (gs := [0 ≤ (h 328 0 0) ∧ (h 328 0 0) < 940]) (c' := (131, [some (15, 0), some (0, v1)], [(0, (h 320 0 (h 328 0 0))), (15, 0)], ((hset (hset h 325 0 0 (if v1 < (h 328 0 0) then v1 else (h 328 0 0))) 326 0 0 (h 320 0 (h 328 0 0))), hm, o))) K21_7 rfl ⟨q8, trivial⟩ ?_
        refine zF_call (k := 28) (cl := 5) (n := 1) (i := .invokestatic 85) (args := [(0, (h 320 0 (h 328 0 0)))]) (rest := [(15, 0)]) (g1 := ((hset (hset h 325 0 0 (if v1 < (h 328 0 0) then v1 else (h 328 0 0))) 326 0 0 (h 320 0 (h 328 0 0))), hm, o)) (r1 := some (0, r3)) (zCk1_w (by decide +kernel)) rfl rfl rfl (st' := [(0, r3), (15, 0)]) rfl (S28 (Nat.le_trans (by decide) hd) (h 320 0 (h 328 0 0)) (hset (hset h 325 0 0 (if v1 < (h 328 0 0) then v1 else (h 328 0 0))) 326 0 0 (h 320 0 (h 328 0 0))) _ q9) ?_
        rcases zI_s e with ⟨q10, e⟩ | ⟨q10, e⟩
        · refine zF_blk (m := []) (d := 1) (b := B21_10) (gs := [r3 = 0]) (c' := (141, [some (15, 0), some (0, v1)], [(15, 0)], ((hset (hset h 325 0 0 (if v1 < (h 328 0 0) then v1 else (h 328 0 0))) 326 0 0 (h 320 0 (h 328 0 0))), hm, o))) K21_10 rfl ⟨q10, trivial⟩ ?_
          refine zF_blk (m := []) (d := 0) (b := B21_8) (gs := []) (c' := (142, [some (15, 0), some (0, v1)], [(0, 1), (15, 0)], ((hset (hset h 325 0 0 (if v1 < (h 328 0 0) then v1 else (h 328 0 0))) 326 0 0 (h 320 0 (h 328 0 0))), hm, o))) K21_8 rfl trivial ?_
          refine zF_blk (m := [true, false]) (d := 0) (b := []) (gs := []) (c' := (142, [some (15, 0), none], [(0, 1), (15, 0)], ((hset (hset h 325 0 0 (if v1 < (h 328 0 0) then v1 else (h 328 0 0))) 326 0 0 (h 320 0 (h 328 0 0))), hm, o))) rfl rfl trivial ?_
          exact T21_3 hd 1 (hset (hset h 325 0 0 (if v1 < (h 328 0 0) then v1 else (h 328 0 0))) 326 0 0 (h 320 0 (h 328 0 0))) _ e
        · refine zF_blk (m := []) (d := 0) (b := B21_10) (gs := [¬ (r3 = 0)]) (c' := (137, [some (15, 0), some (0, v1)], [(15, 0)], ((hset (hset h 325 0 0 (if v1 < (h 328 0 0) then v1 else (h 328 0 0))) 326 0 0 (h 320 0 (h 328 0 0))), hm, o))) K21_10 rfl ⟨q10, trivial⟩ ?_
          refine zF_blk (m := []) (d := 0) (b := B21_9) (gs := []) (c' := (142, [some (15, 0), some (0, v1)], [(0, 5), (15, 0)], ((hset (hset h 325 0 0 (if v1 < (h 328 0 0) then v1 else (h 328 0 0))) 326 0 0 (h 320 0 (h 328 0 0))), hm, o))) K21_9 rfl trivial ?_
          refine zF_blk (m := [true, false]) (d := 0) (b := []) (gs := []) (c' := (142, [some (15, 0), none], [(0, 5), (15, 0)], ((hset (hset h 325 0 0 (if v1 < (h 328 0 0) then v1 else (h 328 0 0))) 326 0 0 (h 320 0 (h 328 0 0))), hm, o))) rfl rfl trivial ?_
          exact T21_3 hd 5 (hset (hset h 325 0 0 (if v1 < (h 328 0 0) then v1 else (h 328 0 0))) 326 0 0 (h 320 0 (h 328 0 0))) _ e
      · refine zF_blk (m := []) (d := 0) (b := B21_11) (gs := [¬ (r2 = 0)]) (c' := (106, [some (15, 0), some (0, v1)], [], ((hset h 325 0 0 (if v1 < (h 328 0 0) then v1 else (h 328 0 0))), hm, o))) K21_11 rfl ⟨q7, trivial⟩ ?_
        refine zF_blk (m := [true, false]) (d := 0) (b := []) (gs := []) (c' := (106, [some (15, 0), none], [], ((hset h 325 0 0 (if v1 < (h 328 0 0) then v1 else (h 328 0 0))), hm, o))) rfl rfl trivial ?_
        exact T21_2 hd (hset h 325 0 0 (if v1 < (h 328 0 0) then v1 else (h 328 0 0))) _ e
  · refine zF_blk (m := []) (d := 0) (b := B21_14) (gs := [¬ ((h 328 0 0) < v1)]) (c' := (68, [some (15, 0), some (0, v1)], [], ((hset h 325 0 0 (if v1 < (h 328 0 0) then v1 else (h 328 0 0))), hm, o))) K21_14 rfl ⟨q1, trivial⟩ ?_
    refine zF_blk (m := []) (d := 0) (b := B21_13) (gs := []) (c' := (155, [some (15, 0), some (0, v1)], [], ((hset (hset h 325 0 0 (if v1 < (h 328 0 0) then v1 else (h 328 0 0))) 324 0 0 0), hm, o))) K21_13 rfl trivial ?_
    obtain rfl := Option.some.inj e
    exact zF_rv (zRe1_w (by decide +kernel))
def F21_0 : Nat → Int → zHC → Option zHC
  | 0, _, _ => none
  | n + 1, v1, h => if v1 ≤ (h 328 0 0) then F21_1 v1 h else zG (0 ≤ (h 328 0 0) ∧ (h 328 0 0) < 940) ((F23 (h 320 0 (h 328 0 0))).bind fun r1 => if r1 = 0 then F21_1 v1 h else (F21_0 n) v1 (hset h 328 0 0 (wadd (h 328 0 0) 1)))
set_option maxRecDepth 100000 in
theorem T21_0 {spec : zRn zH2} {hm : zHM} {o : Int → Int} {d : Nat} (hd : 2 ≤ d) : ∀ (n : Nat) (v1 : Int) (h : zHC) (v : zHC), F21_0 n v1 h = some v → zFin 0 (fun _ => 0) (zRu2 spec d) 21 none (v, hm, o) (12, [some (15, 0), some (0, v1)], [], (h, hm, o)) := by
  intro n
  induction n with
  | zero => intro v1 h v e; unfold F21_0 at e; cases e
  | succ n hk0 =>
    intro v1 h v e
    unfold F21_0 at e
    rcases zI_s e with ⟨q1, e⟩ | ⟨q1, e⟩
    · refine zF_blk (m := []) (d := 1) (b := B21_4) (gs := [v1 ≤ (h 328 0 0)]) (c' := (48, [some (15, 0), some (0, v1)], [], (h, hm, o))) K21_4 rfl ⟨q1, trivial⟩ ?_
      exact T21_1 hd v1 h _ e
    · refine zF_blk (m := []) (d := 0) (b := B21_4) (gs := [¬ (v1 ≤ (h 328 0 0))]) (c' := (20, [some (15, 0), some (0, v1)], [], (h, hm, o))) K21_4 rfl ⟨q1, trivial⟩ ?_
      obtain ⟨q2, e⟩ := zG_s e
      obtain ⟨r1, q3, e⟩ := zB_s e
      refine zF_blk (m := []) (d := 0) (b := B21_1) (gs := [0 ≤ (h 328 0 0) ∧ (h 328 0 0) < 940]) (c' := (29, [some (15, 0), some (0, v1)], [(0, (h 320 0 (h 328 0 0)))], (h, hm, o))) K21_1 rfl ⟨q2, trivial⟩ ?_
      refine zF_call (k := 23) (cl := 5) (n := 1) (i := .invokestatic 63) (args := [(0, (h 320 0 (h 328 0 0)))]) (rest := []) (g1 := (h, hm, o)) (r1 := some (0, r1)) (zCk1_w (by decide +kernel)) rfl rfl rfl (st' := [(0, r1)]) rfl (S23 (Nat.le_trans (by decide) hd) (h 320 0 (h 328 0 0)) h _ q3) ?_
      rcases zI_s e with ⟨q4, e⟩ | ⟨q4, e⟩
      · refine zF_blk (m := []) (d := 1) (b := B21_3) (gs := [r1 = 0]) (c' := (48, [some (15, 0), some (0, v1)], [], (h, hm, o))) K21_3 rfl ⟨q4, trivial⟩ ?_
        exact T21_1 hd v1 h _ e
      · refine zF_blk (m := []) (d := 0) (b := B21_3) (gs := [¬ (r1 = 0)]) (c' := (35, [some (15, 0), some (0, v1)], [], (h, hm, o))) K21_3 rfl ⟨q4, trivial⟩ ?_
        refine zF_blk (m := []) (d := 0) (b := B21_2) (gs := []) (c' := (12, [some (15, 0), some (0, v1)], [], ((hset h 328 0 0 (wadd (h 328 0 0) 1)), hm, o))) K21_2 rfl trivial ?_
        exact hk0 v1 (hset h 328 0 0 (wadd (h 328 0 0) 1)) _ e
/-- EchoVale$Reader.step()V -/
def F21 (h : zHC) : Option zHC := F21_0 zFu (if (h 329 0 0) < (h 321 0 0) then (h 329 0 0) else (h 321 0 0)) h
set_option maxRecDepth 100000 in
theorem S21 {spec : zRn zH2} {hm : zHM} {o : Int → Int} {d : Nat} (hd : 3 ≤ d) (h : zHC) (v : zHC) (e : F21 h = some v) : zRu2 spec d 21 [(15, 0)] (h, hm, o) none (v, hm, o) := by
  refine zF_in (D := 2) (mx := 2) (L := [some (15, 0), none]) (by decide +kernel) rfl rfl hd (fun d hd => ?_)
  unfold F21 at e
  refine zF_blk (m := []) (d := 0) (b := B21_0) (gs := []) (c' := (12, [some (15, 0), some (0, (if (h 329 0 0) < (h 321 0 0) then (h 329 0 0) else (h 321 0 0)))], [], (h, hm, o))) K21_0 rfl trivial ?_
  exact T21_0 hd zFu (if (h 329 0 0) < (h 321 0 0) then (h 329 0 0) else (h 321 0 0)) h _ e
noncomputable def B20_0 : List zRow := [(0, .aload_n 0, 1, (0, 0, 0)), (1, .iload_n 1, 1, (0, 0, 0)), (2, .putfield 42, 3, (5, 9, 0)), (5, .aload_n 0, 1, (0, 0, 0)), (6, .iconst 0, 1, (0, 0, 0)), (7, .putfield 45, 3, (5, 8, 0)), (10, .aload_n 0, 1, (0, 0, 0)), (11, .iconst 0, 1, (0, 0, 0)), (12, .putfield 48, 3, (5, 2, 0)), (15, .aload_n 0, 1, (0, 0, 0)), (16, .iconst 0, 1, (0, 0, 0)), (17, .putfield 51, 3, (5, 3, 0)), (20, .aload_n 0, 1, (0, 0, 0))]
theorem K20_0 : zRk 20 B20_0 = true := zRw_ok (by decide +kernel)
/-- EchoVale$Reader.open(I)V -/
def F20 (v1 : Int) (h : zHC) : Option zHC := (F21 (hset (hset (hset (hset h 329 0 0 v1) 328 0 0 0) 322 0 0 0) 323 0 0 0)).bind fun r1 => some r1
set_option maxRecDepth 100000 in
theorem S20 {spec : zRn zH2} {hm : zHM} {o : Int → Int} {d : Nat} (hd : 4 ≤ d) (v1 : Int) (h : zHC) (v : zHC) (e : F20 v1 h = some v) : zRu2 spec d 20 [(15, 0), (0, v1)] (h, hm, o) none (v, hm, o) := by
  refine zF_in (D := 3) (mx := 2) (L := [some (15, 0), some (0, v1)]) (by decide +kernel) rfl rfl hd (fun d hd => ?_)
  unfold F20 at e
  obtain ⟨r1, q1, e⟩ := zB_s e
  refine zF_blk (m := []) (d := 0) (b := B20_0) (gs := []) (c' := (21, [some (15, 0), some (0, v1)], [(15, 0)], ((hset (hset (hset (hset h 329 0 0 v1) 328 0 0 0) 322 0 0 0) 323 0 0 0), hm, o))) K20_0 rfl trivial ?_
  refine zF_call (k := 21) (cl := 5) (n := 1) (i := .invokevirtual 54) (args := [(15, 0)]) (rest := []) (g1 := (r1, hm, o)) (r1 := none) (zCk1_w (by decide +kernel)) rfl rfl rfl (st' := []) rfl (S21 (Nat.le_trans (by decide) hd)  (hset (hset (hset (hset h 329 0 0 v1) 328 0 0 0) 322 0 0 0) 323 0 0 0) _ q1) ?_
  obtain rfl := Option.some.inj e
  exact zF_rv (zRe1_w (by decide +kernel))
noncomputable def B29_0 : List zRow := [(22, .iconst 0, 1, (0, 0, 0))]
theorem K29_0 : zRk 29 B29_0 = true := zRw_ok (by decide +kernel)
noncomputable def B29_1 : List zRow := [(18, .iconst 1, 1, (0, 0, 0)), (19, .goto 4, 3, (0, 0, 0))]
theorem K29_1 : zRk 29 B29_1 = true := zRw_ok (by decide +kernel)
noncomputable def B29_2 : List zRow := [(7, .aload_n 0, 1, (0, 0, 0)), (8, .getfield 39, 3, (5, 1, 0)), (11, .aload_n 0, 1, (0, 0, 0)), (12, .getfield 42, 3, (5, 9, 0)), (15, .if_icmp .gt 7, 3, (0, 0, 0))]
theorem K29_2 : zRk 29 B29_2 = true := zRw_ok (by decide +kernel)
noncomputable def B29_3 : List zRow := [(0, .aload_n 0, 1, (0, 0, 0)), (1, .getfield 70, 3, (5, 4, 0)), (4, .ifCond .ne 18, 3, (0, 0, 0))]
theorem K29_3 : zRk 29 B29_3 = true := zRw_ok (by decide +kernel)
/-- EchoVale$Reader.isAtEnd()Z -/
def F29 (h : zHC) : Option Int := if ¬ (h 324 0 0) = 0 then some 0 else if (h 329 0 0) < (h 321 0 0) then some 0 else some 1
set_option maxRecDepth 100000 in
theorem S29 {spec : zRn zH2} {hm : zHM} {o : Int → Int} {d : Nat} (hd : 1 ≤ d) (h : zHC) (v : Int) (e : F29 h = some v) : zRu2 spec d 29 [(15, 0)] (h, hm, o) (some (0, v)) (h, hm, o) := by
  refine zF_in (D := 0) (mx := 1) (L := [some (15, 0)]) (by decide +kernel) rfl rfl hd (fun d hd => ?_)
  unfold F29 at e
  rcases zI_s e with ⟨q1, e⟩ | ⟨q1, e⟩
  · refine zF_blk (m := []) (d := 1) (b := B29_3) (gs := [¬ (h 324 0 0) = 0]) (c' := (22, [some (15, 0)], [], (h, hm, o))) K29_3 rfl ⟨q1, trivial⟩ ?_
    refine zF_blk (m := []) (d := 0) (b := B29_0) (gs := []) (c' := (23, [some (15, 0)], [(0, 0)], (h, hm, o))) K29_0 rfl trivial ?_
    obtain rfl := Option.some.inj e
    exact zF_rb (zRe1_w (by decide +kernel)) (Or.inl rfl)
  · refine zF_blk (m := []) (d := 0) (b := B29_3) (gs := [¬ (¬ (h 324 0 0) = 0)]) (c' := (7, [some (15, 0)], [], (h, hm, o))) K29_3 rfl ⟨q1, trivial⟩ ?_
    rcases zI_s e with ⟨q2, e⟩ | ⟨q2, e⟩
    · refine zF_blk (m := []) (d := 1) (b := B29_2) (gs := [(h 329 0 0) < (h 321 0 0)]) (c' := (22, [some (15, 0)], [], (h, hm, o))) K29_2 rfl ⟨q2, trivial⟩ ?_
      refine zF_blk (m := []) (d := 0) (b := B29_0) (gs := []) (c' := (23, [some (15, 0)], [(0, 0)], (h, hm, o))) K29_0 rfl trivial ?_
      obtain rfl := Option.some.inj e
      exact zF_rb (zRe1_w (by decide +kernel)) (Or.inl rfl)
    · refine zF_blk (m := []) (d := 0) (b := B29_2) (gs := [¬ ((h 329 0 0) < (h 321 0 0))]) (c' := (18, [some (15, 0)], [], (h, hm, o))) K29_2 rfl ⟨q2, trivial⟩ ?_
      refine zF_blk (m := []) (d := 0) (b := B29_1) (gs := []) (c' := (23, [some (15, 0)], [(0, 1)], (h, hm, o))) K29_1 rfl trivial ?_
      obtain rfl := Option.some.inj e
      exact zF_rb (zRe1_w (by decide +kernel)) (Or.inr rfl)
noncomputable def B31_0 : List zRow := [(0, .aload_n 0, 1, (0, 0, 0)), (1, .iload_n 1, 1, (0, 0, 0)), (2, .putfield 48, 3, (5, 2, 0)), (5, .aload_n 0, 1, (0, 0, 0)), (6, .aload_n 0, 1, (0, 0, 0)), (7, .getfield 67, 3, (5, 5, 0)), (10, .putfield 51, 3, (5, 3, 0)), (13, .iconst 0, 1, (0, 0, 0))]
theorem K31_0 : zRk 31 B31_0 = true := zRw_ok (by decide +kernel)
/-- EchoVale$Reader.refuse(I)Z -/
def F31 (v1 : Int) (h : zHC) : Option (Int × zHC) := some (0, (hset (hset h 322 0 0 v1) 323 0 0 (h 325 0 0)))
set_option maxRecDepth 100000 in
theorem S31 {spec : zRn zH2} {hm : zHM} {o : Int → Int} {d : Nat} (hd : 1 ≤ d) (v1 : Int) (h : zHC) (v : (Int × zHC)) (e : F31 v1 h = some v) : zRu2 spec d 31 [(15, 0), (0, v1)] (h, hm, o) (some (0, v.1)) (v.2, hm, o) := by
  refine zF_in (D := 0) (mx := 2) (L := [some (15, 0), some (0, v1)]) (by decide +kernel) rfl rfl hd (fun d hd => ?_)
  unfold F31 at e
  refine zF_blk (m := []) (d := 0) (b := B31_0) (gs := []) (c' := (14, [some (15, 0), some (0, v1)], [(0, 0)], ((hset (hset h 322 0 0 v1) 323 0 0 (h 325 0 0)), hm, o))) K31_0 rfl trivial ?_
  exact zF_rbC (zRe1_w (by decide +kernel)) (Or.inl rfl) e
noncomputable def B33_0 : List zRow := [(22, .aload_n 0, 1, (0, 0, 0)), (23, .getfield 82, 3, (5, 6, 0)), (26, .iload_n 2, 1, (0, 0, 0)), (27, .if_icmp .le 11, 3, (0, 0, 0))]
theorem K33_0 : zRk 33 B33_0 = true := zRw_ok (by decide +kernel)
noncomputable def B33_1 : List zRow := [(14, .aload_n 0, 1, (0, 0, 0)), (15, .getfield 82, 3, (5, 6, 0)), (18, .iload_n 1, 1, (0, 0, 0)), (19, .if_icmp .lt 11, 3, (0, 0, 0))]
theorem K33_1 : zRk 33 B33_1 = true := zRw_ok (by decide +kernel)
noncomputable def B33_2 : List zRow := [(8, .aload_n 0, 1, (0, 0, 0)), (9, .iconst 1, 1, (0, 0, 0))]
theorem K33_2 : zRk 33 B33_2 = true := zRw_ok (by decide +kernel)
noncomputable def B33_3 : List zRow := [(0, .aload_n 0, 1, (0, 0, 0)), (1, .getfield 70, 3, (5, 4, 0)), (4, .iconst 4, 1, (0, 0, 0)), (5, .if_icmp .eq 9, 3, (0, 0, 0))]
theorem K33_3 : zRk 33 B33_3 = true := zRw_ok (by decide +kernel)
noncomputable def B33_4 : List zRow := [(38, .iconst 1, 1, (0, 0, 0)), (39, .goto 4, 3, (0, 0, 0))]
theorem K33_4 : zRk 33 B33_4 = true := zRw_ok (by decide +kernel)
noncomputable def B33_5 : List zRow := [(30, .aload_n 0, 1, (0, 0, 0)), (31, .iconst 2, 1, (0, 0, 0))]
theorem K33_5 : zRk 33 B33_5 = true := zRw_ok (by decide +kernel)
noncomputable def B33_6 : List zRow := [(42, .iconst 0, 1, (0, 0, 0))]
theorem K33_6 : zRk 33 B33_6 = true := zRw_ok (by decide +kernel)
noncomputable def B33_7 : List zRow := [(35, .ifCond .eq 7, 3, (0, 0, 0))]
theorem K33_7 : zRk 33 B33_7 = true := zRw_ok (by decide +kernel)
def F33_1 (h : zHC) : Option (Int × zHC) := some (1, h)
set_option maxRecDepth 100000 in
theorem T33_1 {spec : zRn zH2} {hm : zHM} {o : Int → Int} {d : Nat} (hd : 1 ≤ d) (h : zHC) (v : (Int × zHC)) (e : F33_1 h = some v) : zFin 0 (fun _ => 0) (zRu2 spec d) 33 (some (0, v.1)) (v.2, hm, o) (38, [none, none, none], [], (h, hm, o)) := by
  unfold F33_1 at e
  refine zF_blk (m := []) (d := 0) (b := B33_4) (gs := []) (c' := (43, [none, none, none], [(0, 1)], (h, hm, o))) K33_4 rfl trivial ?_
  exact zF_rbC (zRe1_w (by decide +kernel)) (Or.inr rfl) e
def F33_0 (h : zHC) : Option (Int × zHC) := (F31 2 h).bind fun r1 => if r1.1 = 0 then some (0, r1.2) else F33_1 r1.2
set_option maxRecDepth 100000 in
theorem T33_0 {spec : zRn zH2} {hm : zHM} {o : Int → Int} {d : Nat} (hd : 1 ≤ d) (h : zHC) (v : (Int × zHC)) (e : F33_0 h = some v) : zFin 0 (fun _ => 0) (zRu2 spec d) 33 (some (0, v.1)) (v.2, hm, o) (30, [some (15, 0), none, none], [], (h, hm, o)) := by
  unfold F33_0 at e
  obtain ⟨r1, q1, e⟩ := zB_s e
  refine zF_blk (m := []) (d := 0) (b := B33_5) (gs := []) (c' := (32, [some (15, 0), none, none], [(0, 2), (15, 0)], (h, hm, o))) K33_5 rfl trivial ?_
  refine zF_call (k := 31) (cl := 5) (n := 2) (i := .invokevirtual 96) (args := [(15, 0), (0, 2)]) (rest := []) (g1 := (r1.2, hm, o)) (r1 := some (0, r1.1)) (zCk1_w (by decide +kernel)) rfl rfl rfl (st' := [(0, r1.1)]) rfl (S31 (Nat.le_trans (by decide) hd) 2 h _ q1) ?_
  rcases zI_s e with ⟨q2, e⟩ | ⟨q2, e⟩
  · refine zF_blk (m := []) (d := 1) (b := B33_7) (gs := [r1.1 = 0]) (c' := (42, [some (15, 0), none, none], [], (r1.2, hm, o))) K33_7 rfl ⟨q2, trivial⟩ ?_
    refine zF_blk (m := []) (d := 0) (b := B33_6) (gs := []) (c' := (43, [some (15, 0), none, none], [(0, 0)], (r1.2, hm, o))) K33_6 rfl trivial ?_
    exact zF_rbC (zRe1_w (by decide +kernel)) (Or.inl rfl) e
  · refine zF_blk (m := []) (d := 0) (b := B33_7) (gs := [¬ (r1.1 = 0)]) (c' := (38, [some (15, 0), none, none], [], (r1.2, hm, o))) K33_7 rfl ⟨q2, trivial⟩ ?_
    refine zF_blk (m := [false, false, false]) (d := 0) (b := []) (gs := []) (c' := (38, [none, none, none], [], (r1.2, hm, o))) rfl rfl trivial ?_
    exact T33_1 hd r1.2 _ e
/-- EchoVale$Reader.isNumber(II)Z -/
def F33 (v1 : Int) (v2 : Int) (h : zHC) : Option (Int × zHC) := if (h 324 0 0) = 4 then if (h 326 0 0) < v1 then F33_0 h else if (h 326 0 0) ≤ v2 then F33_1 h else F33_0 h else (F31 1 h).bind fun r1 => zG (r1.1 = 0 ∨ r1.1 = 1) (some (r1.1, r1.2))
set_option maxRecDepth 100000 in
theorem S33 {spec : zRn zH2} {hm : zHM} {o : Int → Int} {d : Nat} (hd : 2 ≤ d) (v1 : Int) (v2 : Int) (h : zHC) (v : (Int × zHC)) (e : F33 v1 v2 h = some v) : zRu2 spec d 33 [(15, 0), (0, v1), (0, v2)] (h, hm, o) (some (0, v.1)) (v.2, hm, o) := by
  refine zF_in (D := 1) (mx := 3) (L := [some (15, 0), some (0, v1), some (0, v2)]) (by decide +kernel) rfl rfl hd (fun d hd => ?_)
  unfold F33 at e
  rcases zI_s e with ⟨q1, e⟩ | ⟨q1, e⟩
  · refine zF_blk (m := []) (d := 1) (b := B33_3) (gs := [(h 324 0 0) = 4]) (c' := (14, [some (15, 0), some (0, v1), some (0, v2)], [], (h, hm, o))) K33_3 rfl ⟨q1, trivial⟩ ?_
    rcases zI_s e with ⟨q2, e⟩ | ⟨q2, e⟩
    · refine zF_blk (m := []) (d := 1) (b := B33_1) (gs := [(h 326 0 0) < v1]) (c' := (30, [some (15, 0), some (0, v1), some (0, v2)], [], (h, hm, o))) K33_1 rfl ⟨q2, trivial⟩ ?_
      refine zF_blk (m := [true, false, false]) (d := 0) (b := []) (gs := []) (c' := (30, [some (15, 0), none, none], [], (h, hm, o))) rfl rfl trivial ?_
      exact T33_0 hd h _ e
    · refine zF_blk (m := []) (d := 0) (b := B33_1) (gs := [¬ ((h 326 0 0) < v1)]) (c' := (22, [some (15, 0), some (0, v1), some (0, v2)], [], (h, hm, o))) K33_1 rfl ⟨q2, trivial⟩ ?_
      rcases zI_s e with ⟨q3, e⟩ | ⟨q3, e⟩
      · refine zF_blk (m := []) (d := 1) (b := B33_0) (gs := [(h 326 0 0) ≤ v2]) (c' := (38, [some (15, 0), some (0, v1), some (0, v2)], [], (h, hm, o))) K33_0 rfl ⟨q3, trivial⟩ ?_
        refine zF_blk (m := [false, false, false]) (d := 0) (b := []) (gs := []) (c' := (38, [none, none, none], [], (h, hm, o))) rfl rfl trivial ?_
        exact T33_1 hd h _ e
      · refine zF_blk (m := []) (d := 0) (b := B33_0) (gs := [¬ ((h 326 0 0) ≤ v2)]) (c' := (30, [some (15, 0), some (0, v1), some (0, v2)], [], (h, hm, o))) K33_0 rfl ⟨q3, trivial⟩ ?_
        refine zF_blk (m := [true, false, false]) (d := 0) (b := []) (gs := []) (c' := (30, [some (15, 0), none, none], [], (h, hm, o))) rfl rfl trivial ?_
        exact T33_0 hd h _ e
  · refine zF_blk (m := []) (d := 0) (b := B33_3) (gs := [¬ ((h 324 0 0) = 4)]) (c' := (8, [some (15, 0), some (0, v1), some (0, v2)], [], (h, hm, o))) K33_3 rfl ⟨q1, trivial⟩ ?_
    obtain ⟨r1, q4, e⟩ := zB_s e
    refine zF_blk (m := []) (d := 0) (b := B33_2) (gs := []) (c' := (10, [some (15, 0), some (0, v1), some (0, v2)], [(0, 1), (15, 0)], (h, hm, o))) K33_2 rfl trivial ?_
    refine zF_call (k := 31) (cl := 5) (n := 2) (i := .invokevirtual 96) (args := [(15, 0), (0, 1)]) (rest := []) (g1 := (r1.2, hm, o)) (r1 := some (0, r1.1)) (zCk1_w (by decide +kernel)) rfl rfl rfl (st' := [(0, r1.1)]) rfl (S31 (Nat.le_trans (by decide) hd) 1 h _ q4) ?_
    obtain ⟨q5, e⟩ := zG_s e
    exact zF_rbC (zRe1_w (by decide +kernel)) q5 e
noncomputable def B32_0 : List zRow := [(19, .aload_n 0, 1, (0, 0, 0)), (20, .getfield 18, 3, (10, 2, 23))]
theorem K32_0 : zRk 32 B32_0 = true := zRw_ok (by decide +kernel)
noncomputable def B32_1 : List zRow := [(26, .aload_n 0, 1, (0, 0, 0)), (27, .getfield 18, 3, (10, 2, 23)), (30, .iconst 2, 1, (0, 0, 0)), (31, .bipush 10, 2, (0, 0, 0))]
theorem K32_1 : zRk 32 B32_1 = true := zRw_ok (by decide +kernel)
noncomputable def B32_2 : List zRow := [(41, .aload_n 0, 1, (0, 0, 0)), (42, .getfield 18, 3, (10, 2, 23)), (45, .getfield 52, 3, (5, 6, 0)), (48, .istore_n 1, 1, (0, 0, 0)), (49, .aload_n 0, 1, (0, 0, 0)), (50, .getfield 18, 3, (10, 2, 23))]
theorem K32_2 : zRk 32 B32_2 = true := zRw_ok (by decide +kernel)
noncomputable def B32_3 : List zRow := [(56, .aload_n 0, 1, (0, 0, 0)), (57, .getfield 18, 3, (10, 2, 23)), (60, .iconst 2, 1, (0, 0, 0)), (61, .bipush 10, 2, (0, 0, 0))]
theorem K32_3 : zRk 32 B32_3 = true := zRw_ok (by decide +kernel)
noncomputable def B32_4 : List zRow := [(71, .aload_n 0, 1, (0, 0, 0)), (72, .getfield 12, 3, (10, 0, 167)), (75, .iload_n 1, 1, (0, 0, 0)), (76, .putfield 76, 3, (9, 0, 0)), (79, .aload_n 0, 1, (0, 0, 0)), (80, .getfield 12, 3, (10, 0, 167)), (83, .aload_n 0, 1, (0, 0, 0)), (84, .getfield 18, 3, (10, 2, 23)), (87, .getfield 52, 3, (5, 6, 0)), (90, .putfield 86, 3, (9, 1, 0)), (93, .aload_n 0, 1, (0, 0, 0)), (94, .getfield 18, 3, (10, 2, 23))]
theorem K32_4 : zRk 32 B32_4 = true := zRw_ok (by decide +kernel)
noncomputable def B32_5 : List zRow := [(100, .iconst 1, 1, (0, 0, 0))]
theorem K32_5 : zRk 32 B32_5 = true := zRw_ok (by decide +kernel)
noncomputable def B32_6 : List zRow := [(69, .iconst 0, 1, (0, 0, 0))]
theorem K32_6 : zRk 32 B32_6 = true := zRw_ok (by decide +kernel)
noncomputable def B32_7 : List zRow := [(66, .ifCond .ne 5, 3, (0, 0, 0))]
theorem K32_7 : zRk 32 B32_7 = true := zRw_ok (by decide +kernel)
noncomputable def B32_8 : List zRow := [(39, .iconst 0, 1, (0, 0, 0))]
theorem K32_8 : zRk 32 B32_8 = true := zRw_ok (by decide +kernel)
noncomputable def B32_9 : List zRow := [(36, .ifCond .ne 5, 3, (0, 0, 0))]
theorem K32_9 : zRk 32 B32_9 = true := zRw_ok (by decide +kernel)
noncomputable def B32_10 : List zRow := [(10, .aload_n 0, 1, (0, 0, 0)), (11, .getfield 18, 3, (10, 2, 23)), (14, .iconst 3, 1, (0, 0, 0))]
theorem K32_10 : zRk 32 B32_10 = true := zRw_ok (by decide +kernel)
noncomputable def B32_11 : List zRow := [(0, .aload_n 0, 1, (0, 0, 0)), (1, .getfield 12, 3, (10, 0, 167)), (4, .getfield 76, 3, (9, 0, 0)), (7, .ifCond .le 12, 3, (0, 0, 0))]
theorem K32_11 : zRk 32 B32_11 = true := zRw_ok (by decide +kernel)
/-- EchoVale$ValleyText.readLand()Z -/
def F32 (h : zHC) : Option (Int × zHC) := if (h 576 1 0) ≤ 0 then (F21 h).bind fun r1 => (F33 2 10 r1).bind fun r2 => if ¬ r2.1 = 0 then (F21 r2.2).bind fun r3 => (F33 2 10 r3).bind fun r4 => if ¬ r4.1 = 0 then (F21 (hset (hset r4.2 576 1 0 (r2.2 326 0 0)) 577 1 0 (r4.2 326 0 0))).bind fun r5 => some (1, r5) else some (0, r4.2) else some (0, r2.2) else (F31 3 h).bind fun r6 => zG (r6.1 = 0 ∨ r6.1 = 1) (some (r6.1, r6.2))
set_option maxRecDepth 100000 in
theorem S32 {spec : zRn zH2} {hm : zHM} {o : Int → Int} {d : Nat} (hd : 4 ≤ d) (h : zHC) (v : (Int × zHC)) (e : F32 h = some v) : zRu2 spec d 32 [(20, 0)] (h, hm, o) (some (0, v.1)) (v.2, hm, o) := by
  refine zF_in (D := 3) (mx := 2) (L := [some (20, 0), none]) (by decide +kernel) rfl rfl hd (fun d hd => ?_)
  unfold F32 at e
  rcases zI_s e with ⟨q1, e⟩ | ⟨q1, e⟩
  · refine zF_blk (m := []) (d := 1) (b := B32_11) (gs := [(h 576 1 0) ≤ 0]) (c' := (19, [some (20, 0), none], [], (h, hm, o))) K32_11 rfl ⟨q1, trivial⟩ ?_
    obtain ⟨r1, q2, e⟩ := zB_s e
    refine zF_blk (m := []) (d := 0) (b := B32_0) (gs := []) (c' := (23, [some (20, 0), none], [(15, 0)], (h, hm, o))) K32_0 rfl trivial ?_
    refine zF_call (k := 21) (cl := 5) (n := 1) (i := .invokevirtual 79) (args := [(15, 0)]) (rest := []) (g1 := (r1, hm, o)) (r1 := none) (zCk1_w (by decide +kernel)) rfl rfl rfl (st' := []) rfl (S21 (Nat.le_trans (by decide) hd)  h _ q2) ?_
    obtain ⟨r2, q3, e⟩ := zB_s e
    refine zF_blk (m := []) (d := 0) (b := B32_1) (gs := []) (c' := (33, [some (20, 0), none], [(0, 10), (0, 2), (15, 0)], (r1, hm, o))) K32_1 rfl trivial ?_
    refine zF_call (k := 33) (cl := 5) (n := 3) (i := .invokevirtual 82) (args := [(15, 0), (0, 2), (0, 10)]) (rest := []) (g1 := (r2.2, hm, o)) (r1 := some (0, r2.1)) (zCk1_w (by decide +kernel)) rfl rfl rfl (st' := [(0, r2.1)]) rfl (S33 (Nat.le_trans (by decide) hd) 2 10 r1 _ q3) ?_
    rcases zI_s e with ⟨q4, e⟩ | ⟨q4, e⟩
    · refine zF_blk (m := []) (d := 1) (b := B32_9) (gs := [¬ r2.1 = 0]) (c' := (41, [some (20, 0), none], [], (r2.2, hm, o))) K32_9 rfl ⟨q4, trivial⟩ ?_
      obtain ⟨r3, q5, e⟩ := zB_s e
      refine zF_blk (m := []) (d := 0) (b := B32_2) (gs := []) (c' := (53, [some (20, 0), some (0, (r2.2 326 0 0))], [(15, 0)], (r2.2, hm, o))) K32_2 rfl trivial ?_
      refine zF_call (k := 21) (cl := 5) (n := 1) (i := .invokevirtual 79) (args := [(15, 0)]) (rest := []) (g1 := (r3, hm, o)) (r1 := none) (zCk1_w (by decide +kernel)) rfl rfl rfl (st' := []) rfl (S21 (Nat.le_trans (by decide) hd)  r2.2 _ q5) ?_
      obtain ⟨r4, q6, e⟩ := zB_s e
      refine zF_blk (m := []) (d := 0) (b := B32_3) (gs := []) (c' := (63, [some (20, 0), some (0, (r2.2 326 0 0))], [(0, 10), (0, 2), (15, 0)], (r3, hm, o))) K32_3 rfl trivial ?_
      refine zF_call (k := 33) (cl := 5) (n := 3) (i := .invokevirtual 82) (args := [(15, 0), (0, 2), (0, 10)]) (rest := []) (g1 := (r4.2, hm, o)) (r1 := some (0, r4.1)) (zCk1_w (by decide +kernel)) rfl rfl rfl (st' := [(0, r4.1)]) rfl (S33 (Nat.le_trans (by decide) hd) 2 10 r3 _ q6) ?_
      rcases zI_s e with ⟨q7, e⟩ | ⟨q7, e⟩
      · refine zF_blk (m := []) (d := 1) (b := B32_7) (gs := [¬ r4.1 = 0]) (c' := (71, [some (20, 0), some (0, (r2.2 326 0 0))], [], (r4.2, hm, o))) K32_7 rfl ⟨q7, trivial⟩ ?_
        obtain ⟨r5, q8, e⟩ := zB_s e
        refine zF_blk (m := []) (d := 0) (b := B32_4) (gs := []) (c' := (97, [some (20, 0), some (0, (r2.2 326 0 0))], [(15, 0)], ((hset (hset r4.2 576 1 0 (r2.2 326 0 0)) 577 1 0 (r4.2 326 0 0)), hm, o))) K32_4 rfl trivial ?_
        refine zF_call (k := 21) (cl := 5) (n := 1) (i := .invokevirtual 79) (args := [(15, 0)]) (rest := []) (g1 := (r5, hm, o)) (r1 := none) (zCk1_w (by decide +kernel)) rfl rfl rfl (st' := []) rfl (S21 (Nat.le_trans (by decide) hd)  (hset (hset r4.2 576 1 0 (r2.2 326 0 0)) 577 1 0 (r4.2 326 0 0)) _ q8) ?_
        refine zF_blk (m := []) (d := 0) (b := B32_5) (gs := []) (c' := (101, [some (20, 0), some (0, (r2.2 326 0 0))], [(0, 1)], (r5, hm, o))) K32_5 rfl trivial ?_
        exact zF_rbC (zRe1_w (by decide +kernel)) (Or.inr rfl) e
      · refine zF_blk (m := []) (d := 0) (b := B32_7) (gs := [¬ (¬ r4.1 = 0)]) (c' := (69, [some (20, 0), some (0, (r2.2 326 0 0))], [], (r4.2, hm, o))) K32_7 rfl ⟨q7, trivial⟩ ?_
        refine zF_blk (m := []) (d := 0) (b := B32_6) (gs := []) (c' := (70, [some (20, 0), some (0, (r2.2 326 0 0))], [(0, 0)], (r4.2, hm, o))) K32_6 rfl trivial ?_
        exact zF_rbC (zRe1_w (by decide +kernel)) (Or.inl rfl) e
    · refine zF_blk (m := []) (d := 0) (b := B32_9) (gs := [¬ (¬ r2.1 = 0)]) (c' := (39, [some (20, 0), none], [], (r2.2, hm, o))) K32_9 rfl ⟨q4, trivial⟩ ?_
      refine zF_blk (m := []) (d := 0) (b := B32_8) (gs := []) (c' := (40, [some (20, 0), none], [(0, 0)], (r2.2, hm, o))) K32_8 rfl trivial ?_
      exact zF_rbC (zRe1_w (by decide +kernel)) (Or.inl rfl) e
  · refine zF_blk (m := []) (d := 0) (b := B32_11) (gs := [¬ ((h 576 1 0) ≤ 0)]) (c' := (10, [some (20, 0), none], [], (h, hm, o))) K32_11 rfl ⟨q1, trivial⟩ ?_
    obtain ⟨r6, q9, e⟩ := zB_s e
    refine zF_blk (m := []) (d := 0) (b := B32_10) (gs := []) (c' := (15, [some (20, 0), none], [(0, 3), (15, 0)], (h, hm, o))) K32_10 rfl trivial ?_
    refine zF_call (k := 31) (cl := 5) (n := 2) (i := .invokevirtual 49) (args := [(15, 0), (0, 3)]) (rest := []) (g1 := (r6.2, hm, o)) (r1 := some (0, r6.1)) (zCk1_w (by decide +kernel)) rfl rfl rfl (st' := [(0, r6.1)]) rfl (S31 (Nat.le_trans (by decide) hd) 3 h _ q9) ?_
    obtain ⟨q10, e⟩ := zG_s e
    exact zF_rbC (zRe1_w (by decide +kernel)) q10 e
noncomputable def B37_0 : List zRow := [(0, .iconst 0, 1, (0, 0, 0)), (1, .istore_n 3, 1, (0, 0, 0))]
theorem K37_0 : zRk 37 B37_0 = true := zRw_ok (by decide +kernel)
noncomputable def B37_1 : List zRow := [(29, .iconst (-1), 1, (0, 0, 0))]
theorem K37_1 : zRk 37 B37_1 = true := zRw_ok (by decide +kernel)
noncomputable def B37_2 : List zRow := [(23, .iinc 3 1, 3, (0, 0, 0)), (26, .goto (-24), 3, (0, 0, 0))]
theorem K37_2 : zRk 37 B37_2 = true := zRw_ok (by decide +kernel)
noncomputable def B37_3 : List zRow := [(21, .iload_n 3, 1, (0, 0, 0))]
theorem K37_3 : zRk 37 B37_3 = true := zRw_ok (by decide +kernel)
noncomputable def B37_4 : List zRow := [(10, .aload_n 0, 1, (0, 0, 0)), (11, .getfield 9, 3, (9, 7, 5505050)), (14, .iload_n 3, 1, (0, 0, 0)), (15, .laload, 1, (0, 0, 0)), (16, .lload_n 1, 1, (0, 0, 0)), (17, .lcmp, 1, (0, 0, 0)), (18, .ifCond .ne 5, 3, (0, 0, 0))]
theorem K37_4 : zRk 37 B37_4 = true := zRw_ok (by decide +kernel)
noncomputable def B37_5 : List zRow := [(2, .iload_n 3, 1, (0, 0, 0)), (3, .aload_n 0, 1, (0, 0, 0)), (4, .getfield 59, 3, (9, 2, 0)), (7, .if_icmp .ge 22, 3, (0, 0, 0))]
theorem K37_5 : zRk 37 B37_5 = true := zRw_ok (by decide +kernel)
def F37_0 (h : zHC) : Nat → Int → Int → Int → Option Int
  | 0, _, _, _ => none
  | n + 1, v0, v1, v3 => if (h 578 v0 0) ≤ v3 then some (-1) else zG (0 ≤ v3 ∧ v3 < 6) (if ¬ (qcmp (h 583 v0 v3) v1) = 0 then (F37_0 h n) v0 v1 (wadd v3 1) else some v3)
set_option maxRecDepth 100000 in
theorem T37_0 {spec : zRn zH2} {hm : zHM} {o : Int → Int} {d : Nat} (hd : 0 ≤ d) (h : zHC) : ∀ (n : Nat) (v0 : Int) (v1 : Int) (v3 : Int) (v : Int), F37_0 h n v0 v1 v3 = some v → zFin 0 (fun _ => 0) (zRu2 spec d) 37 (some (0, v)) (h, hm, o) (2, [some (19, v0), some (1, v1), none, some (0, v3)], [], (h, hm, o)) := by
  intro n
  induction n with
  | zero => intro v0 v1 v3 v e; unfold F37_0 at e; cases e
  | succ n hk0 =>
    intro v0 v1 v3 v e
    unfold F37_0 at e
    rcases zI_s e with ⟨q1, e⟩ | ⟨q1, e⟩
    · refine zF_blk (m := []) (d := 1) (b := B37_5) (gs := [(h 578 v0 0) ≤ v3]) (c' := (29, [some (19, v0), some (1, v1), none, some (0, v3)], [], (h, hm, o))) K37_5 rfl ⟨q1, trivial⟩ ?_
      refine zF_blk (m := []) (d := 0) (b := B37_1) (gs := []) (c' := (30, [some (19, v0), some (1, v1), none, some (0, v3)], [(0, (-1))], (h, hm, o))) K37_1 rfl trivial ?_
      obtain rfl := Option.some.inj e
      exact zF_ri (zRe1_w (by decide +kernel))
    · refine zF_blk (m := []) (d := 0) (b := B37_5) (gs := [¬ ((h 578 v0 0) ≤ v3)]) (c' := (10, [some (19, v0), some (1, v1), none, some (0, v3)], [], (h, hm, o))) K37_5 rfl ⟨q1, trivial⟩ ?_
      obtain ⟨q2, e⟩ := zG_s e
      rcases zI_s e with ⟨q3, e⟩ | ⟨q3, e⟩
      · refine zF_blk (m := []) (d := 1) (b := B37_4) (gs := [0 ≤ v3 ∧ v3 < 6, ¬ (qcmp (h 583 v0 v3) v1) = 0]) (c' := (23, [some (19, v0), some (1, v1), none, some (0, v3)], [], (h, hm, o))) K37_4 rfl ⟨q2, q3, trivial⟩ ?_
        refine zF_blk (m := []) (d := 0) (b := B37_2) (gs := []) (c' := (2, [some (19, v0), some (1, v1), none, some (0, (wadd v3 1))], [], (h, hm, o))) K37_2 rfl trivial ?_
        exact hk0 v0 v1 (wadd v3 1) _ e
      · refine zF_blk (m := []) (d := 0) (b := B37_4) (gs := [0 ≤ v3 ∧ v3 < 6, ¬ (¬ (qcmp (h 583 v0 v3) v1) = 0)]) (c' := (21, [some (19, v0), some (1, v1), none, some (0, v3)], [], (h, hm, o))) K37_4 rfl ⟨q2, q3, trivial⟩ ?_
        refine zF_blk (m := []) (d := 0) (b := B37_3) (gs := []) (c' := (22, [some (19, v0), some (1, v1), none, some (0, v3)], [(0, v3)], (h, hm, o))) K37_3 rfl trivial ?_
        obtain rfl := Option.some.inj e
        exact zF_ri (zRe1_w (by decide +kernel))
/-- EchoVale$Valley.cliffNamed(J)I -/
def F37 (v0 : Int) (v1 : Int) (h : zHC) : Option Int := F37_0 h zFu v0 v1 0
set_option maxRecDepth 100000 in
theorem S37 {spec : zRn zH2} {hm : zHM} {o : Int → Int} {d : Nat} (hd : 1 ≤ d) (v0 : Int) (v1 : Int) (h : zHC) (v : Int) (e : F37 v0 v1 h = some v) : zRu2 spec d 37 [(19, v0), (1, v1)] (h, hm, o) (some (0, v)) (h, hm, o) := by
  refine zF_in (D := 0) (mx := 4) (L := [some (19, v0), some (1, v1), none, none]) (by decide +kernel) rfl rfl hd (fun d hd => ?_)
  unfold F37 at e
  refine zF_blk (m := []) (d := 0) (b := B37_0) (gs := []) (c' := (2, [some (19, v0), some (1, v1), none, some (0, 0)], [], (h, hm, o))) K37_0 rfl trivial ?_
  exact T37_0 hd h zFu v0 v1 0 _ e
noncomputable def B38_0 : List zRow := [(0, .iconst 0, 1, (0, 0, 0)), (1, .istore_n 3, 1, (0, 0, 0))]
theorem K38_0 : zRk 38 B38_0 = true := zRw_ok (by decide +kernel)
noncomputable def B38_1 : List zRow := [(29, .iconst (-1), 1, (0, 0, 0))]
theorem K38_1 : zRk 38 B38_1 = true := zRw_ok (by decide +kernel)
noncomputable def B38_2 : List zRow := [(23, .iinc 3 1, 3, (0, 0, 0)), (26, .goto (-24), 3, (0, 0, 0))]
theorem K38_2 : zRk 38 B38_2 = true := zRw_ok (by decide +kernel)
noncomputable def B38_3 : List zRow := [(21, .iload_n 3, 1, (0, 0, 0))]
theorem K38_3 : zRk 38 B38_3 = true := zRw_ok (by decide +kernel)
noncomputable def B38_4 : List zRow := [(10, .aload_n 0, 1, (0, 0, 0)), (11, .getfield 25, 3, (9, 11, 5505050)), (14, .iload_n 3, 1, (0, 0, 0)), (15, .laload, 1, (0, 0, 0)), (16, .lload_n 1, 1, (0, 0, 0)), (17, .lcmp, 1, (0, 0, 0)), (18, .ifCond .ne 5, 3, (0, 0, 0))]
theorem K38_4 : zRk 38 B38_4 = true := zRw_ok (by decide +kernel)
noncomputable def B38_5 : List zRow := [(2, .iload_n 3, 1, (0, 0, 0)), (3, .aload_n 0, 1, (0, 0, 0)), (4, .getfield 62, 3, (9, 3, 0)), (7, .if_icmp .ge 22, 3, (0, 0, 0))]
theorem K38_5 : zRk 38 B38_5 = true := zRw_ok (by decide +kernel)
def F38_0 (h : zHC) : Nat → Int → Int → Int → Option Int
  | 0, _, _, _ => none
  | n + 1, v0, v1, v3 => if (h 579 v0 0) ≤ v3 then some (-1) else zG (0 ≤ v3 ∧ v3 < 6) (if ¬ (qcmp (h 587 v0 v3) v1) = 0 then (F38_0 h n) v0 v1 (wadd v3 1) else some v3)
set_option maxRecDepth 100000 in
theorem T38_0 {spec : zRn zH2} {hm : zHM} {o : Int → Int} {d : Nat} (hd : 0 ≤ d) (h : zHC) : ∀ (n : Nat) (v0 : Int) (v1 : Int) (v3 : Int) (v : Int), F38_0 h n v0 v1 v3 = some v → zFin 0 (fun _ => 0) (zRu2 spec d) 38 (some (0, v)) (h, hm, o) (2, [some (19, v0), some (1, v1), none, some (0, v3)], [], (h, hm, o)) := by
  intro n
  induction n with
  | zero => intro v0 v1 v3 v e; unfold F38_0 at e; cases e
  | succ n hk0 =>
    intro v0 v1 v3 v e
    unfold F38_0 at e
    rcases zI_s e with ⟨q1, e⟩ | ⟨q1, e⟩
    · refine zF_blk (m := []) (d := 1) (b := B38_5) (gs := [(h 579 v0 0) ≤ v3]) (c' := (29, [some (19, v0), some (1, v1), none, some (0, v3)], [], (h, hm, o))) K38_5 rfl ⟨q1, trivial⟩ ?_
      refine zF_blk (m := []) (d := 0) (b := B38_1) (gs := []) (c' := (30, [some (19, v0), some (1, v1), none, some (0, v3)], [(0, (-1))], (h, hm, o))) K38_1 rfl trivial ?_
      obtain rfl := Option.some.inj e
      exact zF_ri (zRe1_w (by decide +kernel))
    · refine zF_blk (m := []) (d := 0) (b := B38_5) (gs := [¬ ((h 579 v0 0) ≤ v3)]) (c' := (10, [some (19, v0), some (1, v1), none, some (0, v3)], [], (h, hm, o))) K38_5 rfl ⟨q1, trivial⟩ ?_
      obtain ⟨q2, e⟩ := zG_s e
      rcases zI_s e with ⟨q3, e⟩ | ⟨q3, e⟩
      · refine zF_blk (m := []) (d := 1) (b := B38_4) (gs := [0 ≤ v3 ∧ v3 < 6, ¬ (qcmp (h 587 v0 v3) v1) = 0]) (c' := (23, [some (19, v0), some (1, v1), none, some (0, v3)], [], (h, hm, o))) K38_4 rfl ⟨q2, q3, trivial⟩ ?_
        refine zF_blk (m := []) (d := 0) (b := B38_2) (gs := []) (c' := (2, [some (19, v0), some (1, v1), none, some (0, (wadd v3 1))], [], (h, hm, o))) K38_2 rfl trivial ?_
        exact hk0 v0 v1 (wadd v3 1) _ e
      · refine zF_blk (m := []) (d := 0) (b := B38_4) (gs := [0 ≤ v3 ∧ v3 < 6, ¬ (¬ (qcmp (h 587 v0 v3) v1) = 0)]) (c' := (21, [some (19, v0), some (1, v1), none, some (0, v3)], [], (h, hm, o))) K38_4 rfl ⟨q2, q3, trivial⟩ ?_
        refine zF_blk (m := []) (d := 0) (b := B38_3) (gs := []) (c' := (22, [some (19, v0), some (1, v1), none, some (0, v3)], [(0, v3)], (h, hm, o))) K38_3 rfl trivial ?_
        obtain rfl := Option.some.inj e
        exact zF_ri (zRe1_w (by decide +kernel))
/-- EchoVale$Valley.personNamed(J)I -/
def F38 (v0 : Int) (v1 : Int) (h : zHC) : Option Int := F38_0 h zFu v0 v1 0
set_option maxRecDepth 100000 in
theorem S38 {spec : zRn zH2} {hm : zHM} {o : Int → Int} {d : Nat} (hd : 1 ≤ d) (v0 : Int) (v1 : Int) (h : zHC) (v : Int) (e : F38 v0 v1 h = some v) : zRu2 spec d 38 [(19, v0), (1, v1)] (h, hm, o) (some (0, v)) (h, hm, o) := by
  refine zF_in (D := 0) (mx := 4) (L := [some (19, v0), some (1, v1), none, none]) (by decide +kernel) rfl rfl hd (fun d hd => ?_)
  unfold F38 at e
  refine zF_blk (m := []) (d := 0) (b := B38_0) (gs := []) (c' := (2, [some (19, v0), some (1, v1), none, some (0, 0)], [], (h, hm, o))) K38_0 rfl trivial ?_
  exact T38_0 hd h zFu v0 v1 0 _ e
noncomputable def B36_0 : List zRow := [(0, .aload_n 0, 1, (0, 0, 0)), (1, .lload_n 1, 1, (0, 0, 0))]
theorem K36_0 : zRk 36 B36_0 = true := zRw_ok (by decide +kernel)
noncomputable def B36_1 : List zRow := [(9, .aload_n 0, 1, (0, 0, 0)), (10, .lload_n 1, 1, (0, 0, 0))]
theorem K36_1 : zRk 36 B36_1 = true := zRw_ok (by decide +kernel)
noncomputable def B36_2 : List zRow := [(22, .iconst 0, 1, (0, 0, 0))]
theorem K36_2 : zRk 36 B36_2 = true := zRw_ok (by decide +kernel)
noncomputable def B36_3 : List zRow := [(14, .iconst (-1), 1, (0, 0, 0)), (15, .if_icmp .eq 7, 3, (0, 0, 0))]
theorem K36_3 : zRk 36 B36_3 = true := zRw_ok (by decide +kernel)
noncomputable def B36_4 : List zRow := [(5, .iconst (-1), 1, (0, 0, 0)), (6, .if_icmp .ne 12, 3, (0, 0, 0))]
theorem K36_4 : zRk 36 B36_4 = true := zRw_ok (by decide +kernel)
noncomputable def B36_5 : List zRow := [(18, .iconst 1, 1, (0, 0, 0)), (19, .goto 4, 3, (0, 0, 0))]
theorem K36_5 : zRk 36 B36_5 = true := zRw_ok (by decide +kernel)
def F36_0 (h : zHC) : Option Int := some 1
set_option maxRecDepth 100000 in
theorem T36_0 {spec : zRn zH2} {hm : zHM} {o : Int → Int} {d : Nat} (hd : 1 ≤ d) (h : zHC) (v : Int) (e : F36_0 h = some v) : zFin 0 (fun _ => 0) (zRu2 spec d) 36 (some (0, v)) (h, hm, o) (18, [none, none, none], [], (h, hm, o)) := by
  unfold F36_0 at e
  refine zF_blk (m := []) (d := 0) (b := B36_5) (gs := []) (c' := (23, [none, none, none], [(0, 1)], (h, hm, o))) K36_5 rfl trivial ?_
  obtain rfl := Option.some.inj e
  exact zF_rb (zRe1_w (by decide +kernel)) (Or.inr rfl)
/-- EchoVale$Valley.isTaken(J)Z -/
def F36 (v0 : Int) (v1 : Int) (h : zHC) : Option Int := (F37 v0 v1 h).bind fun r1 => if ¬ r1 = (-1) then F36_0 h else (F38 v0 v1 h).bind fun r2 => if r2 = (-1) then some 0 else F36_0 h
set_option maxRecDepth 100000 in
theorem S36 {spec : zRn zH2} {hm : zHM} {o : Int → Int} {d : Nat} (hd : 2 ≤ d) (v0 : Int) (v1 : Int) (h : zHC) (v : Int) (e : F36 v0 v1 h = some v) : zRu2 spec d 36 [(19, v0), (1, v1)] (h, hm, o) (some (0, v)) (h, hm, o) := by
  refine zF_in (D := 1) (mx := 3) (L := [some (19, v0), some (1, v1), none]) (by decide +kernel) rfl rfl hd (fun d hd => ?_)
  unfold F36 at e
  obtain ⟨r1, q1, e⟩ := zB_s e
  refine zF_blk (m := []) (d := 0) (b := B36_0) (gs := []) (c' := (2, [some (19, v0), some (1, v1), none], [(1, v1), (19, v0)], (h, hm, o))) K36_0 rfl trivial ?_
  refine zF_call (k := 37) (cl := 9) (n := 2) (i := .invokevirtual 86) (args := [(19, v0), (1, v1)]) (rest := []) (g1 := (h, hm, o)) (r1 := some (0, r1)) (zCk1_w (by decide +kernel)) rfl rfl rfl (st' := [(0, r1)]) rfl (S37 (Nat.le_trans (by decide) hd) v0 v1 h _ q1) ?_
  rcases zI_s e with ⟨q2, e⟩ | ⟨q2, e⟩
  · refine zF_blk (m := []) (d := 1) (b := B36_4) (gs := [¬ r1 = (-1)]) (c' := (18, [some (19, v0), some (1, v1), none], [], (h, hm, o))) K36_4 rfl ⟨q2, trivial⟩ ?_
    refine zF_blk (m := [false, false, false]) (d := 0) (b := []) (gs := []) (c' := (18, [none, none, none], [], (h, hm, o))) rfl rfl trivial ?_
    exact T36_0 hd h _ e
  · refine zF_blk (m := []) (d := 0) (b := B36_4) (gs := [¬ (¬ r1 = (-1))]) (c' := (9, [some (19, v0), some (1, v1), none], [], (h, hm, o))) K36_4 rfl ⟨q2, trivial⟩ ?_
    obtain ⟨r2, q3, e⟩ := zB_s e
    refine zF_blk (m := []) (d := 0) (b := B36_1) (gs := []) (c' := (11, [some (19, v0), some (1, v1), none], [(1, v1), (19, v0)], (h, hm, o))) K36_1 rfl trivial ?_
    refine zF_call (k := 38) (cl := 9) (n := 2) (i := .invokevirtual 90) (args := [(19, v0), (1, v1)]) (rest := []) (g1 := (h, hm, o)) (r1 := some (0, r2)) (zCk1_w (by decide +kernel)) rfl rfl rfl (st' := [(0, r2)]) rfl (S38 (Nat.le_trans (by decide) hd) v0 v1 h _ q3) ?_
    rcases zI_s e with ⟨q4, e⟩ | ⟨q4, e⟩
    · refine zF_blk (m := []) (d := 1) (b := B36_3) (gs := [r2 = (-1)]) (c' := (22, [some (19, v0), some (1, v1), none], [], (h, hm, o))) K36_3 rfl ⟨q4, trivial⟩ ?_
      refine zF_blk (m := []) (d := 0) (b := B36_2) (gs := []) (c' := (23, [some (19, v0), some (1, v1), none], [(0, 0)], (h, hm, o))) K36_2 rfl trivial ?_
      obtain rfl := Option.some.inj e
      exact zF_rb (zRe1_w (by decide +kernel)) (Or.inl rfl)
    · refine zF_blk (m := []) (d := 0) (b := B36_3) (gs := [¬ (r2 = (-1))]) (c' := (18, [some (19, v0), some (1, v1), none], [], (h, hm, o))) K36_3 rfl ⟨q4, trivial⟩ ?_
      refine zF_blk (m := [false, false, false]) (d := 0) (b := []) (gs := []) (c' := (18, [none, none, none], [], (h, hm, o))) rfl rfl trivial ?_
      exact T36_0 hd h _ e
noncomputable def B35_0 : List zRow := [(20, .aload_n 0, 1, (0, 0, 0)), (21, .getfield 12, 3, (10, 0, 167)), (24, .aload_n 0, 1, (0, 0, 0)), (25, .getfield 18, 3, (10, 2, 23)), (28, .getfield 95, 3, (5, 7, 1))]
theorem K35_0 : zRk 35 B35_0 = true := zRw_ok (by decide +kernel)
noncomputable def B35_1 : List zRow := [(37, .aload_n 0, 1, (0, 0, 0)), (38, .getfield 18, 3, (10, 2, 23)), (41, .iconst 3, 1, (0, 0, 0))]
theorem K35_1 : zRk 35 B35_1 = true := zRw_ok (by decide +kernel)
noncomputable def B35_2 : List zRow := [(52, .iconst 0, 1, (0, 0, 0))]
theorem K35_2 : zRk 35 B35_2 = true := zRw_ok (by decide +kernel)
noncomputable def B35_3 : List zRow := [(45, .ifCond .eq 7, 3, (0, 0, 0))]
theorem K35_3 : zRk 35 B35_3 = true := zRw_ok (by decide +kernel)
noncomputable def B35_4 : List zRow := [(34, .ifCond .eq 14, 3, (0, 0, 0))]
theorem K35_4 : zRk 35 B35_4 = true := zRw_ok (by decide +kernel)
noncomputable def B35_5 : List zRow := [(11, .aload_n 0, 1, (0, 0, 0)), (12, .getfield 18, 3, (10, 2, 23)), (15, .iconst 1, 1, (0, 0, 0))]
theorem K35_5 : zRk 35 B35_5 = true := zRw_ok (by decide +kernel)
noncomputable def B35_6 : List zRow := [(0, .aload_n 0, 1, (0, 0, 0)), (1, .getfield 18, 3, (10, 2, 23)), (4, .getfield 46, 3, (5, 4, 0)), (7, .iconst 2, 1, (0, 0, 0)), (8, .if_icmp .eq 12, 3, (0, 0, 0))]
theorem K35_6 : zRk 35 B35_6 = true := zRw_ok (by decide +kernel)
noncomputable def B35_7 : List zRow := [(48, .iconst 1, 1, (0, 0, 0)), (49, .goto 4, 3, (0, 0, 0))]
theorem K35_7 : zRk 35 B35_7 = true := zRw_ok (by decide +kernel)
def F35_0 (h : zHC) : Option (Int × zHC) := some (1, h)
set_option maxRecDepth 100000 in
theorem T35_0 {spec : zRn zH2} {hm : zHM} {o : Int → Int} {d : Nat} (hd : 2 ≤ d) (h : zHC) (v : (Int × zHC)) (e : F35_0 h = some v) : zFin 0 (fun _ => 0) (zRu2 spec d) 35 (some (0, v.1)) (v.2, hm, o) (48, [none], [], (h, hm, o)) := by
  unfold F35_0 at e
  refine zF_blk (m := []) (d := 0) (b := B35_7) (gs := []) (c' := (53, [none], [(0, 1)], (h, hm, o))) K35_7 rfl trivial ?_
  exact zF_rbC (zRe1_w (by decide +kernel)) (Or.inr rfl) e
/-- EchoVale$ValleyText.isNewName()Z -/
def F35 (h : zHC) : Option (Int × zHC) := if (h 324 0 0) = 2 then (F36 1 (h 327 0 0) h).bind fun r1 => if r1 = 0 then F35_0 h else (F31 3 h).bind fun r2 => if r2.1 = 0 then some (0, r2.2) else F35_0 r2.2 else (F31 1 h).bind fun r3 => zG (r3.1 = 0 ∨ r3.1 = 1) (some (r3.1, r3.2))
set_option maxRecDepth 100000 in
theorem S35 {spec : zRn zH2} {hm : zHM} {o : Int → Int} {d : Nat} (hd : 3 ≤ d) (h : zHC) (v : (Int × zHC)) (e : F35 h = some v) : zRu2 spec d 35 [(20, 0)] (h, hm, o) (some (0, v.1)) (v.2, hm, o) := by
  refine zF_in (D := 2) (mx := 1) (L := [some (20, 0)]) (by decide +kernel) rfl rfl hd (fun d hd => ?_)
  unfold F35 at e
  rcases zI_s e with ⟨q1, e⟩ | ⟨q1, e⟩
  · refine zF_blk (m := []) (d := 1) (b := B35_6) (gs := [(h 324 0 0) = 2]) (c' := (20, [some (20, 0)], [], (h, hm, o))) K35_6 rfl ⟨q1, trivial⟩ ?_
    obtain ⟨r1, q2, e⟩ := zB_s e
    refine zF_blk (m := []) (d := 0) (b := B35_0) (gs := []) (c' := (31, [some (20, 0)], [(1, (h 327 0 0)), (19, 1)], (h, hm, o))) K35_0 rfl trivial ?_
    refine zF_call (k := 36) (cl := 9) (n := 2) (i := .invokevirtual 172) (args := [(19, 1), (1, (h 327 0 0))]) (rest := []) (g1 := (h, hm, o)) (r1 := some (0, r1)) (zCk1_w (by decide +kernel)) rfl rfl rfl (st' := [(0, r1)]) rfl (S36 (Nat.le_trans (by decide) hd) 1 (h 327 0 0) h _ q2) ?_
    rcases zI_s e with ⟨q3, e⟩ | ⟨q3, e⟩
    · refine zF_blk (m := []) (d := 1) (b := B35_4) (gs := [r1 = 0]) (c' := (48, [some (20, 0)], [], (h, hm, o))) K35_4 rfl ⟨q3, trivial⟩ ?_
      refine zF_blk (m := [false]) (d := 0) (b := []) (gs := []) (c' := (48, [none], [], (h, hm, o))) rfl rfl trivial ?_
      exact T35_0 hd h _ e
    · refine zF_blk (m := []) (d := 0) (b := B35_4) (gs := [¬ (r1 = 0)]) (c' := (37, [some (20, 0)], [], (h, hm, o))) K35_4 rfl ⟨q3, trivial⟩ ?_
      obtain ⟨r2, q4, e⟩ := zB_s e
      refine zF_blk (m := []) (d := 0) (b := B35_1) (gs := []) (c' := (42, [some (20, 0)], [(0, 3), (15, 0)], (h, hm, o))) K35_1 rfl trivial ?_
      refine zF_call (k := 31) (cl := 5) (n := 2) (i := .invokevirtual 49) (args := [(15, 0), (0, 3)]) (rest := []) (g1 := (r2.2, hm, o)) (r1 := some (0, r2.1)) (zCk1_w (by decide +kernel)) rfl rfl rfl (st' := [(0, r2.1)]) rfl (S31 (Nat.le_trans (by decide) hd) 3 h _ q4) ?_
      rcases zI_s e with ⟨q5, e⟩ | ⟨q5, e⟩
      · refine zF_blk (m := []) (d := 1) (b := B35_3) (gs := [r2.1 = 0]) (c' := (52, [some (20, 0)], [], (r2.2, hm, o))) K35_3 rfl ⟨q5, trivial⟩ ?_
        refine zF_blk (m := []) (d := 0) (b := B35_2) (gs := []) (c' := (53, [some (20, 0)], [(0, 0)], (r2.2, hm, o))) K35_2 rfl trivial ?_
        exact zF_rbC (zRe1_w (by decide +kernel)) (Or.inl rfl) e
      · refine zF_blk (m := []) (d := 0) (b := B35_3) (gs := [¬ (r2.1 = 0)]) (c' := (48, [some (20, 0)], [], (r2.2, hm, o))) K35_3 rfl ⟨q5, trivial⟩ ?_
        refine zF_blk (m := [false]) (d := 0) (b := []) (gs := []) (c' := (48, [none], [], (r2.2, hm, o))) rfl rfl trivial ?_
        exact T35_0 hd r2.2 _ e
  · refine zF_blk (m := []) (d := 0) (b := B35_6) (gs := [¬ ((h 324 0 0) = 2)]) (c' := (11, [some (20, 0)], [], (h, hm, o))) K35_6 rfl ⟨q1, trivial⟩ ?_
    obtain ⟨r3, q6, e⟩ := zB_s e
    refine zF_blk (m := []) (d := 0) (b := B35_5) (gs := []) (c' := (16, [some (20, 0)], [(0, 1), (15, 0)], (h, hm, o))) K35_5 rfl trivial ?_
    refine zF_call (k := 31) (cl := 5) (n := 2) (i := .invokevirtual 49) (args := [(15, 0), (0, 1)]) (rest := []) (g1 := (r3.2, hm, o)) (r1 := some (0, r3.1)) (zCk1_w (by decide +kernel)) rfl rfl rfl (st' := [(0, r3.1)]) rfl (S31 (Nat.le_trans (by decide) hd) 1 h _ q6) ?_
    obtain ⟨q7, e⟩ := zG_s e
    exact zF_rbC (zRe1_w (by decide +kernel)) q7 e
noncomputable def B39_0 : List zRow := [(0, .aload_n 0, 1, (0, 0, 0)), (1, .getfield 18, 3, (10, 2, 23)), (4, .iconst 0, 1, (0, 0, 0)), (5, .aload_n 0, 1, (0, 0, 0)), (6, .getfield 12, 3, (10, 0, 167)), (9, .getfield 76, 3, (9, 0, 0)), (12, .iconst 1, 1, (0, 0, 0)), (13, .isub, 1, (0, 0, 0))]
theorem K39_0 : zRk 39 B39_0 = true := zRw_ok (by decide +kernel)
noncomputable def B39_1 : List zRow := [(22, .aload_n 0, 1, (0, 0, 0)), (23, .getfield 18, 3, (10, 2, 23)), (26, .getfield 52, 3, (5, 6, 0)), (29, .istore_n 1, 1, (0, 0, 0)), (30, .aload_n 0, 1, (0, 0, 0)), (31, .getfield 18, 3, (10, 2, 23))]
theorem K39_1 : zRk 39 B39_1 = true := zRw_ok (by decide +kernel)
noncomputable def B39_2 : List zRow := [(37, .aload_n 0, 1, (0, 0, 0)), (38, .getfield 18, 3, (10, 2, 23)), (41, .iconst 0, 1, (0, 0, 0)), (42, .aload_n 0, 1, (0, 0, 0)), (43, .getfield 12, 3, (10, 0, 167)), (46, .getfield 86, 3, (9, 1, 0)), (49, .iconst 1, 1, (0, 0, 0)), (50, .isub, 1, (0, 0, 0))]
theorem K39_2 : zRk 39 B39_2 = true := zRw_ok (by decide +kernel)
noncomputable def B39_3 : List zRow := [(72, .iconst (-1), 1, (0, 0, 0))]
theorem K39_3 : zRk 39 B39_3 = true := zRw_ok (by decide +kernel)
noncomputable def B39_4 : List zRow := [(57, .aload_n 0, 1, (0, 0, 0)), (58, .getfield 18, 3, (10, 2, 23)), (61, .getfield 52, 3, (5, 6, 0)), (64, .bipush 10, 2, (0, 0, 0)), (66, .imul, 1, (0, 0, 0)), (67, .iload_n 1, 1, (0, 0, 0)), (68, .iadd, 1, (0, 0, 0)), (69, .goto 4, 3, (0, 0, 0))]
theorem K39_4 : zRk 39 B39_4 = true := zRw_ok (by decide +kernel)
noncomputable def B39_5 : List zRow := [(54, .ifCond .eq 18, 3, (0, 0, 0))]
theorem K39_5 : zRk 39 B39_5 = true := zRw_ok (by decide +kernel)
noncomputable def B39_6 : List zRow := [(20, .iconst (-1), 1, (0, 0, 0))]
theorem K39_6 : zRk 39 B39_6 = true := zRw_ok (by decide +kernel)
noncomputable def B39_7 : List zRow := [(17, .ifCond .ne 5, 3, (0, 0, 0))]
theorem K39_7 : zRk 39 B39_7 = true := zRw_ok (by decide +kernel)
/-- EchoVale$ValleyText.cellHere()I -/
def F39 (h : zHC) : Option (Int × zHC) := (F33 0 (wsub (h 576 1 0) 1) h).bind fun r1 => if ¬ r1.1 = 0 then (F21 r1.2).bind fun r2 => (F33 0 (wsub (r2 577 1 0) 1) r2).bind fun r3 => if r3.1 = 0 then some ((-1), r3.2) else some ((wadd (wmul (r3.2 326 0 0) 10) (r1.2 326 0 0)), r3.2) else some ((-1), r1.2)
set_option maxRecDepth 100000 in
theorem S39 {spec : zRn zH2} {hm : zHM} {o : Int → Int} {d : Nat} (hd : 4 ≤ d) (h : zHC) (v : (Int × zHC)) (e : F39 h = some v) : zRu2 spec d 39 [(20, 0)] (h, hm, o) (some (0, v.1)) (v.2, hm, o) := by
  refine zF_in (D := 3) (mx := 2) (L := [some (20, 0), none]) (by decide +kernel) rfl rfl hd (fun d hd => ?_)
  unfold F39 at e
  obtain ⟨r1, q1, e⟩ := zB_s e
  refine zF_blk (m := []) (d := 0) (b := B39_0) (gs := []) (c' := (14, [some (20, 0), none], [(0, (wsub (h 576 1 0) 1)), (0, 0), (15, 0)], (h, hm, o))) K39_0 rfl trivial ?_
  refine zF_call (k := 33) (cl := 5) (n := 3) (i := .invokevirtual 82) (args := [(15, 0), (0, 0), (0, (wsub (h 576 1 0) 1))]) (rest := []) (g1 := (r1.2, hm, o)) (r1 := some (0, r1.1)) (zCk1_w (by decide +kernel)) rfl rfl rfl (st' := [(0, r1.1)]) rfl (S33 (Nat.le_trans (by decide) hd) 0 (wsub (h 576 1 0) 1) h _ q1) ?_
  rcases zI_s e with ⟨q2, e⟩ | ⟨q2, e⟩
  · refine zF_blk (m := []) (d := 1) (b := B39_7) (gs := [¬ r1.1 = 0]) (c' := (22, [some (20, 0), none], [], (r1.2, hm, o))) K39_7 rfl ⟨q2, trivial⟩ ?_
    obtain ⟨r2, q3, e⟩ := zB_s e
    refine zF_blk (m := []) (d := 0) (b := B39_1) (gs := []) (c' := (34, [some (20, 0), some (0, (r1.2 326 0 0))], [(15, 0)], (r1.2, hm, o))) K39_1 rfl trivial ?_
    refine zF_call (k := 21) (cl := 5) (n := 1) (i := .invokevirtual 79) (args := [(15, 0)]) (rest := []) (g1 := (r2, hm, o)) (r1 := none) (zCk1_w (by decide +kernel)) rfl rfl rfl (st' := []) rfl (S21 (Nat.le_trans (by decide) hd)  r1.2 _ q3) ?_
    obtain ⟨r3, q4, e⟩ := zB_s e
    refine zF_blk (m := []) (d := 0) (b := B39_2) (gs := []) (c' := (51, [some (20, 0), some (0, (r1.2 326 0 0))], [(0, (wsub (r2 577 1 0) 1)), (0, 0), (15, 0)], (r2, hm, o))) K39_2 rfl trivial ?_
    refine zF_call (k := 33) (cl := 5) (n := 3) (i := .invokevirtual 82) (args := [(15, 0), (0, 0), (0, (wsub (r2 577 1 0) 1))]) (rest := []) (g1 := (r3.2, hm, o)) (r1 := some (0, r3.1)) (zCk1_w (by decide +kernel)) rfl rfl rfl (st' := [(0, r3.1)]) rfl (S33 (Nat.le_trans (by decide) hd) 0 (wsub (r2 577 1 0) 1) r2 _ q4) ?_
    rcases zI_s e with ⟨q5, e⟩ | ⟨q5, e⟩
    · refine zF_blk (m := []) (d := 1) (b := B39_5) (gs := [r3.1 = 0]) (c' := (72, [some (20, 0), some (0, (r1.2 326 0 0))], [], (r3.2, hm, o))) K39_5 rfl ⟨q5, trivial⟩ ?_
      refine zF_blk (m := []) (d := 0) (b := B39_3) (gs := []) (c' := (73, [some (20, 0), some (0, (r1.2 326 0 0))], [(0, (-1))], (r3.2, hm, o))) K39_3 rfl trivial ?_
      exact zF_riC (zRe1_w (by decide +kernel)) e
    · refine zF_blk (m := []) (d := 0) (b := B39_5) (gs := [¬ (r3.1 = 0)]) (c' := (57, [some (20, 0), some (0, (r1.2 326 0 0))], [], (r3.2, hm, o))) K39_5 rfl ⟨q5, trivial⟩ ?_
      refine zF_blk (m := []) (d := 0) (b := B39_4) (gs := []) (c' := (73, [some (20, 0), some (0, (r1.2 326 0 0))], [(0, (wadd (wmul (r3.2 326 0 0) 10) (r1.2 326 0 0)))], (r3.2, hm, o))) K39_4 rfl trivial ?_
      exact zF_riC (zRe1_w (by decide +kernel)) e
  · refine zF_blk (m := []) (d := 0) (b := B39_7) (gs := [¬ (¬ r1.1 = 0)]) (c' := (20, [some (20, 0), none], [], (r1.2, hm, o))) K39_7 rfl ⟨q2, trivial⟩ ?_
    refine zF_blk (m := []) (d := 0) (b := B39_6) (gs := []) (c' := (21, [some (20, 0), none], [(0, (-1))], (r1.2, hm, o))) K39_6 rfl trivial ?_
    exact zF_riC (zRe1_w (by decide +kernel)) e
noncomputable def B40_0 : List zRow := [(0, .iconst 0, 1, (0, 0, 0)), (1, .istore_n 2, 1, (0, 0, 0))]
theorem K40_0 : zRk 40 B40_0 = true := zRw_ok (by decide +kernel)
noncomputable def B40_1 : List zRow := [(28, .iconst 0, 1, (0, 0, 0))]
theorem K40_1 : zRk 40 B40_1 = true := zRw_ok (by decide +kernel)
noncomputable def B40_2 : List zRow := [(22, .iinc 2 1, 3, (0, 0, 0)), (25, .goto (-23), 3, (0, 0, 0))]
theorem K40_2 : zRk 40 B40_2 = true := zRw_ok (by decide +kernel)
noncomputable def B40_3 : List zRow := [(20, .iconst 1, 1, (0, 0, 0))]
theorem K40_3 : zRk 40 B40_3 = true := zRw_ok (by decide +kernel)
noncomputable def B40_4 : List zRow := [(10, .aload_n 0, 1, (0, 0, 0)), (11, .getfield 15, 3, (9, 8, 5242906)), (14, .iload_n 2, 1, (0, 0, 0)), (15, .iaload, 1, (0, 0, 0)), (16, .iload_n 1, 1, (0, 0, 0)), (17, .if_icmp .ne 5, 3, (0, 0, 0))]
theorem K40_4 : zRk 40 B40_4 = true := zRw_ok (by decide +kernel)
noncomputable def B40_5 : List zRow := [(2, .iload_n 2, 1, (0, 0, 0)), (3, .aload_n 0, 1, (0, 0, 0)), (4, .getfield 59, 3, (9, 2, 0)), (7, .if_icmp .ge 21, 3, (0, 0, 0))]
theorem K40_5 : zRk 40 B40_5 = true := zRw_ok (by decide +kernel)
def F40_0 (h : zHC) : Nat → Int → Int → Int → Option Int
  | 0, _, _, _ => none
  | n + 1, v0, v1, v2 => if (h 578 v0 0) ≤ v2 then some 0 else zG (0 ≤ v2 ∧ v2 < 6) (if ¬ (h 584 v0 v2) = v1 then (F40_0 h n) v0 v1 (wadd v2 1) else some 1)
set_option maxRecDepth 100000 in
theorem T40_0 {spec : zRn zH2} {hm : zHM} {o : Int → Int} {d : Nat} (hd : 0 ≤ d) (h : zHC) : ∀ (n : Nat) (v0 : Int) (v1 : Int) (v2 : Int) (v : Int), F40_0 h n v0 v1 v2 = some v → zFin 0 (fun _ => 0) (zRu2 spec d) 40 (some (0, v)) (h, hm, o) (2, [some (19, v0), some (0, v1), some (0, v2)], [], (h, hm, o)) := by
  intro n
  induction n with
  | zero => intro v0 v1 v2 v e; unfold F40_0 at e; cases e
  | succ n hk0 =>
    intro v0 v1 v2 v e
    unfold F40_0 at e
    rcases zI_s e with ⟨q1, e⟩ | ⟨q1, e⟩
    · refine zF_blk (m := []) (d := 1) (b := B40_5) (gs := [(h 578 v0 0) ≤ v2]) (c' := (28, [some (19, v0), some (0, v1), some (0, v2)], [], (h, hm, o))) K40_5 rfl ⟨q1, trivial⟩ ?_
      refine zF_blk (m := []) (d := 0) (b := B40_1) (gs := []) (c' := (29, [some (19, v0), some (0, v1), some (0, v2)], [(0, 0)], (h, hm, o))) K40_1 rfl trivial ?_
      obtain rfl := Option.some.inj e
      exact zF_rb (zRe1_w (by decide +kernel)) (Or.inl rfl)
    · refine zF_blk (m := []) (d := 0) (b := B40_5) (gs := [¬ ((h 578 v0 0) ≤ v2)]) (c' := (10, [some (19, v0), some (0, v1), some (0, v2)], [], (h, hm, o))) K40_5 rfl ⟨q1, trivial⟩ ?_
      obtain ⟨q2, e⟩ := zG_s e
      rcases zI_s e with ⟨q3, e⟩ | ⟨q3, e⟩
      · refine zF_blk (m := []) (d := 1) (b := B40_4) (gs := [0 ≤ v2 ∧ v2 < 6, ¬ (h 584 v0 v2) = v1]) (c' := (22, [some (19, v0), some (0, v1), some (0, v2)], [], (h, hm, o))) K40_4 rfl ⟨q2, q3, trivial⟩ ?_
        refine zF_blk (m := []) (d := 0) (b := B40_2) (gs := []) (c' := (2, [some (19, v0), some (0, v1), some (0, (wadd v2 1))], [], (h, hm, o))) K40_2 rfl trivial ?_
        exact hk0 v0 v1 (wadd v2 1) _ e
      · refine zF_blk (m := []) (d := 0) (b := B40_4) (gs := [0 ≤ v2 ∧ v2 < 6, ¬ (¬ (h 584 v0 v2) = v1)]) (c' := (20, [some (19, v0), some (0, v1), some (0, v2)], [], (h, hm, o))) K40_4 rfl ⟨q2, q3, trivial⟩ ?_
        refine zF_blk (m := []) (d := 0) (b := B40_3) (gs := []) (c' := (21, [some (19, v0), some (0, v1), some (0, v2)], [(0, 1)], (h, hm, o))) K40_3 rfl trivial ?_
        obtain rfl := Option.some.inj e
        exact zF_rb (zRe1_w (by decide +kernel)) (Or.inr rfl)
/-- EchoVale$Valley.hasCliff(I)Z -/
def F40 (v0 : Int) (v1 : Int) (h : zHC) : Option Int := F40_0 h zFu v0 v1 0
set_option maxRecDepth 100000 in
theorem S40 {spec : zRn zH2} {hm : zHM} {o : Int → Int} {d : Nat} (hd : 1 ≤ d) (v0 : Int) (v1 : Int) (h : zHC) (v : Int) (e : F40 v0 v1 h = some v) : zRu2 spec d 40 [(19, v0), (0, v1)] (h, hm, o) (some (0, v)) (h, hm, o) := by
  refine zF_in (D := 0) (mx := 3) (L := [some (19, v0), some (0, v1), none]) (by decide +kernel) rfl rfl hd (fun d hd => ?_)
  unfold F40 at e
  refine zF_blk (m := []) (d := 0) (b := B40_0) (gs := []) (c' := (2, [some (19, v0), some (0, v1), some (0, 0)], [], (h, hm, o))) K40_0 rfl trivial ?_
  exact T40_0 hd h zFu v0 v1 0 _ e
noncomputable def B34_0 : List zRow := [(23, .aload_n 0, 1, (0, 0, 0)), (24, .getfield 18, 3, (10, 2, 23))]
theorem K34_0 : zRk 34 B34_0 = true := zRw_ok (by decide +kernel)
noncomputable def B34_1 : List zRow := [(30, .aload_n 0, 1, (0, 0, 0))]
theorem K34_1 : zRk 34 B34_1 = true := zRw_ok (by decide +kernel)
noncomputable def B34_2 : List zRow := [(39, .aload_n 0, 1, (0, 0, 0)), (40, .getfield 18, 3, (10, 2, 23)), (43, .getfield 95, 3, (5, 7, 1)), (46, .lstore_n 2, 1, (0, 0, 0)), (47, .aload_n 0, 1, (0, 0, 0)), (48, .getfield 18, 3, (10, 2, 23))]
theorem K34_2 : zRk 34 B34_2 = true := zRw_ok (by decide +kernel)
noncomputable def B34_3 : List zRow := [(54, .aload_n 0, 1, (0, 0, 0))]
theorem K34_3 : zRk 34 B34_3 = true := zRw_ok (by decide +kernel)
noncomputable def B34_4 : List zRow := [(68, .aload_n 0, 1, (0, 0, 0)), (69, .getfield 12, 3, (10, 0, 167)), (72, .iload 4, 2, (0, 0, 0))]
theorem K34_4 : zRk 34 B34_4 = true := zRw_ok (by decide +kernel)
noncomputable def B34_5 : List zRow := [(89, .aload_n 0, 1, (0, 0, 0)), (90, .getfield 18, 3, (10, 2, 23))]
theorem K34_5 : zRk 34 B34_5 = true := zRw_ok (by decide +kernel)
noncomputable def B34_6 : List zRow := [(96, .aload_n 0, 1, (0, 0, 0)), (97, .getfield 18, 3, (10, 2, 23)), (100, .iconst 1, 1, (0, 0, 0)), (101, .bipush 40, 2, (0, 0, 0))]
theorem K34_6 : zRk 34 B34_6 = true := zRw_ok (by decide +kernel)
noncomputable def B34_7 : List zRow := [(111, .aload_n 0, 1, (0, 0, 0)), (112, .getfield 18, 3, (10, 2, 23)), (115, .getfield 52, 3, (5, 6, 0)), (118, .istore 5, 2, (0, 0, 0)), (120, .aload_n 0, 1, (0, 0, 0)), (121, .getfield 18, 3, (10, 2, 23))]
theorem K34_7 : zRk 34 B34_7 = true := zRw_ok (by decide +kernel)
noncomputable def B34_8 : List zRow := [(127, .aload_n 0, 1, (0, 0, 0)), (128, .getfield 18, 3, (10, 2, 23)), (131, .iconst 1, 1, (0, 0, 0)), (132, .bipush 9, 2, (0, 0, 0))]
theorem K34_8 : zRk 34 B34_8 = true := zRw_ok (by decide +kernel)
noncomputable def B34_9 : List zRow := [(142, .aload_n 0, 1, (0, 0, 0)), (143, .getfield 12, 3, (10, 0, 167)), (146, .getfield 106, 3, (9, 7, 5505050)), (149, .iload_n 1, 1, (0, 0, 0)), (150, .lload_n 2, 1, (0, 0, 0)), (151, .lastore, 1, (0, 0, 0)), (152, .aload_n 0, 1, (0, 0, 0)), (153, .getfield 12, 3, (10, 0, 167)), (156, .getfield 110, 3, (9, 8, 5242906)), (159, .iload_n 1, 1, (0, 0, 0)), (160, .iload 4, 2, (0, 0, 0)), (162, .iastore, 1, (0, 0, 0)), (163, .aload_n 0, 1, (0, 0, 0)), (164, .getfield 12, 3, (10, 0, 167)), (167, .getfield 114, 3, (9, 9, 5242906)), (170, .iload_n 1, 1, (0, 0, 0)), (171, .iload 5, 2, (0, 0, 0)), (173, .iastore, 1, (0, 0, 0)), (174, .aload_n 0, 1, (0, 0, 0)), (175, .getfield 12, 3, (10, 0, 167)), (178, .getfield 117, 3, (9, 10, 5242906)), (181, .iload_n 1, 1, (0, 0, 0)), (182, .aload_n 0, 1, (0, 0, 0)), (183, .getfield 18, 3, (10, 2, 23)), (186, .getfield 52, 3, (5, 6, 0)), (189, .iastore, 1, (0, 0, 0)), (190, .aload_n 0, 1, (0, 0, 0)), (191, .getfield 12, 3, (10, 0, 167)), (194, .iload_n 1, 1, (0, 0, 0)), (195, .iconst 1, 1, (0, 0, 0)), (196, .iadd, 1, (0, 0, 0)), (197, .putfield 89, 3, (9, 2, 0)), (200, .aload_n 0, 1, (0, 0, 0)), (201, .getfield 18, 3, (10, 2, 23))]
theorem K34_9 : zRk 34 B34_9 = true := zRw_ok (by decide +kernel)
noncomputable def B34_10 : List zRow := [(207, .iconst 1, 1, (0, 0, 0))]
theorem K34_10 : zRk 34 B34_10 = true := zRw_ok (by decide +kernel)
noncomputable def B34_11 : List zRow := [(140, .iconst 0, 1, (0, 0, 0))]
theorem K34_11 : zRk 34 B34_11 = true := zRw_ok (by decide +kernel)
noncomputable def B34_12 : List zRow := [(137, .ifCond .ne 5, 3, (0, 0, 0))]
theorem K34_12 : zRk 34 B34_12 = true := zRw_ok (by decide +kernel)
noncomputable def B34_13 : List zRow := [(109, .iconst 0, 1, (0, 0, 0))]
theorem K34_13 : zRk 34 B34_13 = true := zRw_ok (by decide +kernel)
noncomputable def B34_14 : List zRow := [(106, .ifCond .ne 5, 3, (0, 0, 0))]
theorem K34_14 : zRk 34 B34_14 = true := zRw_ok (by decide +kernel)
noncomputable def B34_15 : List zRow := [(80, .aload_n 0, 1, (0, 0, 0)), (81, .getfield 18, 3, (10, 2, 23)), (84, .iconst 3, 1, (0, 0, 0))]
theorem K34_15 : zRk 34 B34_15 = true := zRw_ok (by decide +kernel)
noncomputable def B34_16 : List zRow := [(77, .ifCond .eq 12, 3, (0, 0, 0))]
theorem K34_16 : zRk 34 B34_16 = true := zRw_ok (by decide +kernel)
noncomputable def B34_17 : List zRow := [(66, .iconst 0, 1, (0, 0, 0))]
theorem K34_17 : zRk 34 B34_17 = true := zRw_ok (by decide +kernel)
noncomputable def B34_18 : List zRow := [(58, .istore 4, 2, (0, 0, 0)), (60, .iload 4, 2, (0, 0, 0)), (62, .iconst (-1), 1, (0, 0, 0)), (63, .if_icmp .ne 5, 3, (0, 0, 0))]
theorem K34_18 : zRk 34 B34_18 = true := zRw_ok (by decide +kernel)
noncomputable def B34_19 : List zRow := [(37, .iconst 0, 1, (0, 0, 0))]
theorem K34_19 : zRk 34 B34_19 = true := zRw_ok (by decide +kernel)
noncomputable def B34_20 : List zRow := [(34, .ifCond .ne 5, 3, (0, 0, 0))]
theorem K34_20 : zRk 34 B34_20 = true := zRw_ok (by decide +kernel)
noncomputable def B34_21 : List zRow := [(14, .aload_n 0, 1, (0, 0, 0)), (15, .getfield 18, 3, (10, 2, 23)), (18, .iconst 4, 1, (0, 0, 0))]
theorem K34_21 : zRk 34 B34_21 = true := zRw_ok (by decide +kernel)
noncomputable def B34_22 : List zRow := [(0, .aload_n 0, 1, (0, 0, 0)), (1, .getfield 12, 3, (10, 0, 167)), (4, .getfield 89, 3, (9, 2, 0)), (7, .istore_n 1, 1, (0, 0, 0)), (8, .iload_n 1, 1, (0, 0, 0)), (9, .bipush 6, 2, (0, 0, 0)), (11, .if_icmp .lt 12, 3, (0, 0, 0))]
theorem K34_22 : zRk 34 B34_22 = true := zRw_ok (by decide +kernel)
/-- EchoVale$ValleyText.readCliff()Z -/
def F34 (h : zHC) : Option (Int × zHC) := if (h 578 1 0) < 6 then (F21 h).bind fun r1 => (F35 r1).bind fun r2 => if ¬ r2.1 = 0 then (F21 r2.2).bind fun r3 => (F39 r3).bind fun r4 => if ¬ r4.1 = (-1) then (F40 1 r4.1 r4.2).bind fun r5 => if r5 = 0 then (F21 r4.2).bind fun r6 => (F33 1 40 r6).bind fun r7 => if ¬ r7.1 = 0 then (F21 r7.2).bind fun r8 => (F33 1 9 r8).bind fun r9 => if ¬ r9.1 = 0 then zG (0 ≤ (h 578 1 0) ∧ (h 578 1 0) < 6) (zG (0 ≤ (h 578 1 0) ∧ (h 578 1 0) < 6) (zG (0 ≤ (h 578 1 0) ∧ (h 578 1 0) < 6) (zG (0 ≤ (h 578 1 0) ∧ (h 578 1 0) < 6) ((F21 (hset (hset (hset (hset (hset r9.2 583 1 (h 578 1 0) (r2.2 327 0 0)) 584 1 (h 578 1 0) r4.1) 585 1 (h 578 1 0) (r7.2 326 0 0)) 586 1 (h 578 1 0) (r9.2 326 0 0)) 578 1 0 (wadd (h 578 1 0) 1))).bind fun r10 => some (1, r10))))) else some (0, r9.2) else some (0, r7.2) else (F31 3 r4.2).bind fun r11 => zG (r11.1 = 0 ∨ r11.1 = 1) (some (r11.1, r11.2)) else some (0, r4.2) else some (0, r2.2) else (F31 4 h).bind fun r12 => zG (r12.1 = 0 ∨ r12.1 = 1) (some (r12.1, r12.2))
set_option maxRecDepth 100000 in
theorem S34 {spec : zRn zH2} {hm : zHM} {o : Int → Int} {d : Nat} (hd : 5 ≤ d) (h : zHC) (v : (Int × zHC)) (e : F34 h = some v) : zRu2 spec d 34 [(20, 0)] (h, hm, o) (some (0, v.1)) (v.2, hm, o) := by
  refine zF_in (D := 4) (mx := 6) (L := [some (20, 0), none, none, none, none, none]) (by decide +kernel) rfl rfl hd (fun d hd => ?_)
  unfold F34 at e
  rcases zI_s e with ⟨q1, e⟩ | ⟨q1, e⟩
  · refine zF_blk (m := []) (d := 1) (b := B34_22) (gs := [(h 578 1 0) < 6]) (c' := (23, [some (20, 0), some (0, (h 578 1 0)), none, none, none, none], [], (h, hm, o))) K34_22 rfl ⟨q1, trivial⟩ ?_
    obtain ⟨r1, q2, e⟩ := zB_s e
    refine zF_blk (m := []) (d := 0) (b := B34_0) (gs := []) (c' := (27, [some (20, 0), some (0, (h 578 1 0)), none, none, none, none], [(15, 0)], (h, hm, o))) K34_0 rfl trivial ?_
    refine zF_call (k := 21) (cl := 5) (n := 1) (i := .invokevirtual 79) (args := [(15, 0)]) (rest := []) (g1 := (r1, hm, o)) (r1 := none) (zCk1_w (by decide +kernel)) rfl rfl rfl (st' := []) rfl (S21 (Nat.le_trans (by decide) hd)  h _ q2) ?_
    obtain ⟨r2, q3, e⟩ := zB_s e
    refine zF_blk (m := []) (d := 0) (b := B34_1) (gs := []) (c' := (31, [some (20, 0), some (0, (h 578 1 0)), none, none, none, none], [(20, 0)], (r1, hm, o))) K34_1 rfl trivial ?_
    refine zF_call (k := 35) (cl := 10) (n := 1) (i := .invokevirtual 92) (args := [(20, 0)]) (rest := []) (g1 := (r2.2, hm, o)) (r1 := some (0, r2.1)) (zCk1_w (by decide +kernel)) rfl rfl rfl (st' := [(0, r2.1)]) rfl (S35 (Nat.le_trans (by decide) hd)  r1 _ q3) ?_
    rcases zI_s e with ⟨q4, e⟩ | ⟨q4, e⟩
    · refine zF_blk (m := []) (d := 1) (b := B34_20) (gs := [¬ r2.1 = 0]) (c' := (39, [some (20, 0), some (0, (h 578 1 0)), none, none, none, none], [], (r2.2, hm, o))) K34_20 rfl ⟨q4, trivial⟩ ?_
      obtain ⟨r3, q5, e⟩ := zB_s e
      refine zF_blk (m := []) (d := 0) (b := B34_2) (gs := []) (c' := (51, [some (20, 0), some (0, (h 578 1 0)), some (1, (r2.2 327 0 0)), none, none, none], [(15, 0)], (r2.2, hm, o))) K34_2 rfl trivial ?_
      refine zF_call (k := 21) (cl := 5) (n := 1) (i := .invokevirtual 79) (args := [(15, 0)]) (rest := []) (g1 := (r3, hm, o)) (r1 := none) (zCk1_w (by decide +kernel)) rfl rfl rfl (st' := []) rfl (S21 (Nat.le_trans (by decide) hd)  r2.2 _ q5) ?_
      obtain ⟨r4, q6, e⟩ := zB_s e
      refine zF_blk (m := []) (d := 0) (b := B34_3) (gs := []) (c' := (55, [some (20, 0), some (0, (h 578 1 0)), some (1, (r2.2 327 0 0)), none, none, none], [(20, 0)], (r3, hm, o))) K34_3 rfl trivial ?_
      refine zF_call (k := 39) (cl := 10) (n := 1) (i := .invokevirtual 99) (args := [(20, 0)]) (rest := []) (g1 := (r4.2, hm, o)) (r1 := some (0, r4.1)) (zCk1_w (by decide +kernel)) rfl rfl rfl (st' := [(0, r4.1)]) rfl (S39 (Nat.le_trans (by decide) hd)  r3 _ q6) ?_
      rcases zI_s e with ⟨q7, e⟩ | ⟨q7, e⟩
      · refine zF_blk (m := []) (d := 1) (b := B34_18) (gs := [¬ r4.1 = (-1)]) (c' := (68, [some (20, 0), some (0, (h 578 1 0)), some (1, (r2.2 327 0 0)), none, some (0, r4.1), none], [], (r4.2, hm, o))) K34_18 rfl ⟨q7, trivial⟩ ?_
        obtain ⟨r5, q8, e⟩ := zB_s e
        refine zF_blk (m := []) (d := 0) (b := B34_4) (gs := []) (c' := (74, [some (20, 0), some (0, (h 578 1 0)), some (1, (r2.2 327 0 0)), none, some (0, r4.1), none], [(0, r4.1), (19, 1)], (r4.2, hm, o))) K34_4 rfl trivial ?_
        refine zF_call (k := 40) (cl := 9) (n := 2) (i := .invokevirtual 103) (args := [(19, 1), (0, r4.1)]) (rest := []) (g1 := (r4.2, hm, o)) (r1 := some (0, r5)) (zCk1_w (by decide +kernel)) rfl rfl rfl (st' := [(0, r5)]) rfl (S40 (Nat.le_trans (by decide) hd) 1 r4.1 r4.2 _ q8) ?_
        rcases zI_s e with ⟨q9, e⟩ | ⟨q9, e⟩
        · refine zF_blk (m := []) (d := 1) (b := B34_16) (gs := [r5 = 0]) (c' := (89, [some (20, 0), some (0, (h 578 1 0)), some (1, (r2.2 327 0 0)), none, some (0, r4.1), none], [], (r4.2, hm, o))) K34_16 rfl ⟨q9, trivial⟩ ?_
          obtain ⟨r6, q10, e⟩ := zB_s e
          refine zF_blk (m := []) (d := 0) (b := B34_5) (gs := []) (c' := (93, [some (20, 0), some (0, (h 578 1 0)), some (1, (r2.2 327 0 0)), none, some (0, r4.1), none], [(15, 0)], (r4.2, hm, o))) K34_5 rfl trivial ?_
          refine zF_call (k := 21) (cl := 5) (n := 1) (i := .invokevirtual 79) (args := [(15, 0)]) (rest := []) (g1 := (r6, hm, o)) (r1 := none) (zCk1_w (by decide +kernel)) rfl rfl rfl (st' := []) rfl (S21 (Nat.le_trans (by decide) hd)  r4.2 _ q10) ?_
          obtain ⟨r7, q11, e⟩ := zB_s e
          refine zF_blk (m := []) (d := 0) (b := B34_6) (gs := []) (c' := (103, [some (20, 0), some (0, (h 578 1 0)), some (1, (r2.2 327 0 0)), none, some (0, r4.1), none], [(0, 40), (0, 1), (15, 0)], (r6, hm, o))) K34_6 rfl trivial ?_
          refine zF_call (k := 33) (cl := 5) (n := 3) (i := .invokevirtual 82) (args := [(15, 0), (0, 1), (0, 40)]) (rest := []) (g1 := (r7.2, hm, o)) (r1 := some (0, r7.1)) (zCk1_w (by decide +kernel)) rfl rfl rfl (st' := [(0, r7.1)]) rfl (S33 (Nat.le_trans (by decide) hd) 1 40 r6 _ q11) ?_
          rcases zI_s e with ⟨q12, e⟩ | ⟨q12, e⟩
          · refine zF_blk (m := []) (d := 1) (b := B34_14) (gs := [¬ r7.1 = 0]) (c' := (111, [some (20, 0), some (0, (h 578 1 0)), some (1, (r2.2 327 0 0)), none, some (0, r4.1), none], [], (r7.2, hm, o))) K34_14 rfl ⟨q12, trivial⟩ ?_
            obtain ⟨r8, q13, e⟩ := zB_s e
            refine zF_blk (m := []) (d := 0) (b := B34_7) (gs := []) (c' := (124, [some (20, 0), some (0, (h 578 1 0)), some (1, (r2.2 327 0 0)), none, some (0, r4.1), some (0, (r7.2 326 0 0))], [(15, 0)], (r7.2, hm, o))) K34_7 rfl trivial ?_
            refine zF_call (k := 21) (cl := 5) (n := 1) (i := .invokevirtual 79) (args := [(15, 0)]) (rest := []) (g1 := (r8, hm, o)) (r1 := none) (zCk1_w (by decide +kernel)) rfl rfl rfl (st' := []) rfl (S21 (Nat.le_trans (by decide) hd)  r7.2 _ q13) ?_
            obtain ⟨r9, q14, e⟩ := zB_s e
            refine zF_blk (m := []) (d := 0) (b := B34_8) (gs := []) (c' := (134, [some (20, 0), some (0, (h 578 1 0)), some (1, (r2.2 327 0 0)), none, some (0, r4.1), some (0, (r7.2 326 0 0))], [(0, 9), (0, 1), (15, 0)], (r8, hm, o))) K34_8 rfl trivial ?_
            refine zF_call (k := 33) (cl := 5) (n := 3) (i := .invokevirtual 82) (args := [(15, 0), (0, 1), (0, 9)]) (rest := []) (g1 := (r9.2, hm, o)) (r1 := some (0, r9.1)) (zCk1_w (by decide +kernel)) rfl rfl rfl (st' := [(0, r9.1)]) rfl (S33 (Nat.le_trans (by decide) hd) 1 9 r8 _ q14) ?_
            rcases zI_s e with ⟨q15, e⟩ | ⟨q15, e⟩
            · refine zF_blk (m := []) (d := 1) (b := B34_12) (gs := [¬ r9.1 = 0]) (c' := (142, [some (20, 0), some (0, (h 578 1 0)), some (1, (r2.2 327 0 0)), none, some (0, r4.1), some (0, (r7.2 326 0 0))], [], (r9.2, hm, o))) K34_12 rfl ⟨q15, trivial⟩ ?_
              obtain ⟨q16, e⟩ := zG_s e
              obtain ⟨q16, e⟩ := zG_s e
              obtain ⟨q16, e⟩ := zG_s e
              obtain ⟨q16, e⟩ := zG_s e
              obtain ⟨r10, q17, e⟩ := zB_s e
              refine zF_blk (m := []) (d := 0) (b := B34_9) (gs := [0 ≤ (h 578 1 0) ∧ (h 578 1 0) < 6, 0 ≤ (h 578 1 0) ∧ (h 578 1 0) < 6, 0 ≤ (h 578 1 0) ∧ (h 578 1 0) < 6, 0 ≤ (h 578 1 0) ∧ (h 578 1 0) < 6]) (c' := (204, [some (20, 0), some (0, (h 578 1 0)), some (1, (r2.2 327 0 0)), none, some (0, r4.1), some (0, (r7.2 326 0 0))], [(15, 0)], ((hset (hset (hset (hset (hset r9.2 583 1 (h 578 1 0) (r2.2 327 0 0)) 584 1 (h 578 1 0) r4.1) 585 1 (h 578 1 0) (r7.2 326 0 0)) 586 1 (h 578 1 0) (r9.2 326 0 0)) 578 1 0 (wadd (h 578 1 0) 1)), hm, o))) K34_9 rfl ⟨q16, q16, q16, q16, trivial⟩ ?_
              refine zF_call (k := 21) (cl := 5) (n := 1) (i := .invokevirtual 79) (args := [(15, 0)]) (rest := []) (g1 := (r10, hm, o)) (r1 := none) (zCk1_w (by decide +kernel)) rfl rfl rfl (st' := []) rfl (S21 (Nat.le_trans (by decide) hd)  (hset (hset (hset (hset (hset r9.2 583 1 (h 578 1 0) (r2.2 327 0 0)) 584 1 (h 578 1 0) r4.1) 585 1 (h 578 1 0) (r7.2 326 0 0)) 586 1 (h 578 1 0) (r9.2 326 0 0)) 578 1 0 (wadd (h 578 1 0) 1)) _ q17) ?_
              refine zF_blk (m := []) (d := 0) (b := B34_10) (gs := []) (c' := (208, [some (20, 0), some (0, (h 578 1 0)), some (1, (r2.2 327 0 0)), none, some (0, r4.1), some (0, (r7.2 326 0 0))], [(0, 1)], (r10, hm, o))) K34_10 rfl trivial ?_
              exact zF_rbC (zRe1_w (by decide +kernel)) (Or.inr rfl) e
            · refine zF_blk (m := []) (d := 0) (b := B34_12) (gs := [¬ (¬ r9.1 = 0)]) (c' := (140, [some (20, 0), some (0, (h 578 1 0)), some (1, (r2.2 327 0 0)), none, some (0, r4.1), some (0, (r7.2 326 0 0))], [], (r9.2, hm, o))) K34_12 rfl ⟨q15, trivial⟩ ?_
              refine zF_blk (m := []) (d := 0) (b := B34_11) (gs := []) (c' := (141, [some (20, 0), some (0, (h 578 1 0)), some (1, (r2.2 327 0 0)), none, some (0, r4.1), some (0, (r7.2 326 0 0))], [(0, 0)], (r9.2, hm, o))) K34_11 rfl trivial ?_
              exact zF_rbC (zRe1_w (by decide +kernel)) (Or.inl rfl) e
          · refine zF_blk (m := []) (d := 0) (b := B34_14) (gs := [¬ (¬ r7.1 = 0)]) (c' := (109, [some (20, 0), some (0, (h 578 1 0)), some (1, (r2.2 327 0 0)), none, some (0, r4.1), none], [], (r7.2, hm, o))) K34_14 rfl ⟨q12, trivial⟩ ?_
            refine zF_blk (m := []) (d := 0) (b := B34_13) (gs := []) (c' := (110, [some (20, 0), some (0, (h 578 1 0)), some (1, (r2.2 327 0 0)), none, some (0, r4.1), none], [(0, 0)], (r7.2, hm, o))) K34_13 rfl trivial ?_
            exact zF_rbC (zRe1_w (by decide +kernel)) (Or.inl rfl) e
        · refine zF_blk (m := []) (d := 0) (b := B34_16) (gs := [¬ (r5 = 0)]) (c' := (80, [some (20, 0), some (0, (h 578 1 0)), some (1, (r2.2 327 0 0)), none, some (0, r4.1), none], [], (r4.2, hm, o))) K34_16 rfl ⟨q9, trivial⟩ ?_
          obtain ⟨r11, q18, e⟩ := zB_s e
          refine zF_blk (m := []) (d := 0) (b := B34_15) (gs := []) (c' := (85, [some (20, 0), some (0, (h 578 1 0)), some (1, (r2.2 327 0 0)), none, some (0, r4.1), none], [(0, 3), (15, 0)], (r4.2, hm, o))) K34_15 rfl trivial ?_
          refine zF_call (k := 31) (cl := 5) (n := 2) (i := .invokevirtual 49) (args := [(15, 0), (0, 3)]) (rest := []) (g1 := (r11.2, hm, o)) (r1 := some (0, r11.1)) (zCk1_w (by decide +kernel)) rfl rfl rfl (st' := [(0, r11.1)]) rfl (S31 (Nat.le_trans (by decide) hd) 3 r4.2 _ q18) ?_
          obtain ⟨q19, e⟩ := zG_s e
          exact zF_rbC (zRe1_w (by decide +kernel)) q19 e
      · refine zF_blk (m := []) (d := 0) (b := B34_18) (gs := [¬ (¬ r4.1 = (-1))]) (c' := (66, [some (20, 0), some (0, (h 578 1 0)), some (1, (r2.2 327 0 0)), none, some (0, r4.1), none], [], (r4.2, hm, o))) K34_18 rfl ⟨q7, trivial⟩ ?_
        refine zF_blk (m := []) (d := 0) (b := B34_17) (gs := []) (c' := (67, [some (20, 0), some (0, (h 578 1 0)), some (1, (r2.2 327 0 0)), none, some (0, r4.1), none], [(0, 0)], (r4.2, hm, o))) K34_17 rfl trivial ?_
        exact zF_rbC (zRe1_w (by decide +kernel)) (Or.inl rfl) e
    · refine zF_blk (m := []) (d := 0) (b := B34_20) (gs := [¬ (¬ r2.1 = 0)]) (c' := (37, [some (20, 0), some (0, (h 578 1 0)), none, none, none, none], [], (r2.2, hm, o))) K34_20 rfl ⟨q4, trivial⟩ ?_
      refine zF_blk (m := []) (d := 0) (b := B34_19) (gs := []) (c' := (38, [some (20, 0), some (0, (h 578 1 0)), none, none, none, none], [(0, 0)], (r2.2, hm, o))) K34_19 rfl trivial ?_
      exact zF_rbC (zRe1_w (by decide +kernel)) (Or.inl rfl) e
  · refine zF_blk (m := []) (d := 0) (b := B34_22) (gs := [¬ ((h 578 1 0) < 6)]) (c' := (14, [some (20, 0), some (0, (h 578 1 0)), none, none, none, none], [], (h, hm, o))) K34_22 rfl ⟨q1, trivial⟩ ?_
    obtain ⟨r12, q20, e⟩ := zB_s e
    refine zF_blk (m := []) (d := 0) (b := B34_21) (gs := []) (c' := (19, [some (20, 0), some (0, (h 578 1 0)), none, none, none, none], [(0, 4), (15, 0)], (h, hm, o))) K34_21 rfl trivial ?_
    refine zF_call (k := 31) (cl := 5) (n := 2) (i := .invokevirtual 49) (args := [(15, 0), (0, 4)]) (rest := []) (g1 := (r12.2, hm, o)) (r1 := some (0, r12.1)) (zCk1_w (by decide +kernel)) rfl rfl rfl (st' := [(0, r12.1)]) rfl (S31 (Nat.le_trans (by decide) hd) 4 h _ q20) ?_
    obtain ⟨q21, e⟩ := zG_s e
    exact zF_rbC (zRe1_w (by decide +kernel)) q21 e
