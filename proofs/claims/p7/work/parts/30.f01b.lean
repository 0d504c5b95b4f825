/-! Functions of the methods, by wip/gen/lift.py. -/
def zFu : Nat := 1048576
theorem zF_riC {run : zRn zH2} {mi pc : Nat} {L : zLo} {x : Int} {g : zHC} {hm : zHM} {o : Int → Int} {v : Int × zHC} (hk : zRe1 mi pc .ireturn (some .int) = true) (e : some (x, g) = some v) : zFin 0 (fun _ => 0) run mi (some (0, v.1)) (v.2, hm, o) (pc, L, [(0, x)], (g, hm, o)) := by
  have q := Option.some.inj e
  subst q
  exact zF_ri hk
theorem zF_rbC {run : zRn zH2} {mi pc : Nat} {L : zLo} {x : Int} {g : zHC} {hm : zHM} {o : Int → Int} {v : Int × zHC} (hk : zRe1 mi pc .ireturn (some .boolean) = true) (hv : x = 0 ∨ x = 1) (e : some (x, g) = some v) : zFin 0 (fun _ => 0) run mi (some (0, v.1)) (v.2, hm, o) (pc, L, [(0, x)], (g, hm, o)) := by
  have q := Option.some.inj e
  subst q
  exact zF_rb hk hv
theorem zF_rlC {run : zRn zH2} {mi pc : Nat} {L : zLo} {x : Int} {g : zHC} {hm : zHM} {o : Int → Int} {v : Int × zHC} (hk : zRe1 mi pc .lreturn (some .long) = true) (e : some (x, g) = some v) : zFin 0 (fun _ => 0) run mi (some (1, v.1)) (v.2, hm, o) (pc, L, [(1, x)], (g, hm, o)) := by
  have q := Option.some.inj e
  subst q
  exact zF_rl hk
theorem zF_riM {run : zRn zH2} {mi pc : Nat} {L : zLo} {x : Int} {g : zHM} {hc : zHC} {o : Int → Int} {v : Int × zHM} (hk : zRe1 mi pc .ireturn (some .int) = true) (e : some (x, g) = some v) : zFin 0 (fun _ => 0) run mi (some (0, v.1)) (hc, v.2, o) (pc, L, [(0, x)], (hc, g, o)) := by
  have q := Option.some.inj e
  subst q
  exact zF_ri hk
theorem zF_rbM {run : zRn zH2} {mi pc : Nat} {L : zLo} {x : Int} {g : zHM} {hc : zHC} {o : Int → Int} {v : Int × zHM} (hk : zRe1 mi pc .ireturn (some .boolean) = true) (hv : x = 0 ∨ x = 1) (e : some (x, g) = some v) : zFin 0 (fun _ => 0) run mi (some (0, v.1)) (hc, v.2, o) (pc, L, [(0, x)], (hc, g, o)) := by
  have q := Option.some.inj e
  subst q
  exact zF_rb hk hv
theorem zF_rlM {run : zRn zH2} {mi pc : Nat} {L : zLo} {x : Int} {g : zHM} {hc : zHC} {o : Int → Int} {v : Int × zHM} (hk : zRe1 mi pc .lreturn (some .long) = true) (e : some (x, g) = some v) : zFin 0 (fun _ => 0) run mi (some (1, v.1)) (hc, v.2, o) (pc, L, [(1, x)], (hc, g, o)) := by
  have q := Option.some.inj e
  subst q
  exact zF_rl hk
def F15_0 : Nat → Int → Int → zHC → Option zHC
  | 0, _, _, _ => none
  | n + 1, v1, v2, h => if v2 < 0 then some h else if 940 ≤ (h 321 0 0) then some h else zG (0 ≤ (h 321 0 0) ∧ (h 321 0 0) < 940) ((F15_0 n) v1 (wadd v2 (-8)) (hset (hset h 320 0 (h 321 0 0) (wand (wushr v1 v2) 255)) 321 0 0 (wadd (h 321 0 0) 1)))
set_option maxRecDepth 100000 in
theorem T15_0 {spec : zRn zH2} {hm : zHM} {o : Int → Int} {d : Nat} (hd : 0 ≤ d) : ∀ (n : Nat) (v1 : Int) (v2 : Int) (h : zHC) (v : zHC), F15_0 n v1 v2 h = some v → zFin 0 (fun _ => 0) (zRu2 spec d) 15 none (v, hm, o) (3, [some (15, 0), some (0, v1), some (0, v2)], [], (h, hm, o)) := by
  intro n
  induction n with
  | zero => intro v1 v2 h v e; unfold F15_0 at e; cases e
  | succ n hk0 =>
    intro v1 v2 h v e
    unfold F15_0 at e
    rcases zI_s e with ⟨q1, e⟩ | ⟨q1, e⟩
    · refine zF_blk (m := []) (d := 1) (b := B15_3) (gs := [v2 < 0]) (c' := (49, [some (15, 0), some (0, v1), some (0, v2)], [], (h, hm, o))) K15_3 rfl ⟨q1, trivial⟩ ?_
      obtain rfl := Option.some.inj e
      exact zF_rv (zRe1_w (by decide +kernel))
    · refine zF_blk (m := []) (d := 0) (b := B15_3) (gs := [¬ (v2 < 0)]) (c' := (7, [some (15, 0), some (0, v1), some (0, v2)], [], (h, hm, o))) K15_3 rfl ⟨q1, trivial⟩ ?_
      rcases zI_s e with ⟨q2, e⟩ | ⟨q2, e⟩
      · refine zF_blk (m := []) (d := 1) (b := B15_2) (gs := [940 ≤ (h 321 0 0)]) (c' := (49, [some (15, 0), some (0, v1), some (0, v2)], [], (h, hm, o))) K15_2 rfl ⟨q2, trivial⟩ ?_
        obtain rfl := Option.some.inj e
        exact zF_rv (zRe1_w (by decide +kernel))
      · refine zF_blk (m := []) (d := 0) (b := B15_2) (gs := [¬ (940 ≤ (h 321 0 0))]) (c' := (17, [some (15, 0), some (0, v1), some (0, v2)], [], (h, hm, o))) K15_2 rfl ⟨q2, trivial⟩ ?_
        obtain ⟨q3, e⟩ := zG_s e
        refine zF_blk (m := []) (d := 0) (b := B15_1) (gs := [0 ≤ (h 321 0 0) ∧ (h 321 0 0) < 940]) (c' := (3, [some (15, 0), some (0, v1), some (0, (wadd v2 (-8)))], [], ((hset (hset h 320 0 (h 321 0 0) (wand (wushr v1 v2) 255)) 321 0 0 (wadd (h 321 0 0) 1)), hm, o))) K15_1 rfl ⟨q3, trivial⟩ ?_
        exact hk0 v1 (wadd v2 (-8)) (hset (hset h 320 0 (h 321 0 0) (wand (wushr v1 v2) 255)) 321 0 0 (wadd (h 321 0 0) 1)) _ e
/-- EchoVale$Reader.addBytes(I)V -/
def F15 (v1 : Int) (h : zHC) : Option zHC := F15_0 zFu v1 24 h
set_option maxRecDepth 100000 in
theorem S15 {spec : zRn zH2} {hm : zHM} {o : Int → Int} {d : Nat} (hd : 1 ≤ d) (v1 : Int) (h : zHC) (v : zHC) (e : F15 v1 h = some v) : zRu2 spec d 15 [(15, 0), (0, v1)] (h, hm, o) none (v, hm, o) := by
  refine zF_in (D := 0) (mx := 3) (L := [some (15, 0), some (0, v1), none]) (by decide +kernel) rfl rfl hd (fun d hd => ?_)
  unfold F15 at e
  refine zF_blk (m := []) (d := 0) (b := B15_0) (gs := []) (c' := (3, [some (15, 0), some (0, v1), some (0, 24)], [], (h, hm, o))) K15_0 rfl trivial ?_
  exact T15_0 hd zFu v1 24 h _ e
/-- EchoVale.feed(IIIII)I -/
def F14 (v1 : Int) (v2 : Int) (v3 : Int) (v4 : Int) (v5 : Int) (h : zHC) : Option (Int × zHC) := if (wadd (h 321 0 0) 20) ≤ 940 then (F15 v1 h).bind fun r1 => (F15 v2 r1).bind fun r2 => (F15 v3 r2).bind fun r3 => (F15 v4 r3).bind fun r4 => (F15 v5 r4).bind fun r5 => some ((r5 321 0 0), r5) else some ((-1), h)
set_option maxRecDepth 100000 in
theorem S14 {spec : zRn zH2} {hm : zHM} {o : Int → Int} {d : Nat} (hd : 2 ≤ d) (v1 : Int) (v2 : Int) (v3 : Int) (v4 : Int) (v5 : Int) (h : zHC) (v : (Int × zHC)) (e : F14 v1 v2 v3 v4 v5 h = some v) : zRu2 spec d 14 [(21, 0), (0, v1), (0, v2), (0, v3), (0, v4), (0, v5)] (h, hm, o) (some (0, v.1)) (v.2, hm, o) := by
  refine zF_in (D := 1) (mx := 6) (L := [some (21, 0), some (0, v1), some (0, v2), some (0, v3), some (0, v4), some (0, v5)]) (by decide +kernel) rfl rfl hd (fun d hd => ?_)
  unfold F14 at e
  rcases zI_s e with ⟨q1, e⟩ | ⟨q1, e⟩
  · refine zF_blk (m := []) (d := 1) (b := B14_7) (gs := [(wadd (h 321 0 0) 20) ≤ 940]) (c' := (18, [some (21, 0), some (0, v1), some (0, v2), some (0, v3), some (0, v4), some (0, v5)], [], (h, hm, o))) K14_7 rfl ⟨q1, trivial⟩ ?_
    obtain ⟨r1, q2, e⟩ := zB_s e
    refine zF_blk (m := []) (d := 0) (b := B14_0) (gs := []) (c' := (23, [some (21, 0), some (0, v1), some (0, v2), some (0, v3), some (0, v4), some (0, v5)], [(0, v1), (15, 0)], (h, hm, o))) K14_0 rfl trivial ?_
    refine zF_call (k := 15) (cl := 5) (n := 2) (i := .invokevirtual 108) (args := [(15, 0), (0, v1)]) (rest := []) (g1 := (r1, hm, o)) (r1 := none) (zCk1_w (by decide +kernel)) rfl rfl rfl (st' := []) rfl (S15 (Nat.le_trans (by decide) hd) v1 h _ q2) ?_
    obtain ⟨r2, q3, e⟩ := zB_s e
    refine zF_blk (m := []) (d := 0) (b := B14_1) (gs := []) (c' := (31, [some (21, 0), some (0, v1), some (0, v2), some (0, v3), some (0, v4), some (0, v5)], [(0, v2), (15, 0)], (r1, hm, o))) K14_1 rfl trivial ?_
    refine zF_call (k := 15) (cl := 5) (n := 2) (i := .invokevirtual 108) (args := [(15, 0), (0, v2)]) (rest := []) (g1 := (r2, hm, o)) (r1 := none) (zCk1_w (by decide +kernel)) rfl rfl rfl (st' := []) rfl (S15 (Nat.le_trans (by decide) hd) v2 r1 _ q3) ?_
    obtain ⟨r3, q4, e⟩ := zB_s e
    refine zF_blk (m := []) (d := 0) (b := B14_2) (gs := []) (c' := (39, [some (21, 0), some (0, v1), some (0, v2), some (0, v3), some (0, v4), some (0, v5)], [(0, v3), (15, 0)], (r2, hm, o))) K14_2 rfl trivial ?_
    refine zF_call (k := 15) (cl := 5) (n := 2) (i := .invokevirtual 108) (args := [(15, 0), (0, v3)]) (rest := []) (g1 := (r3, hm, o)) (r1 := none) (zCk1_w (by decide +kernel)) rfl rfl rfl (st' := []) rfl (S15 (Nat.le_trans (by decide) hd) v3 r2 _ q4) ?_
    obtain ⟨r4, q5, e⟩ := zB_s e
    refine zF_blk (m := []) (d := 0) (b := B14_3) (gs := []) (c' := (48, [some (21, 0), some (0, v1), some (0, v2), some (0, v3), some (0, v4), some (0, v5)], [(0, v4), (15, 0)], (r3, hm, o))) K14_3 rfl trivial ?_
    refine zF_call (k := 15) (cl := 5) (n := 2) (i := .invokevirtual 108) (args := [(15, 0), (0, v4)]) (rest := []) (g1 := (r4, hm, o)) (r1 := none) (zCk1_w (by decide +kernel)) rfl rfl rfl (st' := []) rfl (S15 (Nat.le_trans (by decide) hd) v4 r3 _ q5) ?_
    obtain ⟨r5, q6, e⟩ := zB_s e
    refine zF_blk (m := []) (d := 0) (b := B14_4) (gs := []) (c' := (57, [some (21, 0), some (0, v1), some (0, v2), some (0, v3), some (0, v4), some (0, v5)], [(0, v5), (15, 0)], (r4, hm, o))) K14_4 rfl trivial ?_
    refine zF_call (k := 15) (cl := 5) (n := 2) (i := .invokevirtual 108) (args := [(15, 0), (0, v5)]) (rest := []) (g1 := (r5, hm, o)) (r1 := none) (zCk1_w (by decide +kernel)) rfl rfl rfl (st' := []) rfl (S15 (Nat.le_trans (by decide) hd) v5 r4 _ q6) ?_
    refine zF_blk (m := []) (d := 0) (b := B14_5) (gs := []) (c' := (67, [some (21, 0), some (0, v1), some (0, v2), some (0, v3), some (0, v4), some (0, v5)], [(0, (r5 321 0 0))], (r5, hm, o))) K14_5 rfl trivial ?_
    exact zF_riC (zRe1_w (by decide +kernel)) e
  · refine zF_blk (m := []) (d := 0) (b := B14_7) (gs := [¬ ((wadd (h 321 0 0) 20) ≤ 940)]) (c' := (16, [some (21, 0), some (0, v1), some (0, v2), some (0, v3), some (0, v4), some (0, v5)], [], (h, hm, o))) K14_7 rfl ⟨q1, trivial⟩ ?_
    refine zF_blk (m := []) (d := 0) (b := B14_6) (gs := []) (c' := (17, [some (21, 0), some (0, v1), some (0, v2), some (0, v3), some (0, v4), some (0, v5)], [(0, (-1))], (h, hm, o))) K14_6 rfl trivial ?_
    exact zF_riC (zRe1_w (by decide +kernel)) e
def F171_0 : Nat → Int → Int → zHM → Option zHM
  | 0, _, _, _ => none
  | n + 1, v1, v2, h => if v2 < 0 then some h else zG (0 ≤ (h 2 0) ∧ (h 2 0) < 940) ((F171_0 n) v1 (wadd v2 (-8)) (mset (mset h 1 (h 2 0) (wand (wushr v1 v2) 255)) 2 0 (wadd (h 2 0) 1)))
set_option maxRecDepth 100000 in
theorem T171_0 {spec : zRn zH2} {hc : zHC} {o : Int → Int} {d : Nat} (hd : 0 ≤ d) : ∀ (n : Nat) (v1 : Int) (v2 : Int) (h : zHM) (v : zHM), F171_0 n v1 v2 h = some v → zFin 0 (fun _ => 0) (zRu2 spec d) 171 none (hc, v, o) (3, [some (22, 0), some (0, v1), some (0, v2)], [], (hc, h, o)) := by
  intro n
  induction n with
  | zero => intro v1 v2 h v e; unfold F171_0 at e; cases e
  | succ n hk0 =>
    intro v1 v2 h v e
    unfold F171_0 at e
    rcases zI_s e with ⟨q1, e⟩ | ⟨q1, e⟩
    · refine zF_blk (m := []) (d := 1) (b := B171_2) (gs := [v2 < 0]) (c' := (39, [some (22, 0), some (0, v1), some (0, v2)], [], (hc, h, o))) K171_2 rfl ⟨q1, trivial⟩ ?_
      obtain rfl := Option.some.inj e
      exact zF_rv (zRe1_w (by decide +kernel))
    · refine zF_blk (m := []) (d := 0) (b := B171_2) (gs := [¬ (v2 < 0)]) (c' := (7, [some (22, 0), some (0, v1), some (0, v2)], [], (hc, h, o))) K171_2 rfl ⟨q1, trivial⟩ ?_
      obtain ⟨q2, e⟩ := zG_s e
      refine zF_blk (m := []) (d := 0) (b := B171_1) (gs := [0 ≤ (h 2 0) ∧ (h 2 0) < 940]) (c' := (3, [some (22, 0), some (0, v1), some (0, (wadd v2 (-8)))], [], (hc, (mset (mset h 1 (h 2 0) (wand (wushr v1 v2) 255)) 2 0 (wadd (h 2 0) 1)), o))) K171_1 rfl ⟨q2, trivial⟩ ?_
      exact hk0 v1 (wadd v2 (-8)) (mset (mset h 1 (h 2 0) (wand (wushr v1 v2) 255)) 2 0 (wadd (h 2 0) 1)) _ e
/-- EchoValeModel.come(I)V -/
def F171 (v1 : Int) (h : zHM) : Option zHM := F171_0 zFu v1 24 h
set_option maxRecDepth 100000 in
theorem S171 {spec : zRn zH2} {hc : zHC} {o : Int → Int} {d : Nat} (hd : 1 ≤ d) (v1 : Int) (h : zHM) (v : zHM) (e : F171 v1 h = some v) : zRu2 spec d 171 [(22, 0), (0, v1)] (hc, h, o) none (hc, v, o) := by
  refine zF_in (D := 0) (mx := 3) (L := [some (22, 0), some (0, v1), none]) (by decide +kernel) rfl rfl hd (fun d hd => ?_)
  unfold F171 at e
  refine zF_blk (m := []) (d := 0) (b := B171_0) (gs := []) (c' := (3, [some (22, 0), some (0, v1), some (0, 24)], [], (hc, h, o))) K171_0 rfl trivial ?_
  exact T171_0 hd zFu v1 24 h _ e
/-- EchoValeModel.feed(IIIII)I -/
def F170 (v1 : Int) (v2 : Int) (v3 : Int) (v4 : Int) (v5 : Int) (h : zHM) : Option (Int × zHM) := if (wadd (h 2 0) 20) ≤ 940 then (F171 v1 (mset h 0 0 0)).bind fun r1 => (F171 v2 r1).bind fun r2 => (F171 v3 r2).bind fun r3 => (F171 v4 r3).bind fun r4 => (F171 v5 r4).bind fun r5 => some ((r5 2 0), r5) else some ((-1), (mset h 0 0 0))
set_option maxRecDepth 100000 in
theorem S170 {spec : zRn zH2} {hc : zHC} {o : Int → Int} {d : Nat} (hd : 2 ≤ d) (v1 : Int) (v2 : Int) (v3 : Int) (v4 : Int) (v5 : Int) (h : zHM) (v : (Int × zHM)) (e : F170 v1 v2 v3 v4 v5 h = some v) : zRu2 spec d 170 [(22, 0), (0, v1), (0, v2), (0, v3), (0, v4), (0, v5)] (hc, h, o) (some (0, v.1)) (hc, v.2, o) := by
  refine zF_in (D := 1) (mx := 6) (L := [some (22, 0), some (0, v1), some (0, v2), some (0, v3), some (0, v4), some (0, v5)]) (by decide +kernel) rfl rfl hd (fun d hd => ?_)
  unfold F170 at e
  rcases zI_s e with ⟨q1, e⟩ | ⟨q1, e⟩
  · refine zF_blk (m := []) (d := 1) (b := B170_7) (gs := [(wadd (h 2 0) 20) ≤ 940]) (c' := (20, [some (22, 0), some (0, v1), some (0, v2), some (0, v3), some (0, v4), some (0, v5)], [], (hc, (mset h 0 0 0), o))) K170_7 rfl ⟨q1, trivial⟩ ?_
    obtain ⟨r1, q2, e⟩ := zB_s e
    refine zF_blk (m := []) (d := 0) (b := B170_0) (gs := []) (c' := (22, [some (22, 0), some (0, v1), some (0, v2), some (0, v3), some (0, v4), some (0, v5)], [(0, v1), (22, 0)], (hc, (mset h 0 0 0), o))) K170_0 rfl trivial ?_
    refine zF_call (k := 171) (cl := 12) (n := 2) (i := .invokevirtual 88) (args := [(22, 0), (0, v1)]) (rest := []) (g1 := (hc, r1, o)) (r1 := none) (zCk1_w (by decide +kernel)) rfl rfl rfl (st' := []) rfl (S171 (Nat.le_trans (by decide) hd) v1 (mset h 0 0 0) _ q2) ?_
    obtain ⟨r2, q3, e⟩ := zB_s e
    refine zF_blk (m := []) (d := 0) (b := B170_1) (gs := []) (c' := (27, [some (22, 0), some (0, v1), some (0, v2), some (0, v3), some (0, v4), some (0, v5)], [(0, v2), (22, 0)], (hc, r1, o))) K170_1 rfl trivial ?_
    refine zF_call (k := 171) (cl := 12) (n := 2) (i := .invokevirtual 88) (args := [(22, 0), (0, v2)]) (rest := []) (g1 := (hc, r2, o)) (r1 := none) (zCk1_w (by decide +kernel)) rfl rfl rfl (st' := []) rfl (S171 (Nat.le_trans (by decide) hd) v2 r1 _ q3) ?_
    obtain ⟨r3, q4, e⟩ := zB_s e
    refine zF_blk (m := []) (d := 0) (b := B170_2) (gs := []) (c' := (32, [some (22, 0), some (0, v1), some (0, v2), some (0, v3), some (0, v4), some (0, v5)], [(0, v3), (22, 0)], (hc, r2, o))) K170_2 rfl trivial ?_
    refine zF_call (k := 171) (cl := 12) (n := 2) (i := .invokevirtual 88) (args := [(22, 0), (0, v3)]) (rest := []) (g1 := (hc, r3, o)) (r1 := none) (zCk1_w (by decide +kernel)) rfl rfl rfl (st' := []) rfl (S171 (Nat.le_trans (by decide) hd) v3 r2 _ q4) ?_
    obtain ⟨r4, q5, e⟩ := zB_s e
    refine zF_blk (m := []) (d := 0) (b := B170_3) (gs := []) (c' := (38, [some (22, 0), some (0, v1), some (0, v2), some (0, v3), some (0, v4), some (0, v5)], [(0, v4), (22, 0)], (hc, r3, o))) K170_3 rfl trivial ?_
    refine zF_call (k := 171) (cl := 12) (n := 2) (i := .invokevirtual 88) (args := [(22, 0), (0, v4)]) (rest := []) (g1 := (hc, r4, o)) (r1 := none) (zCk1_w (by decide +kernel)) rfl rfl rfl (st' := []) rfl (S171 (Nat.le_trans (by decide) hd) v4 r3 _ q5) ?_
    obtain ⟨r5, q6, e⟩ := zB_s e
    refine zF_blk (m := []) (d := 0) (b := B170_4) (gs := []) (c' := (44, [some (22, 0), some (0, v1), some (0, v2), some (0, v3), some (0, v4), some (0, v5)], [(0, v5), (22, 0)], (hc, r4, o))) K170_4 rfl trivial ?_
    refine zF_call (k := 171) (cl := 12) (n := 2) (i := .invokevirtual 88) (args := [(22, 0), (0, v5)]) (rest := []) (g1 := (hc, r5, o)) (r1 := none) (zCk1_w (by decide +kernel)) rfl rfl rfl (st' := []) rfl (S171 (Nat.le_trans (by decide) hd) v5 r4 _ q6) ?_
    refine zF_blk (m := []) (d := 0) (b := B170_5) (gs := []) (c' := (51, [some (22, 0), some (0, v1), some (0, v2), some (0, v3), some (0, v4), some (0, v5)], [(0, (r5 2 0))], (hc, r5, o))) K170_5 rfl trivial ?_
    exact zF_riM (zRe1_w (by decide +kernel)) e
  · refine zF_blk (m := []) (d := 0) (b := B170_7) (gs := [¬ ((wadd (h 2 0) 20) ≤ 940)]) (c' := (18, [some (22, 0), some (0, v1), some (0, v2), some (0, v3), some (0, v4), some (0, v5)], [], (hc, (mset h 0 0 0), o))) K170_7 rfl ⟨q1, trivial⟩ ?_
    refine zF_blk (m := []) (d := 0) (b := B170_6) (gs := []) (c' := (19, [some (22, 0), some (0, v1), some (0, v2), some (0, v3), some (0, v4), some (0, v5)], [(0, (-1))], (hc, (mset h 0 0 0), o))) K170_6 rfl trivial ?_
    exact zF_riM (zRe1_w (by decide +kernel)) e
/-- EchoVale.end(I)Z -/
def F16 (v1 : Int) (h : zHC) : Option (Int × zHC) := if v1 < 0 then some (0, h) else if v1 ≤ (h 321 0 0) then some (1, (hset h 321 0 0 v1)) else some (0, h)
set_option maxRecDepth 100000 in
theorem S16 {spec : zRn zH2} {hm : zHM} {o : Int → Int} {d : Nat} (hd : 1 ≤ d) (v1 : Int) (h : zHC) (v : (Int × zHC)) (e : F16 v1 h = some v) : zRu2 spec d 16 [(21, 0), (0, v1)] (h, hm, o) (some (0, v.1)) (v.2, hm, o) := by
  refine zF_in (D := 0) (mx := 2) (L := [some (21, 0), some (0, v1)]) (by decide +kernel) rfl rfl hd (fun d hd => ?_)
  unfold F16 at e
  rcases zI_s e with ⟨q1, e⟩ | ⟨q1, e⟩
  · refine zF_blk (m := []) (d := 1) (b := B16_3) (gs := [v1 < 0]) (c' := (15, [some (21, 0), some (0, v1)], [], (h, hm, o))) K16_3 rfl ⟨q1, trivial⟩ ?_
    refine zF_blk (m := []) (d := 0) (b := B16_0) (gs := []) (c' := (16, [some (21, 0), some (0, v1)], [(0, 0)], (h, hm, o))) K16_0 rfl trivial ?_
    exact zF_rbC (zRe1_w (by decide +kernel)) (Or.inl rfl) e
  · refine zF_blk (m := []) (d := 0) (b := B16_3) (gs := [¬ (v1 < 0)]) (c' := (4, [some (21, 0), some (0, v1)], [], (h, hm, o))) K16_3 rfl ⟨q1, trivial⟩ ?_
    rcases zI_s e with ⟨q2, e⟩ | ⟨q2, e⟩
    · refine zF_blk (m := []) (d := 1) (b := B16_2) (gs := [v1 ≤ (h 321 0 0)]) (c' := (17, [some (21, 0), some (0, v1)], [], (h, hm, o))) K16_2 rfl ⟨q2, trivial⟩ ?_
      refine zF_blk (m := []) (d := 0) (b := B16_1) (gs := []) (c' := (26, [some (21, 0), some (0, v1)], [(0, 1)], ((hset h 321 0 0 v1), hm, o))) K16_1 rfl trivial ?_
      exact zF_rbC (zRe1_w (by decide +kernel)) (Or.inr rfl) e
    · refine zF_blk (m := []) (d := 0) (b := B16_2) (gs := [¬ (v1 ≤ (h 321 0 0))]) (c' := (15, [some (21, 0), some (0, v1)], [], (h, hm, o))) K16_2 rfl ⟨q2, trivial⟩ ?_
      refine zF_blk (m := []) (d := 0) (b := B16_0) (gs := []) (c' := (16, [some (21, 0), some (0, v1)], [(0, 0)], (h, hm, o))) K16_0 rfl trivial ?_
      exact zF_rbC (zRe1_w (by decide +kernel)) (Or.inl rfl) e
/-- EchoValeModel.end(I)Z -/
def F172 (v1 : Int) (h : zHM) : Option (Int × zHM) := if v1 < 0 then some (0, (mset h 0 0 0)) else if v1 ≤ (h 2 0) then some (1, (mset (mset h 0 0 0) 2 0 v1)) else some (0, (mset h 0 0 0))
set_option maxRecDepth 100000 in
theorem S172 {spec : zRn zH2} {hc : zHC} {o : Int → Int} {d : Nat} (hd : 1 ≤ d) (v1 : Int) (h : zHM) (v : (Int × zHM)) (e : F172 v1 h = some v) : zRu2 spec d 172 [(22, 0), (0, v1)] (hc, h, o) (some (0, v.1)) (hc, v.2, o) := by
  refine zF_in (D := 0) (mx := 2) (L := [some (22, 0), some (0, v1)]) (by decide +kernel) rfl rfl hd (fun d hd => ?_)
  unfold F172 at e
  rcases zI_s e with ⟨q1, e⟩ | ⟨q1, e⟩
  · refine zF_blk (m := []) (d := 1) (b := B172_3) (gs := [v1 < 0]) (c' := (17, [some (22, 0), some (0, v1)], [], (hc, (mset h 0 0 0), o))) K172_3 rfl ⟨q1, trivial⟩ ?_
    refine zF_blk (m := []) (d := 0) (b := B172_0) (gs := []) (c' := (18, [some (22, 0), some (0, v1)], [(0, 0)], (hc, (mset h 0 0 0), o))) K172_0 rfl trivial ?_
    exact zF_rbM (zRe1_w (by decide +kernel)) (Or.inl rfl) e
  · refine zF_blk (m := []) (d := 0) (b := B172_3) (gs := [¬ (v1 < 0)]) (c' := (9, [some (22, 0), some (0, v1)], [], (hc, (mset h 0 0 0), o))) K172_3 rfl ⟨q1, trivial⟩ ?_
    rcases zI_s e with ⟨q2, e⟩ | ⟨q2, e⟩
    · refine zF_blk (m := []) (d := 1) (b := B172_2) (gs := [v1 ≤ (h 2 0)]) (c' := (19, [some (22, 0), some (0, v1)], [], (hc, (mset h 0 0 0), o))) K172_2 rfl ⟨q2, trivial⟩ ?_
      refine zF_blk (m := []) (d := 0) (b := B172_1) (gs := []) (c' := (25, [some (22, 0), some (0, v1)], [(0, 1)], (hc, (mset (mset h 0 0 0) 2 0 v1), o))) K172_1 rfl trivial ?_
      exact zF_rbM (zRe1_w (by decide +kernel)) (Or.inr rfl) e
    · refine zF_blk (m := []) (d := 0) (b := B172_2) (gs := [¬ (v1 ≤ (h 2 0))]) (c' := (17, [some (22, 0), some (0, v1)], [], (hc, (mset h 0 0 0), o))) K172_2 rfl ⟨q2, trivial⟩ ?_
      refine zF_blk (m := []) (d := 0) (b := B172_0) (gs := []) (c' := (18, [some (22, 0), some (0, v1)], [(0, 0)], (hc, (mset h 0 0 0), o))) K172_0 rfl trivial ?_
      exact zF_rbM (zRe1_w (by decide +kernel)) (Or.inl rfl) e
/-- EchoVale$Valley.clear()V -/
def F19 (v0 : Int) (h : zHC) : Option zHC := some (hset (hset (hset (hset (hset (hset (hset h 576 v0 0 0) 577 v0 0 0) 578 v0 0 0) 579 v0 0 0) 580 v0 0 0) 581 v0 0 0) 582 v0 0 0)
set_option maxRecDepth 100000 in
theorem S19 {spec : zRn zH2} {hm : zHM} {o : Int → Int} {d : Nat} (hd : 1 ≤ d) (v0 : Int) (h : zHC) (v : zHC) (e : F19 v0 h = some v) : zRu2 spec d 19 [(19, v0)] (h, hm, o) none (v, hm, o) := by
  refine zF_in (D := 0) (mx := 1) (L := [some (19, v0)]) (by decide +kernel) rfl rfl hd (fun d hd => ?_)
  unfold F19 at e
  refine zF_blk (m := []) (d := 0) (b := B19_0) (gs := []) (c' := (35, [some (19, v0)], [], ((hset (hset (hset (hset (hset (hset (hset h 576 v0 0 0) 577 v0 0 0) 578 v0 0 0) 579 v0 0 0) 580 v0 0 0) 581 v0 0 0) 582 v0 0 0), hm, o))) K19_0 rfl trivial ?_
  obtain rfl := Option.some.inj e
  exact zF_rv (zRe1_w (by decide +kernel))
def F23_0 : Option Int := some 1
set_option maxRecDepth 100000 in
theorem T23_0 {spec : zRn zH2} {hm : zHM} {o : Int → Int} {d : Nat} (hd : 0 ≤ d) (h : zHC) (v : Int) (e : F23_0 = some v) : zFin 0 (fun _ => 0) (zRu2 spec d) 23 (some (0, v)) (h, hm, o) (12, [none], [], (h, hm, o)) := by
  unfold F23_0 at e
  refine zF_blk (m := []) (d := 0) (b := B23_3) (gs := []) (c' := (17, [none], [(0, 1)], (h, hm, o))) K23_3 rfl trivial ?_
  obtain rfl := Option.some.inj e
  exact zF_rb (zRe1_w (by decide +kernel)) (Or.inr rfl)
/-- EchoVale$Reader.isBlank(I)Z -/
def F23 (v0 : Int) : Option Int := if v0 = 32 then F23_0 else if ¬ v0 = 10 then some 0 else F23_0
set_option maxRecDepth 100000 in
theorem S23 {spec : zRn zH2} {hm : zHM} {o : Int → Int} {d : Nat} (hd : 1 ≤ d) (v0 : Int) (h : zHC) (v : Int) (e : F23 v0 = some v) : zRu2 spec d 23 [(0, v0)] (h, hm, o) (some (0, v)) (h, hm, o) := by
  refine zF_in (D := 0) (mx := 1) (L := [some (0, v0)]) (by decide +kernel) rfl rfl hd (fun d hd => ?_)
  unfold F23 at e
  rcases zI_s e with ⟨q1, e⟩ | ⟨q1, e⟩
  · refine zF_blk (m := []) (d := 1) (b := B23_2) (gs := [v0 = 32]) (c' := (12, [some (0, v0)], [], (h, hm, o))) K23_2 rfl ⟨q1, trivial⟩ ?_
    refine zF_blk (m := [false]) (d := 0) (b := []) (gs := []) (c' := (12, [none], [], (h, hm, o))) rfl rfl trivial ?_
    exact T23_0 hd h _ e
  · refine zF_blk (m := []) (d := 0) (b := B23_2) (gs := [¬ (v0 = 32)]) (c' := (6, [some (0, v0)], [], (h, hm, o))) K23_2 rfl ⟨q1, trivial⟩ ?_
    rcases zI_s e with ⟨q2, e⟩ | ⟨q2, e⟩
    · refine zF_blk (m := []) (d := 1) (b := B23_1) (gs := [¬ v0 = 10]) (c' := (16, [some (0, v0)], [], (h, hm, o))) K23_1 rfl ⟨q2, trivial⟩ ?_
      refine zF_blk (m := []) (d := 0) (b := B23_0) (gs := []) (c' := (17, [some (0, v0)], [(0, 0)], (h, hm, o))) K23_0 rfl trivial ?_
      obtain rfl := Option.some.inj e
      exact zF_rb (zRe1_w (by decide +kernel)) (Or.inl rfl)
    · refine zF_blk (m := []) (d := 0) (b := B23_1) (gs := [¬ (¬ v0 = 10)]) (c' := (12, [some (0, v0)], [], (h, hm, o))) K23_1 rfl ⟨q2, trivial⟩ ?_
      refine zF_blk (m := [false]) (d := 0) (b := []) (gs := []) (c' := (12, [none], [], (h, hm, o))) rfl rfl trivial ?_
      exact T23_0 hd h _ e
/-- EchoVale$Reader.isLetter(I)Z -/
def F24 (v0 : Int) : Option Int := if v0 < 97 then some 0 else if 122 < v0 then some 0 else some 1
set_option maxRecDepth 100000 in
theorem S24 {spec : zRn zH2} {hm : zHM} {o : Int → Int} {d : Nat} (hd : 1 ≤ d) (v0 : Int) (h : zHC) (v : Int) (e : F24 v0 = some v) : zRu2 spec d 24 [(0, v0)] (h, hm, o) (some (0, v)) (h, hm, o) := by
  refine zF_in (D := 0) (mx := 1) (L := [some (0, v0)]) (by decide +kernel) rfl rfl hd (fun d hd => ?_)
  unfold F24 at e
  rcases zI_s e with ⟨q1, e⟩ | ⟨q1, e⟩
  · refine zF_blk (m := []) (d := 1) (b := B24_3) (gs := [v0 < 97]) (c' := (16, [some (0, v0)], [], (h, hm, o))) K24_3 rfl ⟨q1, trivial⟩ ?_
    refine zF_blk (m := []) (d := 0) (b := B24_0) (gs := []) (c' := (17, [some (0, v0)], [(0, 0)], (h, hm, o))) K24_0 rfl trivial ?_
    obtain rfl := Option.some.inj e
    exact zF_rb (zRe1_w (by decide +kernel)) (Or.inl rfl)
  · refine zF_blk (m := []) (d := 0) (b := B24_3) (gs := [¬ (v0 < 97)]) (c' := (6, [some (0, v0)], [], (h, hm, o))) K24_3 rfl ⟨q1, trivial⟩ ?_
    rcases zI_s e with ⟨q2, e⟩ | ⟨q2, e⟩
    · refine zF_blk (m := []) (d := 1) (b := B24_2) (gs := [122 < v0]) (c' := (16, [some (0, v0)], [], (h, hm, o))) K24_2 rfl ⟨q2, trivial⟩ ?_
      refine zF_blk (m := []) (d := 0) (b := B24_0) (gs := []) (c' := (17, [some (0, v0)], [(0, 0)], (h, hm, o))) K24_0 rfl trivial ?_
      obtain rfl := Option.some.inj e
      exact zF_rb (zRe1_w (by decide +kernel)) (Or.inl rfl)
    · refine zF_blk (m := []) (d := 0) (b := B24_2) (gs := [¬ (122 < v0)]) (c' := (12, [some (0, v0)], [], (h, hm, o))) K24_2 rfl ⟨q2, trivial⟩ ?_
      refine zF_blk (m := []) (d := 0) (b := B24_1) (gs := []) (c' := (17, [some (0, v0)], [(0, 1)], (h, hm, o))) K24_1 rfl trivial ?_
      obtain rfl := Option.some.inj e
      exact zF_rb (zRe1_w (by decide +kernel)) (Or.inr rfl)
/-- EchoVale$Reader.isDigit(I)Z -/
def F25 (v0 : Int) : Option Int := if v0 < 48 then some 0 else if 57 < v0 then some 0 else some 1
set_option maxRecDepth 100000 in
theorem S25 {spec : zRn zH2} {hm : zHM} {o : Int → Int} {d : Nat} (hd : 1 ≤ d) (v0 : Int) (h : zHC) (v : Int) (e : F25 v0 = some v) : zRu2 spec d 25 [(0, v0)] (h, hm, o) (some (0, v)) (h, hm, o) := by
  refine zF_in (D := 0) (mx := 1) (L := [some (0, v0)]) (by decide +kernel) rfl rfl hd (fun d hd => ?_)
  unfold F25 at e
  rcases zI_s e with ⟨q1, e⟩ | ⟨q1, e⟩
  · refine zF_blk (m := []) (d := 1) (b := B25_3) (gs := [v0 < 48]) (c' := (16, [some (0, v0)], [], (h, hm, o))) K25_3 rfl ⟨q1, trivial⟩ ?_
    refine zF_blk (m := []) (d := 0) (b := B25_0) (gs := []) (c' := (17, [some (0, v0)], [(0, 0)], (h, hm, o))) K25_0 rfl trivial ?_
    obtain rfl := Option.some.inj e
    exact zF_rb (zRe1_w (by decide +kernel)) (Or.inl rfl)
  · refine zF_blk (m := []) (d := 0) (b := B25_3) (gs := [¬ (v0 < 48)]) (c' := (6, [some (0, v0)], [], (h, hm, o))) K25_3 rfl ⟨q1, trivial⟩ ?_
    rcases zI_s e with ⟨q2, e⟩ | ⟨q2, e⟩
    · refine zF_blk (m := []) (d := 1) (b := B25_2) (gs := [57 < v0]) (c' := (16, [some (0, v0)], [], (h, hm, o))) K25_2 rfl ⟨q2, trivial⟩ ?_
      refine zF_blk (m := []) (d := 0) (b := B25_0) (gs := []) (c' := (17, [some (0, v0)], [(0, 0)], (h, hm, o))) K25_0 rfl trivial ?_
      obtain rfl := Option.some.inj e
      exact zF_rb (zRe1_w (by decide +kernel)) (Or.inl rfl)
    · refine zF_blk (m := []) (d := 0) (b := B25_2) (gs := [¬ (57 < v0)]) (c' := (12, [some (0, v0)], [], (h, hm, o))) K25_2 rfl ⟨q2, trivial⟩ ?_
      refine zF_blk (m := []) (d := 0) (b := B25_1) (gs := []) (c' := (17, [some (0, v0)], [(0, 1)], (h, hm, o))) K25_1 rfl trivial ?_
      obtain rfl := Option.some.inj e
      exact zF_rb (zRe1_w (by decide +kernel)) (Or.inr rfl)
def F28_0 : Option Int := some 1
set_option maxRecDepth 100000 in
theorem T28_0 {spec : zRn zH2} {hm : zHM} {o : Int → Int} {d : Nat} (hd : 0 ≤ d) (h : zHC) (v : Int) (e : F28_0 = some v) : zFin 0 (fun _ => 0) (zRu2 spec d) 28 (some (0, v)) (h, hm, o) (36, [none], [], (h, hm, o)) := by
  unfold F28_0 at e
  refine zF_blk (m := []) (d := 0) (b := B28_7) (gs := []) (c' := (41, [none], [(0, 1)], (h, hm, o))) K28_7 rfl trivial ?_
  obtain rfl := Option.some.inj e
  exact zF_rb (zRe1_w (by decide +kernel)) (Or.inr rfl)
/-- EchoVale$Reader.isMark(I)Z -/
def F28 (v0 : Int) : Option Int := if v0 = 59 then F28_0 else if v0 = 60 then F28_0 else if v0 = 61 then F28_0 else if v0 = 62 then F28_0 else if v0 = 40 then F28_0 else if ¬ v0 = 41 then some 0 else F28_0
set_option maxRecDepth 100000 in
theorem S28 {spec : zRn zH2} {hm : zHM} {o : Int → Int} {d : Nat} (hd : 1 ≤ d) (v0 : Int) (h : zHC) (v : Int) (e : F28 v0 = some v) : zRu2 spec d 28 [(0, v0)] (h, hm, o) (some (0, v)) (h, hm, o) := by
  refine zF_in (D := 0) (mx := 1) (L := [some (0, v0)]) (by decide +kernel) rfl rfl hd (fun d hd => ?_)
  unfold F28 at e
  rcases zI_s e with ⟨q1, e⟩ | ⟨q1, e⟩
  · refine zF_blk (m := []) (d := 1) (b := B28_6) (gs := [v0 = 59]) (c' := (36, [some (0, v0)], [], (h, hm, o))) K28_6 rfl ⟨q1, trivial⟩ ?_
    refine zF_blk (m := [false]) (d := 0) (b := []) (gs := []) (c' := (36, [none], [], (h, hm, o))) rfl rfl trivial ?_
    exact T28_0 hd h _ e
  · refine zF_blk (m := []) (d := 0) (b := B28_6) (gs := [¬ (v0 = 59)]) (c' := (6, [some (0, v0)], [], (h, hm, o))) K28_6 rfl ⟨q1, trivial⟩ ?_
    rcases zI_s e with ⟨q2, e⟩ | ⟨q2, e⟩
    · refine zF_blk (m := []) (d := 1) (b := B28_5) (gs := [v0 = 60]) (c' := (36, [some (0, v0)], [], (h, hm, o))) K28_5 rfl ⟨q2, trivial⟩ ?_
      refine zF_blk (m := [false]) (d := 0) (b := []) (gs := []) (c' := (36, [none], [], (h, hm, o))) rfl rfl trivial ?_
      exact T28_0 hd h _ e
    · refine zF_blk (m := []) (d := 0) (b := B28_5) (gs := [¬ (v0 = 60)]) (c' := (12, [some (0, v0)], [], (h, hm, o))) K28_5 rfl ⟨q2, trivial⟩ ?_
      rcases zI_s e with ⟨q3, e⟩ | ⟨q3, e⟩
      · refine zF_blk (m := []) (d := 1) (b := B28_4) (gs := [v0 = 61]) (c' := (36, [some (0, v0)], [], (h, hm, o))) K28_4 rfl ⟨q3, trivial⟩ ?_
        refine zF_blk (m := [false]) (d := 0) (b := []) (gs := []) (c' := (36, [none], [], (h, hm, o))) rfl rfl trivial ?_
        exact T28_0 hd h _ e
      · refine zF_blk (m := []) (d := 0) (b := B28_4) (gs := [¬ (v0 = 61)]) (c' := (18, [some (0, v0)], [], (h, hm, o))) K28_4 rfl ⟨q3, trivial⟩ ?_
        rcases zI_s e with ⟨q4, e⟩ | ⟨q4, e⟩
        · refine zF_blk (m := []) (d := 1) (b := B28_3) (gs := [v0 = 62]) (c' := (36, [some (0, v0)], [], (h, hm, o))) K28_3 rfl ⟨q4, trivial⟩ ?_
          refine zF_blk (m := [false]) (d := 0) (b := []) (gs := []) (c' := (36, [none], [], (h, hm, o))) rfl rfl trivial ?_
          exact T28_0 hd h _ e
        · refine zF_blk (m := []) (d := 0) (b := B28_3) (gs := [¬ (v0 = 62)]) (c' := (24, [some (0, v0)], [], (h, hm, o))) K28_3 rfl ⟨q4, trivial⟩ ?_
          rcases zI_s e with ⟨q5, e⟩ | ⟨q5, e⟩
          · refine zF_blk (m := []) (d := 1) (b := B28_2) (gs := [v0 = 40]) (c' := (36, [some (0, v0)], [], (h, hm, o))) K28_2 rfl ⟨q5, trivial⟩ ?_
            refine zF_blk (m := [false]) (d := 0) (b := []) (gs := []) (c' := (36, [none], [], (h, hm, o))) rfl rfl trivial ?_
            exact T28_0 hd h _ e
          · refine zF_blk (m := []) (d := 0) (b := B28_2) (gs := [¬ (v0 = 40)]) (c' := (30, [some (0, v0)], [], (h, hm, o))) K28_2 rfl ⟨q5, trivial⟩ ?_
            rcases zI_s e with ⟨q6, e⟩ | ⟨q6, e⟩
            · refine zF_blk (m := []) (d := 1) (b := B28_1) (gs := [¬ v0 = 41]) (c' := (40, [some (0, v0)], [], (h, hm, o))) K28_1 rfl ⟨q6, trivial⟩ ?_
              refine zF_blk (m := []) (d := 0) (b := B28_0) (gs := []) (c' := (41, [some (0, v0)], [(0, 0)], (h, hm, o))) K28_0 rfl trivial ?_
              obtain rfl := Option.some.inj e
              exact zF_rb (zRe1_w (by decide +kernel)) (Or.inl rfl)
            · refine zF_blk (m := []) (d := 0) (b := B28_1) (gs := [¬ (¬ v0 = 41)]) (c' := (36, [some (0, v0)], [], (h, hm, o))) K28_1 rfl ⟨q6, trivial⟩ ?_
              refine zF_blk (m := [false]) (d := 0) (b := []) (gs := []) (c' := (36, [none], [], (h, hm, o))) rfl rfl trivial ?_
              exact T28_0 hd h _ e
/-- EchoVale$Reader.withLetter(JI)J -/
def F3 (v0 : Int) (v2 : Int) : Option Int := some (qor (qshl v0 5) (wadd (wsub v2 97) 1))
set_option maxRecDepth 100000 in
theorem S3 {spec : zRn zH2} {hm : zHM} {o : Int → Int} {d : Nat} (hd : 1 ≤ d) (v0 : Int) (v2 : Int) (h : zHC) (v : Int) (e : F3 v0 v2 = some v) : zRu2 spec d 3 [(1, v0), (0, v2)] (h, hm, o) (some (1, v)) (h, hm, o) := by
  refine zF_in (D := 0) (mx := 3) (L := [some (1, v0), none, some (0, v2)]) (by decide +kernel) rfl rfl hd (fun d hd => ?_)
  unfold F3 at e
  refine zF_blk (m := []) (d := 0) (b := B3_0) (gs := []) (c' := (11, [some (1, v0), none, some (0, v2)], [(1, (qor (qshl v0 5) (wadd (wsub v2 97) 1)))], (h, hm, o))) K3_0 rfl trivial ?_
  obtain rfl := Option.some.inj e
  exact zF_rl (zRe1_w (by decide +kernel))
def F27_0 (h : zHC) : Nat → Int → Int → Option Int
  | 0, _, _ => none
  | n + 1, v1, v3 => if 21 ≤ v3 then some (-1) else zG (0 ≤ v3 ∧ v3 < 21) (if ¬ (qcmp (h 330 0 v3) v1) = 0 then (F27_0 h n) v1 (wadd v3 1) else some v3)
set_option maxRecDepth 100000 in
theorem T27_0 {spec : zRn zH2} {hm : zHM} {o : Int → Int} {d : Nat} (hd : 0 ≤ d) (h : zHC) : ∀ (n : Nat) (v1 : Int) (v3 : Int) (v : Int), F27_0 h n v1 v3 = some v → zFin 0 (fun _ => 0) (zRu2 spec d) 27 (some (0, v)) (h, hm, o) (2, [some (15, 0), some (1, v1), none, some (0, v3)], [], (h, hm, o)) := by
  intro n
  induction n with
  | zero => intro v1 v3 v e; unfold F27_0 at e; cases e
  | succ n hk0 =>
    intro v1 v3 v e
    unfold F27_0 at e
    rcases zI_s e with ⟨q1, e⟩ | ⟨q1, e⟩
    · refine zF_blk (m := []) (d := 1) (b := B27_5) (gs := [21 ≤ v3]) (c' := (27, [some (15, 0), some (1, v1), none, some (0, v3)], [], (h, hm, o))) K27_5 rfl ⟨q1, trivial⟩ ?_
      refine zF_blk (m := []) (d := 0) (b := B27_1) (gs := []) (c' := (28, [some (15, 0), some (1, v1), none, some (0, v3)], [(0, (-1))], (h, hm, o))) K27_1 rfl trivial ?_
      obtain rfl := Option.some.inj e
      exact zF_ri (zRe1_w (by decide +kernel))
    · refine zF_blk (m := []) (d := 0) (b := B27_5) (gs := [¬ (21 ≤ v3)]) (c' := (8, [some (15, 0), some (1, v1), none, some (0, v3)], [], (h, hm, o))) K27_5 rfl ⟨q1, trivial⟩ ?_
      obtain ⟨q2, e⟩ := zG_s e
      rcases zI_s e with ⟨q3, e⟩ | ⟨q3, e⟩
      · refine zF_blk (m := []) (d := 1) (b := B27_4) (gs := [0 ≤ v3 ∧ v3 < 21, ¬ (qcmp (h 330 0 v3) v1) = 0]) (c' := (21, [some (15, 0), some (1, v1), none, some (0, v3)], [], (h, hm, o))) K27_4 rfl ⟨q2, q3, trivial⟩ ?_
        refine zF_blk (m := []) (d := 0) (b := B27_2) (gs := []) (c' := (2, [some (15, 0), some (1, v1), none, some (0, (wadd v3 1))], [], (h, hm, o))) K27_2 rfl trivial ?_
        exact hk0 v1 (wadd v3 1) _ e
      · refine zF_blk (m := []) (d := 0) (b := B27_4) (gs := [0 ≤ v3 ∧ v3 < 21, ¬ (¬ (qcmp (h 330 0 v3) v1) = 0)]) (c' := (19, [some (15, 0), some (1, v1), none, some (0, v3)], [], (h, hm, o))) K27_4 rfl ⟨q2, q3, trivial⟩ ?_
        refine zF_blk (m := []) (d := 0) (b := B27_3) (gs := []) (c' := (20, [some (15, 0), some (1, v1), none, some (0, v3)], [(0, v3)], (h, hm, o))) K27_3 rfl trivial ?_
        obtain rfl := Option.some.inj e
        exact zF_ri (zRe1_w (by decide +kernel))
/-- EchoVale$Reader.keywordOf(J)I -/
def F27 (v1 : Int) (h : zHC) : Option Int := F27_0 h zFu v1 0
set_option maxRecDepth 100000 in
theorem S27 {spec : zRn zH2} {hm : zHM} {o : Int → Int} {d : Nat} (hd : 1 ≤ d) (v1 : Int) (h : zHC) (v : Int) (e : F27 v1 h = some v) : zRu2 spec d 27 [(15, 0), (1, v1)] (h, hm, o) (some (0, v)) (h, hm, o) := by
  refine zF_in (D := 0) (mx := 4) (L := [some (15, 0), some (1, v1), none, none]) (by decide +kernel) rfl rfl hd (fun d hd => ?_)
  unfold F27 at e
  refine zF_blk (m := []) (d := 0) (b := B27_0) (gs := []) (c' := (2, [some (15, 0), some (1, v1), none, some (0, 0)], [], (h, hm, o))) K27_0 rfl trivial ?_
  exact T27_0 hd h zFu v1 0 _ e
def F26_9 (s0 : Int) (h : zHC) : Option zHC := some (hset h 324 0 0 s0)
set_option maxRecDepth 100000 in
theorem T26_9 {spec : zRn zH2} {hm : zHM} {o : Int → Int} {d : Nat} (hd : 1 ≤ d) (s0 : Int) (h : zHC) (v : zHC) (e : F26_9 s0 h = some v) : zFin 0 (fun _ => 0) (zRu2 spec d) 26 none (v, hm, o) (212, [none, none, none], [(0, s0), (15, 0)], (h, hm, o)) := by
  unfold F26_9 at e
  refine zF_blk (m := []) (d := 0) (b := B26_28) (gs := []) (c' := (215, [none, none, none], [], ((hset h 324 0 0 s0), hm, o))) K26_28 rfl trivial ?_
  obtain rfl := Option.some.inj e
  exact zF_rv (zRe1_w (by decide +kernel))
def F26_8 (h : zHC) : Option zHC := F26_9 1 h
set_option maxRecDepth 100000 in
theorem T26_8 {spec : zRn zH2} {hm : zHM} {o : Int → Int} {d : Nat} (hd : 1 ≤ d) (h : zHC) (v : zHC) (e : F26_8 h = some v) : zFin 0 (fun _ => 0) (zRu2 spec d) 26 none (v, hm, o) (211, [none, none, none], [(15, 0)], (h, hm, o)) := by
  unfold F26_8 at e
  refine zF_blk (m := []) (d := 0) (b := B26_29) (gs := []) (c' := (212, [none, none, none], [(0, 1), (15, 0)], (h, hm, o))) K26_29 rfl trivial ?_
  exact T26_9 hd 1 h _ e
def F26_6 (v1 : Int) (v2 : Int) (h : zHC) : Option zHC := if ¬ v1 = 0 then F26_8 h else if 3 < v2 then F26_8 h else F26_9 4 h
set_option maxRecDepth 100000 in
theorem T26_6 {spec : zRn zH2} {hm : zHM} {o : Int → Int} {d : Nat} (hd : 1 ≤ d) (v1 : Int) (v2 : Int) (h : zHC) (v : zHC) (e : F26_6 v1 v2 h = some v) : zFin 0 (fun _ => 0) (zRu2 spec d) 26 none (v, hm, o) (197, [some (15, 0), some (0, v1), some (0, v2)], [], (h, hm, o)) := by
  unfold F26_6 at e
  rcases zI_s e with ⟨q1, e⟩ | ⟨q1, e⟩
  · refine zF_blk (m := []) (d := 1) (b := B26_27) (gs := [¬ v1 = 0]) (c' := (211, [some (15, 0), some (0, v1), some (0, v2)], [(15, 0)], (h, hm, o))) K26_27 rfl ⟨q1, trivial⟩ ?_
    refine zF_blk (m := [false, false, false]) (d := 0) (b := []) (gs := []) (c' := (211, [none, none, none], [(15, 0)], (h, hm, o))) rfl rfl trivial ?_
    exact T26_8 hd h _ e
  · refine zF_blk (m := []) (d := 0) (b := B26_27) (gs := [¬ (¬ v1 = 0)]) (c' := (202, [some (15, 0), some (0, v1), some (0, v2)], [(15, 0)], (h, hm, o))) K26_27 rfl ⟨q1, trivial⟩ ?_
    rcases zI_s e with ⟨q2, e⟩ | ⟨q2, e⟩
    · refine zF_blk (m := []) (d := 1) (b := B26_26) (gs := [3 < v2]) (c' := (211, [some (15, 0), some (0, v1), some (0, v2)], [(15, 0)], (h, hm, o))) K26_26 rfl ⟨q2, trivial⟩ ?_
      refine zF_blk (m := [false, false, false]) (d := 0) (b := []) (gs := []) (c' := (211, [none, none, none], [(15, 0)], (h, hm, o))) rfl rfl trivial ?_
      exact T26_8 hd h _ e
    · refine zF_blk (m := []) (d := 0) (b := B26_26) (gs := [¬ (3 < v2)]) (c' := (207, [some (15, 0), some (0, v1), some (0, v2)], [(15, 0)], (h, hm, o))) K26_26 rfl ⟨q2, trivial⟩ ?_
      refine zF_blk (m := []) (d := 0) (b := B26_25) (gs := []) (c' := (212, [some (15, 0), some (0, v1), some (0, v2)], [(0, 4), (15, 0)], (h, hm, o))) K26_25 rfl trivial ?_
      refine zF_blk (m := [false, false, false]) (d := 0) (b := []) (gs := []) (c' := (212, [none, none, none], [(0, 4), (15, 0)], (h, hm, o))) rfl rfl trivial ?_
      exact T26_9 hd 4 h _ e
def F26_7 (s0 : Int) (h : zHC) : Option zHC := some (hset h 324 0 0 s0)
set_option maxRecDepth 100000 in
theorem T26_7 {spec : zRn zH2} {hm : zHM} {o : Int → Int} {d : Nat} (hd : 1 ≤ d) (s0 : Int) (h : zHC) (v : zHC) (e : F26_7 s0 h = some v) : zFin 0 (fun _ => 0) (zRu2 spec d) 26 none (v, hm, o) (191, [none, none, none], [(0, s0), (15, 0)], (h, hm, o)) := by
  unfold F26_7 at e
  refine zF_blk (m := []) (d := 0) (b := B26_24) (gs := []) (c' := (215, [none, none, none], [], ((hset h 324 0 0 s0), hm, o))) K26_24 rfl trivial ?_
  obtain rfl := Option.some.inj e
  exact zF_rv (zRe1_w (by decide +kernel))
def F26_1 (v1 : Int) (v2 : Int) (h : zHC) : Option zHC := if ¬ v2 = 0 then F26_6 v1 v2 h else if 7 < v1 then F26_6 v1 v2 h else (F27 (h 327 0 0) h).bind fun r1 => if ¬ r1 = (-1) then F26_7 3 (hset h 326 0 0 r1) else F26_7 2 (hset h 326 0 0 r1)
set_option maxRecDepth 100000 in
theorem T26_1 {spec : zRn zH2} {hm : zHM} {o : Int → Int} {d : Nat} (hd : 1 ≤ d) (v1 : Int) (v2 : Int) (h : zHC) (v : zHC) (e : F26_1 v1 v2 h = some v) : zFin 0 (fun _ => 0) (zRu2 spec d) 26 none (v, hm, o) (155, [some (15, 0), some (0, v1), some (0, v2)], [], (h, hm, o)) := by
  unfold F26_1 at e
  rcases zI_s e with ⟨q1, e⟩ | ⟨q1, e⟩
  · refine zF_blk (m := []) (d := 1) (b := B26_23) (gs := [¬ v2 = 0]) (c' := (197, [some (15, 0), some (0, v1), some (0, v2)], [], (h, hm, o))) K26_23 rfl ⟨q1, trivial⟩ ?_
    exact T26_6 hd v1 v2 h _ e
  · refine zF_blk (m := []) (d := 0) (b := B26_23) (gs := [¬ (¬ v2 = 0)]) (c' := (159, [some (15, 0), some (0, v1), some (0, v2)], [], (h, hm, o))) K26_23 rfl ⟨q1, trivial⟩ ?_
    rcases zI_s e with ⟨q2, e⟩ | ⟨q2, e⟩
    · refine zF_blk (m := []) (d := 1) (b := B26_22) (gs := [7 < v1]) (c' := (197, [some (15, 0), some (0, v1), some (0, v2)], [], (h, hm, o))) K26_22 rfl ⟨q2, trivial⟩ ?_
      exact T26_6 hd v1 v2 h _ e
    · refine zF_blk (m := []) (d := 0) (b := B26_22) (gs := [¬ (7 < v1)]) (c' := (165, [some (15, 0), some (0, v1), some (0, v2)], [], (h, hm, o))) K26_22 rfl ⟨q2, trivial⟩ ?_
      obtain ⟨r1, q3, e⟩ := zB_s e
      refine zF_blk (m := []) (d := 0) (b := B26_18) (gs := []) (c' := (171, [some (15, 0), some (0, v1), some (0, v2)], [(1, (h 327 0 0)), (15, 0), (15, 0)], (h, hm, o))) K26_18 rfl trivial ?_
      refine zF_call (k := 27) (cl := 5) (n := 2) (i := .invokevirtual 92) (args := [(15, 0), (1, (h 327 0 0))]) (rest := [(15, 0)]) (g1 := (h, hm, o)) (r1 := some (0, r1)) (zCk1_w (by decide +kernel)) rfl rfl rfl (st' := [(0, r1), (15, 0)]) rfl (S27 (Nat.le_trans (by decide) hd) (h 327 0 0) h _ q3) ?_
      rcases zI_s e with ⟨q4, e⟩ | ⟨q4, e⟩
      · refine zF_blk (m := []) (d := 1) (b := B26_21) (gs := [¬ r1 = (-1)]) (c' := (190, [some (15, 0), some (0, v1), some (0, v2)], [(15, 0)], ((hset h 326 0 0 r1), hm, o))) K26_21 rfl ⟨q4, trivial⟩ ?_
        refine zF_blk (m := []) (d := 0) (b := B26_19) (gs := []) (c' := (191, [some (15, 0), some (0, v1), some (0, v2)], [(0, 3), (15, 0)], ((hset h 326 0 0 r1), hm, o))) K26_19 rfl trivial ?_
        refine zF_blk (m := [false, false, false]) (d := 0) (b := []) (gs := []) (c' := (191, [none, none, none], [(0, 3), (15, 0)], ((hset h 326 0 0 r1), hm, o))) rfl rfl trivial ?_
        exact T26_7 hd 3 (hset h 326 0 0 r1) _ e
      · refine zF_blk (m := []) (d := 0) (b := B26_21) (gs := [¬ (¬ r1 = (-1))]) (c' := (186, [some (15, 0), some (0, v1), some (0, v2)], [(15, 0)], ((hset h 326 0 0 r1), hm, o))) K26_21 rfl ⟨q4, trivial⟩ ?_
        refine zF_blk (m := []) (d := 0) (b := B26_20) (gs := []) (c' := (191, [some (15, 0), some (0, v1), some (0, v2)], [(0, 2), (15, 0)], ((hset h 326 0 0 r1), hm, o))) K26_20 rfl trivial ?_
        refine zF_blk (m := [false, false, false]) (d := 0) (b := []) (gs := []) (c' := (191, [none, none, none], [(0, 2), (15, 0)], ((hset h 326 0 0 r1), hm, o))) rfl rfl trivial ?_
        exact T26_7 hd 2 (hset h 326 0 0 r1) _ e
def F26_5 (k0 : Int → Int → zHC → Option zHC) (v1 : Int) (v2 : Int) (h : zHC) : Option zHC := k0 v1 v2 (hset h 328 0 0 (wadd (h 328 0 0) 1))
set_option maxRecDepth 100000 in
theorem T26_5 {spec : zRn zH2} {hm : zHM} {o : Int → Int} {d : Nat} (hd : 1 ≤ d) (k0 : Int → Int → zHC → Option zHC) (hk0 : ∀ (v1 : Int) (v2 : Int) (h : zHC) (v : zHC), k0 v1 v2 h = some v → zFin 0 (fun _ => 0) (zRu2 spec d) 26 none (v, hm, o) (14, [some (15, 0), some (0, v1), some (0, v2)], [], (h, hm, o))) (v1 : Int) (v2 : Int) (h : zHC) (v : zHC) (e : F26_5 k0 v1 v2 h = some v) : zFin 0 (fun _ => 0) (zRu2 spec d) 26 none (v, hm, o) (142, [some (15, 0), some (0, v1), some (0, v2)], [], (h, hm, o)) := by
  unfold F26_5 at e
  refine zF_blk (m := []) (d := 0) (b := B26_16) (gs := []) (c' := (14, [some (15, 0), some (0, v1), some (0, v2)], [], ((hset h 328 0 0 (wadd (h 328 0 0) 1)), hm, o))) K26_16 rfl trivial ?_
  exact hk0 v1 v2 (hset h 328 0 0 (wadd (h 328 0 0) 1)) _ e
def F26_3 (k0 : Int → Int → zHC → Option zHC) (v1 : Int) (v2 : Int) (s0 : Int) (h : zHC) : Option zHC := F26_5 k0 v1 v2 (hset h 326 0 0 s0)
set_option maxRecDepth 100000 in
theorem T26_3 {spec : zRn zH2} {hm : zHM} {o : Int → Int} {d : Nat} (hd : 1 ≤ d) (k0 : Int → Int → zHC → Option zHC) (hk0 : ∀ (v1 : Int) (v2 : Int) (h : zHC) (v : zHC), k0 v1 v2 h = some v → zFin 0 (fun _ => 0) (zRu2 spec d) 26 none (v, hm, o) (14, [some (15, 0), some (0, v1), some (0, v2)], [], (h, hm, o))) (v1 : Int) (v2 : Int) (s0 : Int) (h : zHC) (v : zHC) (e : F26_3 k0 v1 v2 s0 h = some v) : zFin 0 (fun _ => 0) (zRu2 spec d) 26 none (v, hm, o) (139, [some (15, 0), some (0, v1), some (0, v2)], [(0, s0), (15, 0)], (h, hm, o)) := by
  unfold F26_3 at e
  refine zF_blk (m := []) (d := 0) (b := B26_17) (gs := []) (c' := (142, [some (15, 0), some (0, v1), some (0, v2)], [], ((hset h 326 0 0 s0), hm, o))) K26_17 rfl trivial ?_
  exact T26_5 hd k0 hk0 v1 v2 (hset h 326 0 0 s0) _ e
def F26_4 (k0 : Int → Int → zHC → Option zHC) (v1 : Int) (v2 : Int) (s0 : Int) (h : zHC) : Option zHC := F26_5 k0 v1 v2 (hset h 327 0 0 s0)
set_option maxRecDepth 100000 in
theorem T26_4 {spec : zRn zH2} {hm : zHM} {o : Int → Int} {d : Nat} (hd : 1 ≤ d) (k0 : Int → Int → zHC → Option zHC) (hk0 : ∀ (v1 : Int) (v2 : Int) (h : zHC) (v : zHC), k0 v1 v2 h = some v → zFin 0 (fun _ => 0) (zRu2 spec d) 26 none (v, hm, o) (14, [some (15, 0), some (0, v1), some (0, v2)], [], (h, hm, o))) (v1 : Int) (v2 : Int) (s0 : Int) (h : zHC) (v : zHC) (e : F26_4 k0 v1 v2 s0 h = some v) : zFin 0 (fun _ => 0) (zRu2 spec d) 26 none (v, hm, o) (100, [some (15, 0), some (0, v1), some (0, v2)], [(1, s0), (15, 0)], (h, hm, o)) := by
  unfold F26_4 at e
  refine zF_blk (m := []) (d := 0) (b := B26_15) (gs := []) (c' := (142, [some (15, 0), some (0, v1), some (0, v2)], [], ((hset h 327 0 0 s0), hm, o))) K26_15 rfl trivial ?_
  exact T26_5 hd k0 hk0 v1 v2 (hset h 327 0 0 s0) _ e
def F26_2 (k0 : Int → Int → zHC → Option zHC) (v1 : Int) (v2 : Int) (h : zHC) : Option zHC := zG (0 ≤ (h 328 0 0) ∧ (h 328 0 0) < 940) ((F24 (h 320 0 (h 328 0 0))).bind fun r1 => if r1 = 0 then if 3 < (wadd v2 1) then F26_3 k0 v1 (wadd v2 1) 0 h else zG (0 ≤ (h 328 0 0) ∧ (h 328 0 0) < 940) (F26_3 k0 v1 (wadd v2 1) (wsub (wadd (wmul (h 326 0 0) 10) (h 320 0 (h 328 0 0))) 48) h) else if 7 < (wadd v1 1) then F26_4 k0 (wadd v1 1) v2 0 h else zG (0 ≤ (h 328 0 0) ∧ (h 328 0 0) < 940) ((F3 (h 327 0 0) (h 320 0 (h 328 0 0))).bind fun r2 => F26_4 k0 (wadd v1 1) v2 r2 h))
set_option maxRecDepth 100000 in
theorem T26_2 {spec : zRn zH2} {hm : zHM} {o : Int → Int} {d : Nat} (hd : 1 ≤ d) (k0 : Int → Int → zHC → Option zHC) (hk0 : ∀ (v1 : Int) (v2 : Int) (h : zHC) (v : zHC), k0 v1 v2 h = some v → zFin 0 (fun _ => 0) (zRu2 spec d) 26 none (v, hm, o) (14, [some (15, 0), some (0, v1), some (0, v2)], [], (h, hm, o))) (v1 : Int) (v2 : Int) (h : zHC) (v : zHC) (e : F26_2 k0 v1 v2 h = some v) : zFin 0 (fun _ => 0) (zRu2 spec d) 26 none (v, hm, o) (55, [some (15, 0), some (0, v1), some (0, v2)], [], (h, hm, o)) := by
  unfold F26_2 at e
  obtain ⟨q1, e⟩ := zG_s e
  obtain ⟨r1, q2, e⟩ := zB_s e
  refine zF_blk (m := []) (d := 0) (b := B26_6) (gs := [0 ≤ (h 328 0 0) ∧ (h 328 0 0) < 940]) (c' := (64, [some (15, 0), some (0, v1), some (0, v2)], [(0, (h 320 0 (h 328 0 0)))], (h, hm, o))) K26_6 rfl ⟨q1, trivial⟩ ?_
  refine zF_call (k := 24) (cl := 5) (n := 1) (i := .invokestatic 73) (args := [(0, (h 320 0 (h 328 0 0)))]) (rest := []) (g1 := (h, hm, o)) (r1 := some (0, r1)) (zCk1_w (by decide +kernel)) rfl rfl rfl (st' := [(0, r1)]) rfl (S24 (Nat.le_trans (by decide) hd) (h 320 0 (h 328 0 0)) h _ q2) ?_
  rcases zI_s e with ⟨q3, e⟩ | ⟨q3, e⟩
  · refine zF_blk (m := []) (d := 1) (b := B26_14) (gs := [r1 = 0]) (c' := (106, [some (15, 0), some (0, v1), some (0, v2)], [], (h, hm, o))) K26_14 rfl ⟨q3, trivial⟩ ?_
    rcases zI_s e with ⟨q4, e⟩ | ⟨q4, e⟩
    · refine zF_blk (m := []) (d := 1) (b := B26_9) (gs := [3 < (wadd v2 1)]) (c' := (138, [some (15, 0), some (0, v1), some (0, (wadd v2 1))], [(15, 0)], (h, hm, o))) K26_9 rfl ⟨q4, trivial⟩ ?_
      refine zF_blk (m := []) (d := 0) (b := B26_7) (gs := []) (c' := (139, [some (15, 0), some (0, v1), some (0, (wadd v2 1))], [(0, 0), (15, 0)], (h, hm, o))) K26_7 rfl trivial ?_
      exact T26_3 hd k0 hk0 v1 (wadd v2 1) 0 h _ e
    · refine zF_blk (m := []) (d := 0) (b := B26_9) (gs := [¬ (3 < (wadd v2 1))]) (c' := (115, [some (15, 0), some (0, v1), some (0, (wadd v2 1))], [(15, 0)], (h, hm, o))) K26_9 rfl ⟨q4, trivial⟩ ?_
      obtain ⟨q5, e⟩ := zG_s e
      refine zF_blk (m := []) (d := 0) (b := B26_8) (gs := [0 ≤ (h 328 0 0) ∧ (h 328 0 0) < 940]) (c' := (139, [some (15, 0), some (0, v1), some (0, (wadd v2 1))], [(0, (wsub (wadd (wmul (h 326 0 0) 10) (h 320 0 (h 328 0 0))) 48)), (15, 0)], (h, hm, o))) K26_8 rfl ⟨q5, trivial⟩ ?_
      exact T26_3 hd k0 hk0 v1 (wadd v2 1) (wsub (wadd (wmul (h 326 0 0) 10) (h 320 0 (h 328 0 0))) 48) h _ e
  · refine zF_blk (m := []) (d := 0) (b := B26_14) (gs := [¬ (r1 = 0)]) (c' := (70, [some (15, 0), some (0, v1), some (0, v2)], [], (h, hm, o))) K26_14 rfl ⟨q3, trivial⟩ ?_
    rcases zI_s e with ⟨q6, e⟩ | ⟨q6, e⟩
    · refine zF_blk (m := []) (d := 1) (b := B26_13) (gs := [7 < (wadd v1 1)]) (c' := (99, [some (15, 0), some (0, (wadd v1 1)), some (0, v2)], [(15, 0)], (h, hm, o))) K26_13 rfl ⟨q6, trivial⟩ ?_
      refine zF_blk (m := []) (d := 0) (b := B26_10) (gs := []) (c' := (100, [some (15, 0), some (0, (wadd v1 1)), some (0, v2)], [(1, 0), (15, 0)], (h, hm, o))) K26_10 rfl trivial ?_
      exact T26_4 hd k0 hk0 (wadd v1 1) v2 0 h _ e
    · refine zF_blk (m := []) (d := 0) (b := B26_13) (gs := [¬ (7 < (wadd v1 1))]) (c' := (80, [some (15, 0), some (0, (wadd v1 1)), some (0, v2)], [(15, 0)], (h, hm, o))) K26_13 rfl ⟨q6, trivial⟩ ?_
      obtain ⟨q7, e⟩ := zG_s e
      obtain ⟨r2, q8, e⟩ := zB_s e
      refine zF_blk (m := []) (d := 0) (b := B26_11) (gs := [0 ≤ (h 328 0 0) ∧ (h 328 0 0) < 940]) (c' := (93, [some (15, 0), some (0, (wadd v1 1)), some (0, v2)], [(0, (h 320 0 (h 328 0 0))), (1, (h 327 0 0)), (15, 0)], (h, hm, o))) K26_11 rfl ⟨q7, trivial⟩ ?_
      refine zF_call (k := 3) (cl := 5) (n := 2) (i := .invokestatic 35) (args := [(1, (h 327 0 0)), (0, (h 320 0 (h 328 0 0)))]) (rest := [(15, 0)]) (g1 := (h, hm, o)) (r1 := some (1, r2)) (zCk1_w (by decide +kernel)) rfl rfl rfl (st' := [(1, r2), (15, 0)]) rfl (S3 (Nat.le_trans (by decide) hd) (h 327 0 0) (h 320 0 (h 328 0 0)) h _ q8) ?_
      refine zF_blk (m := []) (d := 0) (b := B26_12) (gs := []) (c' := (100, [some (15, 0), some (0, (wadd v1 1)), some (0, v2)], [(1, r2), (15, 0)], (h, hm, o))) K26_12 rfl trivial ?_
      exact T26_4 hd k0 hk0 (wadd v1 1) v2 r2 h _ e
def F26_0 : Nat → Int → Int → zHC → Option zHC
  | 0, _, _, _ => none
  | n + 1, v1, v2, h => if (h 321 0 0) ≤ (h 328 0 0) then F26_1 v1 v2 h else zG (0 ≤ (h 328 0 0) ∧ (h 328 0 0) < 940) ((F24 (h 320 0 (h 328 0 0))).bind fun r1 => if ¬ r1 = 0 then F26_2 (F26_0 n) v1 v2 h else zG (0 ≤ (h 328 0 0) ∧ (h 328 0 0) < 940) ((F25 (h 320 0 (h 328 0 0))).bind fun r2 => if r2 = 0 then F26_1 v1 v2 h else F26_2 (F26_0 n) v1 v2 h))
set_option maxRecDepth 100000 in
theorem T26_0 {spec : zRn zH2} {hm : zHM} {o : Int → Int} {d : Nat} (hd : 1 ≤ d) : ∀ (n : Nat) (v1 : Int) (v2 : Int) (h : zHC) (v : zHC), F26_0 n v1 v2 h = some v → zFin 0 (fun _ => 0) (zRu2 spec d) 26 none (v, hm, o) (14, [some (15, 0), some (0, v1), some (0, v2)], [], (h, hm, o)) := by
  intro n
  induction n with
  | zero => intro v1 v2 h v e; unfold F26_0 at e; cases e
  | succ n hk0 =>
    intro v1 v2 h v e
    unfold F26_0 at e
    rcases zI_s e with ⟨q1, e⟩ | ⟨q1, e⟩
    · refine zF_blk (m := []) (d := 1) (b := B26_5) (gs := [(h 321 0 0) ≤ (h 328 0 0)]) (c' := (155, [some (15, 0), some (0, v1), some (0, v2)], [], (h, hm, o))) K26_5 rfl ⟨q1, trivial⟩ ?_
      exact T26_1 hd v1 v2 h _ e
    · refine zF_blk (m := []) (d := 0) (b := B26_5) (gs := [¬ ((h 321 0 0) ≤ (h 328 0 0))]) (c' := (25, [some (15, 0), some (0, v1), some (0, v2)], [], (h, hm, o))) K26_5 rfl ⟨q1, trivial⟩ ?_
      obtain ⟨q2, e⟩ := zG_s e
      obtain ⟨r1, q3, e⟩ := zB_s e
      refine zF_blk (m := []) (d := 0) (b := B26_1) (gs := [0 ≤ (h 328 0 0) ∧ (h 328 0 0) < 940]) (c' := (34, [some (15, 0), some (0, v1), some (0, v2)], [(0, (h 320 0 (h 328 0 0)))], (h, hm, o))) K26_1 rfl ⟨q2, trivial⟩ ?_
      refine zF_call (k := 24) (cl := 5) (n := 1) (i := .invokestatic 73) (args := [(0, (h 320 0 (h 328 0 0)))]) (rest := []) (g1 := (h, hm, o)) (r1 := some (0, r1)) (zCk1_w (by decide +kernel)) rfl rfl rfl (st' := [(0, r1)]) rfl (S24 (Nat.le_trans (by decide) hd) (h 320 0 (h 328 0 0)) h _ q3) ?_
      rcases zI_s e with ⟨q4, e⟩ | ⟨q4, e⟩
      · refine zF_blk (m := []) (d := 1) (b := B26_4) (gs := [¬ r1 = 0]) (c' := (55, [some (15, 0), some (0, v1), some (0, v2)], [], (h, hm, o))) K26_4 rfl ⟨q4, trivial⟩ ?_
        exact T26_2 hd (F26_0 n) hk0 v1 v2 h _ e
      · refine zF_blk (m := []) (d := 0) (b := B26_4) (gs := [¬ (¬ r1 = 0)]) (c' := (40, [some (15, 0), some (0, v1), some (0, v2)], [], (h, hm, o))) K26_4 rfl ⟨q4, trivial⟩ ?_
        obtain ⟨q5, e⟩ := zG_s e
        obtain ⟨r2, q6, e⟩ := zB_s e
        refine zF_blk (m := []) (d := 0) (b := B26_2) (gs := [0 ≤ (h 328 0 0) ∧ (h 328 0 0) < 940]) (c' := (49, [some (15, 0), some (0, v1), some (0, v2)], [(0, (h 320 0 (h 328 0 0)))], (h, hm, o))) K26_2 rfl ⟨q5, trivial⟩ ?_
        refine zF_call (k := 25) (cl := 5) (n := 1) (i := .invokestatic 76) (args := [(0, (h 320 0 (h 328 0 0)))]) (rest := []) (g1 := (h, hm, o)) (r1 := some (0, r2)) (zCk1_w (by decide +kernel)) rfl rfl rfl (st' := [(0, r2)]) rfl (S25 (Nat.le_trans (by decide) hd) (h 320 0 (h 328 0 0)) h _ q6) ?_
        rcases zI_s e with ⟨q7, e⟩ | ⟨q7, e⟩
        · refine zF_blk (m := []) (d := 1) (b := B26_3) (gs := [r2 = 0]) (c' := (155, [some (15, 0), some (0, v1), some (0, v2)], [], (h, hm, o))) K26_3 rfl ⟨q7, trivial⟩ ?_
          exact T26_1 hd v1 v2 h _ e
        · refine zF_blk (m := []) (d := 0) (b := B26_3) (gs := [¬ (r2 = 0)]) (c' := (55, [some (15, 0), some (0, v1), some (0, v2)], [], (h, hm, o))) K26_3 rfl ⟨q7, trivial⟩ ?_
          exact T26_2 hd (F26_0 n) hk0 v1 v2 h _ e
/-- EchoVale$Reader.readRun()V -/
def F26 (h : zHC) : Option zHC := F26_0 zFu 0 0 (hset (hset h 327 0 0 0) 326 0 0 0)
set_option maxRecDepth 100000 in
theorem S26 {spec : zRn zH2} {hm : zHM} {o : Int → Int} {d : Nat} (hd : 2 ≤ d) (h : zHC) (v : zHC) (e : F26 h = some v) : zRu2 spec d 26 [(15, 0)] (h, hm, o) none (v, hm, o) := by
  refine zF_in (D := 1) (mx := 3) (L := [some (15, 0), none, none]) (by decide +kernel) rfl rfl hd (fun d hd => ?_)
  unfold F26 at e
  refine zF_blk (m := []) (d := 0) (b := B26_0) (gs := []) (c' := (14, [some (15, 0), some (0, 0), some (0, 0)], [], ((hset (hset h 327 0 0 0) 326 0 0 0), hm, o))) K26_0 rfl trivial ?_
  exact T26_0 hd zFu 0 0 (hset (hset h 327 0 0 0) 326 0 0 0) _ e
def F21_2 (h : zHC) : Option zHC := (F26 h).bind fun r1 => some r1
set_option maxRecDepth 100000 in
theorem T21_2 {spec : zRn zH2} {hm : zHM} {o : Int → Int} {d : Nat} (hd : 2 ≤ d) (h : zHC) (v : zHC) (e : F21_2 h = some v) : zFin 0 (fun _ => 0) (zRu2 spec d) 21 none (v, hm, o) (106, [some (15, 0), none], [], (h, hm, o)) := by
  unfold F21_2 at e
  obtain ⟨r1, q1, e⟩ := zB_s e
  refine zF_blk (m := []) (d := 0) (b := B21_16) (gs := []) (c' := (107, [some (15, 0), none], [(15, 0)], (h, hm, o))) K21_16 rfl trivial ?_
  refine zF_call (k := 26) (cl := 5) (n := 1) (i := .invokevirtual 79) (args := [(15, 0)]) (rest := []) (g1 := (r1, hm, o)) (r1 := none) (zCk1_w (by decide +kernel)) rfl rfl rfl (st' := []) rfl (S26 (Nat.le_trans (by decide) hd)  h _ q1) ?_
  refine zF_blk (m := []) (d := 0) (b := B21_17) (gs := []) (c' := (155, [some (15, 0), none], [], (r1, hm, o))) K21_17 rfl trivial ?_
  obtain rfl := Option.some.inj e
  exact zF_rv (zRe1_w (by decide +kernel))
def F21_3 (s0 : Int) (h : zHC) : Option zHC := some (hset (hset h 324 0 0 s0) 328 0 0 (wadd (h 328 0 0) 1))
set_option maxRecDepth 100000 in
theorem T21_3 {spec : zRn zH2} {hm : zHM} {o : Int → Int} {d : Nat} (hd : 2 ≤ d) (s0 : Int) (h : zHC) (v : zHC) (e : F21_3 s0 h = some v) : zFin 0 (fun _ => 0) (zRu2 spec d) 21 none (v, hm, o) (142, [some (15, 0), none], [(0, s0), (15, 0)], (h, hm, o)) := by
  unfold F21_3 at e
  refine zF_blk (m := []) (d := 0) (b := B21_15) (gs := []) (c' := (155, [some (15, 0), none], [], ((hset (hset h 324 0 0 s0) 328 0 0 (wadd (h 328 0 0) 1)), hm, o))) K21_15 rfl trivial ?_
  obtain rfl := Option.some.inj e
  exact zF_rv (zRe1_w (by decide +kernel))
def F21_1 (v1 : Int) (h : zHC) : Option zHC := if (h 328 0 0) < v1 then zG (0 ≤ (h 328 0 0) ∧ (h 328 0 0) < 940) ((F24 (h 320 0 (h 328 0 0))).bind fun r1 => if ¬ r1 = 0 then F21_2 (hset h 325 0 0 (if v1 < (h 328 0 0) then v1 else (h 328 0 0))) else zG (0 ≤ (h 328 0 0) ∧ (h 328 0 0) < 940) ((F25 (h 320 0 (h 328 0 0))).bind fun r2 => if r2 = 0 then zG (0 ≤ (h 328 0 0) ∧ (h 328 0 0) < 940) ((F28 (h 320 0 (h 328 0 0))).bind fun r3 => if r3 = 0 then F21_3 1 (hset (hset h 325 0 0 (if v1 < (h 328 0 0) then v1 else (h 328 0 0))) 326 0 0 (h 320 0 (h 328 0 0))) else F21_3 5 (hset (hset h 325 0 0 (if v1 < (h 328 0 0) then v1 else (h 328 0 0))) 326 0 0 (h 320 0 (h 328 0 0)))) else F21_2 (hset h 325 0 0 (if v1 < (h 328 0 0) then v1 else (h 328 0 0))))) else some (hset (hset h 325 0 0 (if v1 < (h 328 0 0) then v1 else (h 328 0 0))) 324 0 0 0)
set_option maxRecDepth 100000 in
theorem T21_1 {spec : zRn zH2} {hm : zHM} {o : Int → Int} {d : Nat} (hd : 2 ≤ d) (v1 : Int) (h : zHC) (v : zHC) (e : F21_1 v1 h = some v) : zFin 0 (fun _ => 0) (zRu2 spec d) 21 none (v, hm, o) (48, [some (15, 0), some (0, v1)], [], (h, hm, o)) := by
  unfold F21_1 at e
  rcases zI_s e with ⟨q1, e⟩ | ⟨q1, e⟩
  · refine zF_blk (m := []) (d := 1) (b := B21_14) (gs := [(h 328 0 0) < v1]) (c' := (76, [some (15, 0), some (0, v1)], [], ((hset h 325 0 0 (if v1 < (h 328 0 0) then v1 else (h 328 0 0))), hm, o))) K21_14 rfl ⟨q1, trivial⟩ ?_
    obtain ⟨q2, e⟩ := zG_s e
    obtain ⟨r1, q3, e⟩ := zB_s e
    refine zF_blk (m := []) (d := 0) (b := B21_5) (gs := [0 ≤ (h 328 0 0) ∧ (h 328 0 0) < 940]) (c' := (85, [some (15, 0), some (0, v1)], [(0, (h 320 0 (h 328 0 0)))], ((hset h 325 0 0 (if v1 < (h 328 0 0) then v1 else (h 328 0 0))), hm, o))) K21_5 rfl ⟨q2, trivial⟩ ?_
    refine zF_call (k := 24) (cl := 5) (n := 1) (i := .invokestatic 73) (args := [(0, (h 320 0 (h 328 0 0)))]) (rest := []) (g1 := ((hset h 325 0 0 (if v1 < (h 328 0 0) then v1 else (h 328 0 0))), hm, o)) (r1 := some (0, r1)) (zCk1_w (by decide +kernel)) rfl rfl rfl (st' := [(0, r1)]) rfl (S24 (Nat.le_trans (by decide) hd) (h 320 0 (h 328 0 0)) (hset h 325 0 0 (if v1 < (h 328 0 0) then v1 else (h 328 0 0))) _ q3) ?_
    rcases zI_s e with ⟨q4, e⟩ | ⟨q4, e⟩
    · refine zF_blk (m := []) (d := 1) (b := B21_12) (gs := [¬ r1 = 0]) (c' := (106, [some (15, 0), some (0, v1)], [], ((hset h 325 0 0 (if v1 < (h 328 0 0) then v1 else (h 328 0 0))), hm, o))) K21_12 rfl ⟨q4, trivial⟩ ?_
      refine zF_blk (m := [true, false]) (d := 0) (b := []) (gs := []) (c' := (106, [some (15, 0), none], [], ((hset h 325 0 0 (if v1 < (h 328 0 0) then v1 else (h 328 0 0))), hm, o))) rfl rfl trivial ?_
      exact T21_2 hd (hset h 325 0 0 (if v1 < (h 328 0 0) then v1 else (h 328 0 0))) _ e
    · refine zF_blk (m := []) (d := 0) (b := B21_12) (gs := [¬ (¬ r1 = 0)]) (c' := (91, [some (15, 0), some (0, v1)], [], ((hset h 325 0 0 (if v1 < (h 328 0 0) then v1 else (h 328 0 0))), hm, o))) K21_12 rfl ⟨q4, trivial⟩ ?_
      obtain ⟨q5, e⟩ := zG_s e
      obtain ⟨r2, q6, e⟩ := zB_s e
      refine zF_blk (m := []) (d := 0) (b := B21_6) (gs := [0 ≤ (h 328 0 0) ∧ (h 328 0 0) < 940]) (c' := (100, [some (15, 0), some (0, v1)], [(0, (h 320 0 (h 328 0 0)))], ((hset h 325 0 0 (if v1 < (h 328 0 0) then v1 else (h 328 0 0))), hm, o))) K21_6 rfl ⟨q5, trivial⟩ ?_
      refine zF_call (k := 25) (cl := 5) (n := 1) (i := .invokestatic 76) (args := [(0, (h 320 0 (h 328 0 0)))]) (rest := []) (g1 := ((hset h 325 0 0 (if v1 < (h 328 0 0) then v1 else (h 328 0 0))), hm, o)) (r1 := some (0, r2)) (zCk1_w (by decide +kernel)) rfl rfl rfl (st' := [(0, r2)]) rfl (S25 (Nat.le_trans (by decide) hd) (h 320 0 (h 328 0 0)) (hset h 325 0 0 (if v1 < (h 328 0 0) then v1 else (h 328 0 0))) _ q6) ?_
      rcases zI_s e with ⟨q7, e⟩ | ⟨q7, e⟩
      · refine zF_blk (m := []) (d := 1) (b := B21_11) (gs := [r2 = 0]) (c' := (113, [some (15, 0), some (0, v1)], [], ((hset h 325 0 0 (if v1 < (h 328 0 0) then v1 else (h 328 0 0))), hm, o))) K21_11 rfl ⟨q7, trivial⟩ ?_
        obtain ⟨q8, e⟩ := zG_s e
        obtain ⟨r3, q9, e⟩ := zB_s e
        refine zF_blk (m := []) (d := 0) (b := B21_7) (gs := [0 ≤ (h 328 0 0) ∧ (h 328 0 0) < 940]) (c' := (131, [some (15, 0), some (0, v1)], [(0, (h 320 0 (h 328 0 0))), (15, 0)], ((hset (hset h 325 0 0 (if v1 < (h 328 0 0) then v1 else (h 328 0 0))) 326 0 0 (h 320 0 (h 328 0 0))), hm, o))) K21_7 rfl ⟨q8, trivial⟩ ?_
        refine zF_call (k := 28) (cl := 5) (n := 1) (i := .invokestatic 85) (args := [(0, (h 320 0 (h 328 0 0)))]) (rest := [(15, 0)]) (g1 := ((hset (hset h 325 0 0 (if v1 < (h 328 0 0) then v1 else (h 328 0 0))) 326 0 0 (h 320 0 (h 328 0 0))), hm, o)) (r1 := some (0, r3)) (zCk1_w (by decide +kernel)) rfl rfl rfl (st' := [(0, r3), (15, 0)]) rfl (S28 (Nat.le_trans (by decide) hd) (h 320 0 (h 328 0 0)) (hset (hset h 325 0 0 (if v1 < (h 328 0 0) then v1 else (h 328 0 0))) 326 0 0 (h 320 0 (h 328 0 0))) _ q9) ?_
        rcases zI_s e with ⟨q10, e⟩ | ⟨q10, e⟩
        · refine zF_blk (m := []) (d := 1) (b := B21_10) (gs := [r3 = 0]) (c' := (141, [some (15, 0), some (0, v1)], [(15, 0)], ((hset (hset h 325 0 0 (if v1 < (h 328 0 0) then v1 else (h 328 0 0))) 326 0 0 (h 320 0 (h 328 0 0))), hm, o))) K21_10 rfl ⟨q10, trivial⟩ ?_
          refine zF_blk (m := []) (d := 0) (b := B21_8) (gs := []) (c' := (142, [some (15, 0), some (0, v1)], [(0, 1), (15, 0)], ((hset (hset h 325 0 0 (if v1 < (h 328 0 0) then v1 else (h 328 0 0))) 326 0 0 (h 320 0 (h 328 0 0))), hm, o))) K21_8 rfl trivial ?_
          refine zF_blk (m := [true, false]) (d := 0) (b := []) (gs := []) (c' := (142, [some (15, 0), none], [(0, 1), (15, 0)], ((hset (hset h 325 0 0 (if v1 < (h 328 0 0) then v1 else (h 328 0 0))) 326 0 0 (h 320 0 (h 328 0 0))), hm, o))) rfl rfl trivial ?_
          exact T21_3 hd 1 (hset (hset h 325 0 0 (if v1 < (h 328 0 0) then v1 else (h 328 0 0))) 326 0 0 (h 320 0 (h 328 0 0))) _ e
        · refine zF_blk (m := []) (d := 0) (b := B21_10) (gs := [¬ (r3 = 0)]) (c' := (137, [some (15, 0), some (0, v1)], [(15, 0)], ((hset (hset h 325 0 0 (if v1 < (h 328 0 0) then v1 else (h 328 0 0))) 326 0 0 (h 320 0 (h 328 0 0))), hm, o))) K21_10 rfl ⟨q10, trivial⟩ ?_
          refine zF_blk (m := []) (d := 0) (b := B21_9) (gs := []) (c' := (142, [some (15, 0), some (0, v1)], [(0, 5), (15, 0)], ((hset (hset h 325 0 0 (if v1 < (h 328 0 0) then v1 else (h 328 0 0))) 326 0 0 (h 320 0 (h 328 0 0))), hm, o))) K21_9 rfl trivial ?_
          refine zF_blk (m := [true, false]) (d := 0) (b := []) (gs := []) (c' := (142, [some (15, 0), none], [(0, 5), (15, 0)], ((hset (hset h 325 0 0 (if v1 < (h 328 0 0) then v1 else (h 328 0 0))) 326 0 0 (h 320 0 (h 328 0 0))), hm, o))) rfl rfl trivial ?_
          exact T21_3 hd 5 (hset (hset h 325 0 0 (if v1 < (h 328 0 0) then v1 else (h 328 0 0))) 326 0 0 (h 320 0 (h 328 0 0))) _ e
      · refine zF_blk (m := []) (d := 0) (b := B21_11) (gs := [¬ (r2 = 0)]) (c' := (106, [some (15, 0), some (0, v1)], [], ((hset h 325 0 0 (if v1 < (h 328 0 0) then v1 else (h 328 0 0))), hm, o))) K21_11 rfl ⟨q7, trivial⟩ ?_
        refine zF_blk (m := [true, false]) (d := 0) (b := []) (gs := []) (c' := (106, [some (15, 0), none], [], ((hset h 325 0 0 (if v1 < (h 328 0 0) then v1 else (h 328 0 0))), hm, o))) rfl rfl trivial ?_
        exact T21_2 hd (hset h 325 0 0 (if v1 < (h 328 0 0) then v1 else (h 328 0 0))) _ e
  · refine zF_blk (m := []) (d := 0) (b := B21_14) (gs := [¬ ((h 328 0 0) < v1)]) (c' := (68, [some (15, 0), some (0, v1)], [], ((hset h 325 0 0 (if v1 < (h 328 0 0) then v1 else (h 328 0 0))), hm, o))) K21_14 rfl ⟨q1, trivial⟩ ?_
    refine zF_blk (m := []) (d := 0) (b := B21_13) (gs := []) (c' := (155, [some (15, 0), some (0, v1)], [], ((hset (hset h 325 0 0 (if v1 < (h 328 0 0) then v1 else (h 328 0 0))) 324 0 0 0), hm, o))) K21_13 rfl trivial ?_
    obtain rfl := Option.some.inj e
    exact zF_rv (zRe1_w (by decide +kernel))
def F21_0 : Nat → Int → zHC → Option zHC
  | 0, _, _ => none
  | n + 1, v1, h => if v1 ≤ (h 328 0 0) then F21_1 v1 h else zG (0 ≤ (h 328 0 0) ∧ (h 328 0 0) < 940) ((F23 (h 320 0 (h 328 0 0))).bind fun r1 => if r1 = 0 then F21_1 v1 h else (F21_0 n) v1 (hset h 328 0 0 (wadd (h 328 0 0) 1)))
set_option maxRecDepth 100000 in
theorem T21_0 {spec : zRn zH2} {hm : zHM} {o : Int → Int} {d : Nat} (hd : 2 ≤ d) : ∀ (n : Nat) (v1 : Int) (h : zHC) (v : zHC), F21_0 n v1 h = some v → zFin 0 (fun _ => 0) (zRu2 spec d) 21 none (v, hm, o) (12, [some (15, 0), some (0, v1)], [], (h, hm, o)) := by
  intro n
  induction n with
  | zero => intro v1 h v e; unfold F21_0 at e; cases e
  | succ n hk0 =>
    intro v1 h v e
    unfold F21_0 at e
    rcases zI_s e with ⟨q1, e⟩ | ⟨q1, e⟩
    · refine zF_blk (m := []) (d := 1) (b := B21_4) (gs := [v1 ≤ (h 328 0 0)]) (c' := (48, [some (15, 0), some (0, v1)], [], (h, hm, o))) K21_4 rfl ⟨q1, trivial⟩ ?_
      exact T21_1 hd v1 h _ e
    · refine zF_blk (m := []) (d := 0) (b := B21_4) (gs := [¬ (v1 ≤ (h 328 0 0))]) (c' := (20, [some (15, 0), some (0, v1)], [], (h, hm, o))) K21_4 rfl ⟨q1, trivial⟩ ?_
      obtain ⟨q2, e⟩ := zG_s e
      obtain ⟨r1, q3, e⟩ := zB_s e
      refine zF_blk (m := []) (d := 0) (b := B21_1) (gs := [0 ≤ (h 328 0 0) ∧ (h 328 0 0) < 940]) (c' := (29, [some (15, 0), some (0, v1)], [(0, (h 320 0 (h 328 0 0)))], (h, hm, o))) K21_1 rfl ⟨q2, trivial⟩ ?_
      refine zF_call (k := 23) (cl := 5) (n := 1) (i := .invokestatic 63) (args := [(0, (h 320 0 (h 328 0 0)))]) (rest := []) (g1 := (h, hm, o)) (r1 := some (0, r1)) (zCk1_w (by decide +kernel)) rfl rfl rfl (st' := [(0, r1)]) rfl (S23 (Nat.le_trans (by decide) hd) (h 320 0 (h 328 0 0)) h _ q3) ?_
      rcases zI_s e with ⟨q4, e⟩ | ⟨q4, e⟩
      · refine zF_blk (m := []) (d := 1) (b := B21_3) (gs := [r1 = 0]) (c' := (48, [some (15, 0), some (0, v1)], [], (h, hm, o))) K21_3 rfl ⟨q4, trivial⟩ ?_
        exact T21_1 hd v1 h _ e
      · refine zF_blk (m := []) (d := 0) (b := B21_3) (gs := [¬ (r1 = 0)]) (c' := (35, [some (15, 0), some (0, v1)], [], (h, hm, o))) K21_3 rfl ⟨q4, trivial⟩ ?_
        refine zF_blk (m := []) (d := 0) (b := B21_2) (gs := []) (c' := (12, [some (15, 0), some (0, v1)], [], ((hset h 328 0 0 (wadd (h 328 0 0) 1)), hm, o))) K21_2 rfl trivial ?_
        exact hk0 v1 (hset h 328 0 0 (wadd (h 328 0 0) 1)) _ e
/-- EchoVale$Reader.step()V -/
def F21 (h : zHC) : Option zHC := F21_0 zFu (if (h 329 0 0) < (h 321 0 0) then (h 329 0 0) else (h 321 0 0)) h
set_option maxRecDepth 100000 in
theorem S21 {spec : zRn zH2} {hm : zHM} {o : Int → Int} {d : Nat} (hd : 3 ≤ d) (h : zHC) (v : zHC) (e : F21 h = some v) : zRu2 spec d 21 [(15, 0)] (h, hm, o) none (v, hm, o) := by
  refine zF_in (D := 2) (mx := 2) (L := [some (15, 0), none]) (by decide +kernel) rfl rfl hd (fun d hd => ?_)
  unfold F21 at e
  refine zF_blk (m := []) (d := 0) (b := B21_0) (gs := []) (c' := (12, [some (15, 0), some (0, (if (h 329 0 0) < (h 321 0 0) then (h 329 0 0) else (h 321 0 0)))], [], (h, hm, o))) K21_0 rfl trivial ?_
  exact T21_0 hd zFu (if (h 329 0 0) < (h 321 0 0) then (h 329 0 0) else (h 321 0 0)) h _ e
/-- EchoVale$Reader.open(I)V -/
def F20 (v1 : Int) (h : zHC) : Option zHC := (F21 (hset (hset (hset (hset h 329 0 0 v1) 328 0 0 0) 322 0 0 0) 323 0 0 0)).bind fun r1 => some r1
set_option maxRecDepth 100000 in
theorem S20 {spec : zRn zH2} {hm : zHM} {o : Int → Int} {d : Nat} (hd : 4 ≤ d) (v1 : Int) (h : zHC) (v : zHC) (e : F20 v1 h = some v) : zRu2 spec d 20 [(15, 0), (0, v1)] (h, hm, o) none (v, hm, o) := by
  refine zF_in (D := 3) (mx := 2) (L := [some (15, 0), some (0, v1)]) (by decide +kernel) rfl rfl hd (fun d hd => ?_)
  unfold F20 at e
  obtain ⟨r1, q1, e⟩ := zB_s e
  refine zF_blk (m := []) (d := 0) (b := B20_0) (gs := []) (c' := (21, [some (15, 0), some (0, v1)], [(15, 0)], ((hset (hset (hset (hset h 329 0 0 v1) 328 0 0 0) 322 0 0 0) 323 0 0 0), hm, o))) K20_0 rfl trivial ?_
  refine zF_call (k := 21) (cl := 5) (n := 1) (i := .invokevirtual 54) (args := [(15, 0)]) (rest := []) (g1 := (r1, hm, o)) (r1 := none) (zCk1_w (by decide +kernel)) rfl rfl rfl (st' := []) rfl (S21 (Nat.le_trans (by decide) hd)  (hset (hset (hset (hset h 329 0 0 v1) 328 0 0 0) 322 0 0 0) 323 0 0 0) _ q1) ?_
  obtain rfl := Option.some.inj e
  exact zF_rv (zRe1_w (by decide +kernel))
/-- EchoVale$Reader.isAtEnd()Z -/
def F29 (h : zHC) : Option Int := if ¬ (h 324 0 0) = 0 then some 0 else if (h 329 0 0) < (h 321 0 0) then some 0 else some 1
set_option maxRecDepth 100000 in
theorem S29 {spec : zRn zH2} {hm : zHM} {o : Int → Int} {d : Nat} (hd : 1 ≤ d) (h : zHC) (v : Int) (e : F29 h = some v) : zRu2 spec d 29 [(15, 0)] (h, hm, o) (some (0, v)) (h, hm, o) := by
  refine zF_in (D := 0) (mx := 1) (L := [some (15, 0)]) (by decide +kernel) rfl rfl hd (fun d hd => ?_)
  unfold F29 at e
  rcases zI_s e with ⟨q1, e⟩ | ⟨q1, e⟩
  · refine zF_blk (m := []) (d := 1) (b := B29_3) (gs := [¬ (h 324 0 0) = 0]) (c' := (22, [some (15, 0)], [], (h, hm, o))) K29_3 rfl ⟨q1, trivial⟩ ?_
    refine zF_blk (m := []) (d := 0) (b := B29_0) (gs := []) (c' := (23, [some (15, 0)], [(0, 0)], (h, hm, o))) K29_0 rfl trivial ?_
    obtain rfl := Option.some.inj e
    exact zF_rb (zRe1_w (by decide +kernel)) (Or.inl rfl)
  · refine zF_blk (m := []) (d := 0) (b := B29_3) (gs := [¬ (¬ (h 324 0 0) = 0)]) (c' := (7, [some (15, 0)], [], (h, hm, o))) K29_3 rfl ⟨q1, trivial⟩ ?_
    rcases zI_s e with ⟨q2, e⟩ | ⟨q2, e⟩
    · refine zF_blk (m := []) (d := 1) (b := B29_2) (gs := [(h 329 0 0) < (h 321 0 0)]) (c' := (22, [some (15, 0)], [], (h, hm, o))) K29_2 rfl ⟨q2, trivial⟩ ?_
      refine zF_blk (m := []) (d := 0) (b := B29_0) (gs := []) (c' := (23, [some (15, 0)], [(0, 0)], (h, hm, o))) K29_0 rfl trivial ?_
      obtain rfl := Option.some.inj e
      exact zF_rb (zRe1_w (by decide +kernel)) (Or.inl rfl)
    · refine zF_blk (m := []) (d := 0) (b := B29_2) (gs := [¬ ((h 329 0 0) < (h 321 0 0))]) (c' := (18, [some (15, 0)], [], (h, hm, o))) K29_2 rfl ⟨q2, trivial⟩ ?_
      refine zF_blk (m := []) (d := 0) (b := B29_1) (gs := []) (c' := (23, [some (15, 0)], [(0, 1)], (h, hm, o))) K29_1 rfl trivial ?_
      obtain rfl := Option.some.inj e
      exact zF_rb (zRe1_w (by decide +kernel)) (Or.inr rfl)
/-- EchoVale$Reader.refuse(I)Z -/
def F31 (v1 : Int) (h : zHC) : Option (Int × zHC) := some (0, (hset (hset h 322 0 0 v1) 323 0 0 (h 325 0 0)))
set_option maxRecDepth 100000 in
theorem S31 {spec : zRn zH2} {hm : zHM} {o : Int → Int} {d : Nat} (hd : 1 ≤ d) (v1 : Int) (h : zHC) (v : (Int × zHC)) (e : F31 v1 h = some v) : zRu2 spec d 31 [(15, 0), (0, v1)] (h, hm, o) (some (0, v.1)) (v.2, hm, o) := by
  refine zF_in (D := 0) (mx := 2) (L := [some (15, 0), some (0, v1)]) (by decide +kernel) rfl rfl hd (fun d hd => ?_)
  unfold F31 at e
  refine zF_blk (m := []) (d := 0) (b := B31_0) (gs := []) (c' := (14, [some (15, 0), some (0, v1)], [(0, 0)], ((hset (hset h 322 0 0 v1) 323 0 0 (h 325 0 0)), hm, o))) K31_0 rfl trivial ?_
  exact zF_rbC (zRe1_w (by decide +kernel)) (Or.inl rfl) e
def F33_1 (h : zHC) : Option (Int × zHC) := some (1, h)
set_option maxRecDepth 100000 in
theorem T33_1 {spec : zRn zH2} {hm : zHM} {o : Int → Int} {d : Nat} (hd : 1 ≤ d) (h : zHC) (v : (Int × zHC)) (e : F33_1 h = some v) : zFin 0 (fun _ => 0) (zRu2 spec d) 33 (some (0, v.1)) (v.2, hm, o) (38, [none, none, none], [], (h, hm, o)) := by
  unfold F33_1 at e
  refine zF_blk (m := []) (d := 0) (b := B33_4) (gs := []) (c' := (43, [none, none, none], [(0, 1)], (h, hm, o))) K33_4 rfl trivial ?_
  exact zF_rbC (zRe1_w (by decide +kernel)) (Or.inr rfl) e
def F33_0 (h : zHC) : Option (Int × zHC) := (F31 2 h).bind fun r1 => if r1.1 = 0 then some (0, r1.2) else F33_1 r1.2
set_option maxRecDepth 100000 in
theorem T33_0 {spec : zRn zH2} {hm : zHM} {o : Int → Int} {d : Nat} (hd : 1 ≤ d) (h : zHC) (v : (Int × zHC)) (e : F33_0 h = some v) : zFin 0 (fun _ => 0) (zRu2 spec d) 33 (some (0, v.1)) (v.2, hm, o) (30, [some (15, 0), none, none], [], (h, hm, o)) := by
  unfold F33_0 at e
  obtain ⟨r1, q1, e⟩ := zB_s e
  refine zF_blk (m := []) (d := 0) (b := B33_5) (gs := []) (c' := (32, [some (15, 0), none, none], [(0, 2), (15, 0)], (h, hm, o))) K33_5 rfl trivial ?_
  refine zF_call (k := 31) (cl := 5) (n := 2) (i := .invokevirtual 96) (args := [(15, 0), (0, 2)]) (rest := []) (g1 := (r1.2, hm, o)) (r1 := some (0, r1.1)) (zCk1_w (by decide +kernel)) rfl rfl rfl (st' := [(0, r1.1)]) rfl (S31 (Nat.le_trans (by decide) hd) 2 h _ q1) ?_
  rcases zI_s e with ⟨q2, e⟩ | ⟨q2, e⟩
  · refine zF_blk (m := []) (d := 1) (b := B33_7) (gs := [r1.1 = 0]) (c' := (42, [some (15, 0), none, none], [], (r1.2, hm, o))) K33_7 rfl ⟨q2, trivial⟩ ?_
    refine zF_blk (m := []) (d := 0) (b := B33_6) (gs := []) (c' := (43, [some (15, 0), none, none], [(0, 0)], (r1.2, hm, o))) K33_6 rfl trivial ?_
    exact zF_rbC (zRe1_w (by decide +kernel)) (Or.inl rfl) e
  · refine zF_blk (m := []) (d := 0) (b := B33_7) (gs := [¬ (r1.1 = 0)]) (c' := (38, [some (15, 0), none, none], [], (r1.2, hm, o))) K33_7 rfl ⟨q2, trivial⟩ ?_
    refine zF_blk (m := [false, false, false]) (d := 0) (b := []) (gs := []) (c' := (38, [none, none, none], [], (r1.2, hm, o))) rfl rfl trivial ?_
    exact T33_1 hd r1.2 _ e
/-- EchoVale$Reader.isNumber(II)Z -/
def F33 (v1 : Int) (v2 : Int) (h : zHC) : Option (Int × zHC) := if (h 324 0 0) = 4 then if (h 326 0 0) < v1 then F33_0 h else if (h 326 0 0) ≤ v2 then F33_1 h else F33_0 h else (F31 1 h).bind fun r1 => zG (r1.1 = 0 ∨ r1.1 = 1) (some (r1.1, r1.2))
set_option maxRecDepth 100000 in
theorem S33 {spec : zRn zH2} {hm : zHM} {o : Int → Int} {d : Nat} (hd : 2 ≤ d) (v1 : Int) (v2 : Int) (h : zHC) (v : (Int × zHC)) (e : F33 v1 v2 h = some v) : zRu2 spec d 33 [(15, 0), (0, v1), (0, v2)] (h, hm, o) (some (0, v.1)) (v.2, hm, o) := by
  refine zF_in (D := 1) (mx := 3) (L := [some (15, 0), some (0, v1), some (0, v2)]) (by decide +kernel) rfl rfl hd (fun d hd => ?_)
  unfold F33 at e
  rcases zI_s e with ⟨q1, e⟩ | ⟨q1, e⟩
  · refine zF_blk (m := []) (d := 1) (b := B33_3) (gs := [(h 324 0 0) = 4]) (c' := (14, [some (15, 0), some (0, v1), some (0, v2)], [], (h, hm, o))) K33_3 rfl ⟨q1, trivial⟩ ?_
    rcases zI_s e with ⟨q2, e⟩ | ⟨q2, e⟩
    · refine zF_blk (m := []) (d := 1) (b := B33_1) (gs := [(h 326 0 0) < v1]) (c' := (30, [some (15, 0), some (0, v1), some (0, v2)], [], (h, hm, o))) K33_1 rfl ⟨q2, trivial⟩ ?_
      refine zF_blk (m := [true, false, false]) (d := 0) (b := []) (gs := []) (c' := (30, [some (15, 0), none, none], [], (h, hm, o))) rfl rfl trivial ?_
      exact T33_0 hd h _ e
    · refine zF_blk (m := []) (d := 0) (b := B33_1) (gs := [¬ ((h 326 0 0) < v1)]) (c' := (22, [some (15, 0), some (0, v1), some (0, v2)], [], (h, hm, o))) K33_1 rfl ⟨q2, trivial⟩ ?_
      rcases zI_s e with ⟨q3, e⟩ | ⟨q3, e⟩
      · refine zF_blk (m := []) (d := 1) (b := B33_0) (gs := [(h 326 0 0) ≤ v2]) (c' := (38, [some (15, 0), some (0, v1), some (0, v2)], [], (h, hm, o))) K33_0 rfl ⟨q3, trivial⟩ ?_
        refine zF_blk (m := [false, false, false]) (d := 0) (b := []) (gs := []) (c' := (38, [none, none, none], [], (h, hm, o))) rfl rfl trivial ?_
        exact T33_1 hd h _ e
      · refine zF_blk (m := []) (d := 0) (b := B33_0) (gs := [¬ ((h 326 0 0) ≤ v2)]) (c' := (30, [some (15, 0), some (0, v1), some (0, v2)], [], (h, hm, o))) K33_0 rfl ⟨q3, trivial⟩ ?_
        refine zF_blk (m := [true, false, false]) (d := 0) (b := []) (gs := []) (c' := (30, [some (15, 0), none, none], [], (h, hm, o))) rfl rfl trivial ?_
        exact T33_0 hd h _ e
  · refine zF_blk (m := []) (d := 0) (b := B33_3) (gs := [¬ ((h 324 0 0) = 4)]) (c' := (8, [some (15, 0), some (0, v1), some (0, v2)], [], (h, hm, o))) K33_3 rfl ⟨q1, trivial⟩ ?_
    obtain ⟨r1, q4, e⟩ := zB_s e
    refine zF_blk (m := []) (d := 0) (b := B33_2) (gs := []) (c' := (10, [some (15, 0), some (0, v1), some (0, v2)], [(0, 1), (15, 0)], (h, hm, o))) K33_2 rfl trivial ?_
    refine zF_call (k := 31) (cl := 5) (n := 2) (i := .invokevirtual 96) (args := [(15, 0), (0, 1)]) (rest := []) (g1 := (r1.2, hm, o)) (r1 := some (0, r1.1)) (zCk1_w (by decide +kernel)) rfl rfl rfl (st' := [(0, r1.1)]) rfl (S31 (Nat.le_trans (by decide) hd) 1 h _ q4) ?_
    obtain ⟨q5, e⟩ := zG_s e
    exact zF_rbC (zRe1_w (by decide +kernel)) q5 e
/-- EchoVale$ValleyText.readLand()Z -/
def F32 (h : zHC) : Option (Int × zHC) := if (h 576 1 0) ≤ 0 then (F21 h).bind fun r1 => (F33 2 10 r1).bind fun r2 => if ¬ r2.1 = 0 then (F21 r2.2).bind fun r3 => (F33 2 10 r3).bind fun r4 => if ¬ r4.1 = 0 then (F21 (hset (hset r4.2 576 1 0 (r2.2 326 0 0)) 577 1 0 (r4.2 326 0 0))).bind fun r5 => some (1, r5) else some (0, r4.2) else some (0, r2.2) else (F31 3 h).bind fun r6 => zG (r6.1 = 0 ∨ r6.1 = 1) (some (r6.1, r6.2))
set_option maxRecDepth 100000 in
theorem S32 {spec : zRn zH2} {hm : zHM} {o : Int → Int} {d : Nat} (hd : 4 ≤ d) (h : zHC) (v : (Int × zHC)) (e : F32 h = some v) : zRu2 spec d 32 [(20, 0)] (h, hm, o) (some (0, v.1)) (v.2, hm, o) := by
  refine zF_in (D := 3) (mx := 2) (L := [some (20, 0), none]) (by decide +kernel) rfl rfl hd (fun d hd => ?_)
  unfold F32 at e
  rcases zI_s e with ⟨q1, e⟩ | ⟨q1, e⟩
  · refine zF_blk (m := []) (d := 1) (b := B32_11) (gs := [(h 576 1 0) ≤ 0]) (c' := (19, [some (20, 0), none], [], (h, hm, o))) K32_11 rfl ⟨q1, trivial⟩ ?_
    obtain ⟨r1, q2, e⟩ := zB_s e
    refine zF_blk (m := []) (d := 0) (b := B32_0) (gs := []) (c' := (23, [some (20, 0), none], [(15, 0)], (h, hm, o))) K32_0 rfl trivial ?_
    refine zF_call (k := 21) (cl := 5) (n := 1) (i := .invokevirtual 79) (args := [(15, 0)]) (rest := []) (g1 := (r1, hm, o)) (r1 := none) (zCk1_w (by decide +kernel)) rfl rfl rfl (st' := []) rfl (S21 (Nat.le_trans (by decide) hd)  h _ q2) ?_
    obtain ⟨r2, q3, e⟩ := zB_s e
    refine zF_blk (m := []) (d := 0) (b := B32_1) (gs := []) (c' := (33, [some (20, 0), none], [(0, 10), (0, 2), (15, 0)], (r1, hm, o))) K32_1 rfl trivial ?_
    refine zF_call (k := 33) (cl := 5) (n := 3) (i := .invokevirtual 82) (args := [(15, 0), (0, 2), (0, 10)]) (rest := []) (g1 := (r2.2, hm, o)) (r1 := some (0, r2.1)) (zCk1_w (by decide +kernel)) rfl rfl rfl (st' := [(0, r2.1)]) rfl (S33 (Nat.le_trans (by decide) hd) 2 10 r1 _ q3) ?_
    rcases zI_s e with ⟨q4, e⟩ | ⟨q4, e⟩
    · refine zF_blk (m := []) (d := 1) (b := B32_9) (gs := [¬ r2.1 = 0]) (c' := (41, [some (20, 0), none], [], (r2.2, hm, o))) K32_9 rfl ⟨q4, trivial⟩ ?_
      obtain ⟨r3, q5, e⟩ := zB_s e
      refine zF_blk (m := []) (d := 0) (b := B32_2) (gs := []) (c' := (53, [some (20, 0), some (0, (r2.2 326 0 0))], [(15, 0)], (r2.2, hm, o))) K32_2 rfl trivial ?_
      refine zF_call (k := 21) (cl := 5) (n := 1) (i := .invokevirtual 79) (args := [(15, 0)]) (rest := []) (g1 := (r3, hm, o)) (r1 := none) (zCk1_w (by decide +kernel)) rfl rfl rfl (st' := []) rfl (S21 (Nat.le_trans (by decide) hd)  r2.2 _ q5) ?_
      obtain ⟨r4, q6, e⟩ := zB_s e
      refine zF_blk (m := []) (d := 0) (b := B32_3) (gs := []) (c' := (63, [some (20, 0), some (0, (r2.2 326 0 0))], [(0, 10), (0, 2), (15, 0)], (r3, hm, o))) K32_3 rfl trivial ?_
      refine zF_call (k := 33) (cl := 5) (n := 3) (i := .invokevirtual 82) (args := [(15, 0), (0, 2), (0, 10)]) (rest := []) (g1 := (r4.2, hm, o)) (r1 := some (0, r4.1)) (zCk1_w (by decide +kernel)) rfl rfl rfl (st' := [(0, r4.1)]) rfl (S33 (Nat.le_trans (by decide) hd) 2 10 r3 _ q6) ?_
      rcases zI_s e with ⟨q7, e⟩ | ⟨q7, e⟩
      · refine zF_blk (m := []) (d := 1) (b := B32_7) (gs := [¬ r4.1 = 0]) (c' := (71, [some (20, 0), some (0, (r2.2 326 0 0))], [], (r4.2, hm, o))) K32_7 rfl ⟨q7, trivial⟩ ?_
        obtain ⟨r5, q8, e⟩ := zB_s e
        refine zF_blk (m := []) (d := 0) (b := B32_4) (gs := []) (c' := (97, [some (20, 0), some (0, (r2.2 326 0 0))], [(15, 0)], ((hset (hset r4.2 576 1 0 (r2.2 326 0 0)) 577 1 0 (r4.2 326 0 0)), hm, o))) K32_4 rfl trivial ?_
        refine zF_call (k := 21) (cl := 5) (n := 1) (i := .invokevirtual 79) (args := [(15, 0)]) (rest := []) (g1 := (r5, hm, o)) (r1 := none) (zCk1_w (by decide +kernel)) rfl rfl rfl (st' := []) rfl (S21 (Nat.le_trans (by decide) hd)  (hset (hset r4.2 576 1 0 (r2.2 326 0 0)) 577 1 0 (r4.2 326 0 0)) _ q8) ?_
        refine zF_blk (m := []) (d := 0) (b := B32_5) (gs := []) (c' := (101, [some (20, 0), some (0, (r2.2 326 0 0))], [(0, 1)], (r5, hm, o))) K32_5 rfl trivial ?_
        exact zF_rbC (zRe1_w (by decide +kernel)) (Or.inr rfl) e
      · refine zF_blk (m := []) (d := 0) (b := B32_7) (gs := [¬ (¬ r4.1 = 0)]) (c' := (69, [some (20, 0), some (0, (r2.2 326 0 0))], [], (r4.2, hm, o))) K32_7 rfl ⟨q7, trivial⟩ ?_
        refine zF_blk (m := []) (d := 0) (b := B32_6) (gs := []) (c' := (70, [some (20, 0), some (0, (r2.2 326 0 0))], [(0, 0)], (r4.2, hm, o))) K32_6 rfl trivial ?_
        exact zF_rbC (zRe1_w (by decide +kernel)) (Or.inl rfl) e
    · refine zF_blk (m := []) (d := 0) (b := B32_9) (gs := [¬ (¬ r2.1 = 0)]) (c' := (39, [some (20, 0), none], [], (r2.2, hm, o))) K32_9 rfl ⟨q4, trivial⟩ ?_
      refine zF_blk (m := []) (d := 0) (b := B32_8) (gs := []) (c' := (40, [some (20, 0), none], [(0, 0)], (r2.2, hm, o))) K32_8 rfl trivial ?_
      exact zF_rbC (zRe1_w (by decide +kernel)) (Or.inl rfl) e
  · refine zF_blk (m := []) (d := 0) (b := B32_11) (gs := [¬ ((h 576 1 0) ≤ 0)]) (c' := (10, [some (20, 0), none], [], (h, hm, o))) K32_11 rfl ⟨q1, trivial⟩ ?_
    obtain ⟨r6, q9, e⟩ := zB_s e
    refine zF_blk (m := []) (d := 0) (b := B32_10) (gs := []) (c' := (15, [some (20, 0), none], [(0, 3), (15, 0)], (h, hm, o))) K32_10 rfl trivial ?_
    refine zF_call (k := 31) (cl := 5) (n := 2) (i := .invokevirtual 49) (args := [(15, 0), (0, 3)]) (rest := []) (g1 := (r6.2, hm, o)) (r1 := some (0, r6.1)) (zCk1_w (by decide +kernel)) rfl rfl rfl (st' := [(0, r6.1)]) rfl (S31 (Nat.le_trans (by decide) hd) 3 h _ q9) ?_
    obtain ⟨q10, e⟩ := zG_s e
    exact zF_rbC (zRe1_w (by decide +kernel)) q10 e
def F37_0 (h : zHC) : Nat → Int → Int → Int → Option Int
  | 0, _, _, _ => none
  | n + 1, v0, v1, v3 => if (h 578 v0 0) ≤ v3 then some (-1) else zG (0 ≤ v3 ∧ v3 < 6) (if ¬ (qcmp (h 583 v0 v3) v1) = 0 then (F37_0 h n) v0 v1 (wadd v3 1) else some v3)
set_option maxRecDepth 100000 in
theorem T37_0 {spec : zRn zH2} {hm : zHM} {o : Int → Int} {d : Nat} (hd : 0 ≤ d) (h : zHC) : ∀ (n : Nat) (v0 : Int) (v1 : Int) (v3 : Int) (v : Int), F37_0 h n v0 v1 v3 = some v → zFin 0 (fun _ => 0) (zRu2 spec d) 37 (some (0, v)) (h, hm, o) (2, [some (19, v0), some (1, v1), none, some (0, v3)], [], (h, hm, o)) := by
  intro n
  induction n with
  | zero => intro v0 v1 v3 v e; unfold F37_0 at e; cases e
  | succ n hk0 =>
    intro v0 v1 v3 v e
    unfold F37_0 at e
    rcases zI_s e with ⟨q1, e⟩ | ⟨q1, e⟩
    · refine zF_blk (m := []) (d := 1) (b := B37_5) (gs := [(h 578 v0 0) ≤ v3]) (c' := (29, [some (19, v0), some (1, v1), none, some (0, v3)], [], (h, hm, o))) K37_5 rfl ⟨q1, trivial⟩ ?_
      refine zF_blk (m := []) (d := 0) (b := B37_1) (gs := []) (c' := (30, [some (19, v0), some (1, v1), none, some (0, v3)], [(0, (-1))], (h, hm, o))) K37_1 rfl trivial ?_
      obtain rfl := Option.some.inj e
      exact zF_ri (zRe1_w (by decide +kernel))
    · refine zF_blk (m := []) (d := 0) (b := B37_5) (gs := [¬ ((h 578 v0 0) ≤ v3)]) (c' := (10, [some (19, v0), some (1, v1), none, some (0, v3)], [], (h, hm, o))) K37_5 rfl ⟨q1, trivial⟩ ?_
      obtain ⟨q2, e⟩ := zG_s e
      rcases zI_s e with ⟨q3, e⟩ | ⟨q3, e⟩
      · refine zF_blk (m := []) (d := 1) (b := B37_4) (gs := [0 ≤ v3 ∧ v3 < 6, ¬ (qcmp (h 583 v0 v3) v1) = 0]) (c' := (23, [some (19, v0), some (1, v1), none, some (0, v3)], [], (h, hm, o))) K37_4 rfl ⟨q2, q3, trivial⟩ ?_
        refine zF_blk (m := []) (d := 0) (b := B37_2) (gs := []) (c' := (2, [some (19, v0), some (1, v1), none, some (0, (wadd v3 1))], [], (h, hm, o))) K37_2 rfl trivial ?_
        exact hk0 v0 v1 (wadd v3 1) _ e
      · refine zF_blk (m := []) (d := 0) (b := B37_4) (gs := [0 ≤ v3 ∧ v3 < 6, ¬ (¬ (qcmp (h 583 v0 v3) v1) = 0)]) (c' := (21, [some (19, v0), some (1, v1), none, some (0, v3)], [], (h, hm, o))) K37_4 rfl ⟨q2, q3, trivial⟩ ?_
        refine zF_blk (m := []) (d := 0) (b := B37_3) (gs := []) (c' := (22, [some (19, v0), some (1, v1), none, some (0, v3)], [(0, v3)], (h, hm, o))) K37_3 rfl trivial ?_
        obtain rfl := Option.some.inj e
        exact zF_ri (zRe1_w (by decide +kernel))
/-- EchoVale$Valley.cliffNamed(J)I -/
def F37 (v0 : Int) (v1 : Int) (h : zHC) : Option Int := F37_0 h zFu v0 v1 0
set_option maxRecDepth 100000 in
theorem S37 {spec : zRn zH2} {hm : zHM} {o : Int → Int} {d : Nat} (hd : 1 ≤ d) (v0 : Int) (v1 : Int) (h : zHC) (v : Int) (e : F37 v0 v1 h = some v) : zRu2 spec d 37 [(19, v0), (1, v1)] (h, hm, o) (some (0, v)) (h, hm, o) := by
  refine zF_in (D := 0) (mx := 4) (L := [some (19, v0), some (1, v1), none, none]) (by decide +kernel) rfl rfl hd (fun d hd => ?_)
  unfold F37 at e
  refine zF_blk (m := []) (d := 0) (b := B37_0) (gs := []) (c' := (2, [some (19, v0), some (1, v1), none, some (0, 0)], [], (h, hm, o))) K37_0 rfl trivial ?_
  exact T37_0 hd h zFu v0 v1 0 _ e
def F38_0 (h : zHC) : Nat → Int → Int → Int → Option Int
  | 0, _, _, _ => none
  | n + 1, v0, v1, v3 => if (h 579 v0 0) ≤ v3 then some (-1) else zG (0 ≤ v3 ∧ v3 < 6) (if ¬ (qcmp (h 587 v0 v3) v1) = 0 then (F38_0 h n) v0 v1 (wadd v3 1) else some v3)
set_option maxRecDepth 100000 in
theorem T38_0 {spec : zRn zH2} {hm : zHM} {o : Int → Int} {d : Nat} (hd : 0 ≤ d) (h : zHC) : ∀ (n : Nat) (v0 : Int) (v1 : Int) (v3 : Int) (v : Int), F38_0 h n v0 v1 v3 = some v → zFin 0 (fun _ => 0) (zRu2 spec d) 38 (some (0, v)) (h, hm, o) (2, [some (19, v0), some (1, v1), none, some (0, v3)], [], (h, hm, o)) := by
  intro n
  induction n with
  | zero => intro v0 v1 v3 v e; unfold F38_0 at e; cases e
  | succ n hk0 =>
    intro v0 v1 v3 v e
    unfold F38_0 at e
    rcases zI_s e with ⟨q1, e⟩ | ⟨q1, e⟩
    · refine zF_blk (m := []) (d := 1) (b := B38_5) (gs := [(h 579 v0 0) ≤ v3]) (c' := (29, [some (19, v0), some (1, v1), none, some (0, v3)], [], (h, hm, o))) K38_5 rfl ⟨q1, trivial⟩ ?_
      refine zF_blk (m := []) (d := 0) (b := B38_1) (gs := []) (c' := (30, [some (19, v0), some (1, v1), none, some (0, v3)], [(0, (-1))], (h, hm, o))) K38_1 rfl trivial ?_
      obtain rfl := Option.some.inj e
      exact zF_ri (zRe1_w (by decide +kernel))
    · refine zF_blk (m := []) (d := 0) (b := B38_5) (gs := [¬ ((h 579 v0 0) ≤ v3)]) (c' := (10, [some (19, v0), some (1, v1), none, some (0, v3)], [], (h, hm, o))) K38_5 rfl ⟨q1, trivial⟩ ?_
      obtain ⟨q2, e⟩ := zG_s e
      rcases zI_s e with ⟨q3, e⟩ | ⟨q3, e⟩
      · refine zF_blk (m := []) (d := 1) (b := B38_4) (gs := [0 ≤ v3 ∧ v3 < 6, ¬ (qcmp (h 587 v0 v3) v1) = 0]) (c' := (23, [some (19, v0), some (1, v1), none, some (0, v3)], [], (h, hm, o))) K38_4 rfl ⟨q2, q3, trivial⟩ ?_
        refine zF_blk (m := []) (d := 0) (b := B38_2) (gs := []) (c' := (2, [some (19, v0), some (1, v1), none, some (0, (wadd v3 1))], [], (h, hm, o))) K38_2 rfl trivial ?_
        exact hk0 v0 v1 (wadd v3 1) _ e
      · refine zF_blk (m := []) (d := 0) (b := B38_4) (gs := [0 ≤ v3 ∧ v3 < 6, ¬ (¬ (qcmp (h 587 v0 v3) v1) = 0)]) (c' := (21, [some (19, v0), some (1, v1), none, some (0, v3)], [], (h, hm, o))) K38_4 rfl ⟨q2, q3, trivial⟩ ?_
        refine zF_blk (m := []) (d := 0) (b := B38_3) (gs := []) (c' := (22, [some (19, v0), some (1, v1), none, some (0, v3)], [(0, v3)], (h, hm, o))) K38_3 rfl trivial ?_
        obtain rfl := Option.some.inj e
        exact zF_ri (zRe1_w (by decide +kernel))
/-- EchoVale$Valley.personNamed(J)I -/
def F38 (v0 : Int) (v1 : Int) (h : zHC) : Option Int := F38_0 h zFu v0 v1 0
set_option maxRecDepth 100000 in
theorem S38 {spec : zRn zH2} {hm : zHM} {o : Int → Int} {d : Nat} (hd : 1 ≤ d) (v0 : Int) (v1 : Int) (h : zHC) (v : Int) (e : F38 v0 v1 h = some v) : zRu2 spec d 38 [(19, v0), (1, v1)] (h, hm, o) (some (0, v)) (h, hm, o) := by
  refine zF_in (D := 0) (mx := 4) (L := [some (19, v0), some (1, v1), none, none]) (by decide +kernel) rfl rfl hd (fun d hd => ?_)
  unfold F38 at e
  refine zF_blk (m := []) (d := 0) (b := B38_0) (gs := []) (c' := (2, [some (19, v0), some (1, v1), none, some (0, 0)], [], (h, hm, o))) K38_0 rfl trivial ?_
  exact T38_0 hd h zFu v0 v1 0 _ e
def F36_0 (h : zHC) : Option Int := some 1
set_option maxRecDepth 100000 in
theorem T36_0 {spec : zRn zH2} {hm : zHM} {o : Int → Int} {d : Nat} (hd : 1 ≤ d) (h : zHC) (v : Int) (e : F36_0 h = some v) : zFin 0 (fun _ => 0) (zRu2 spec d) 36 (some (0, v)) (h, hm, o) (18, [none, none, none], [], (h, hm, o)) := by
  unfold F36_0 at e
  refine zF_blk (m := []) (d := 0) (b := B36_5) (gs := []) (c' := (23, [none, none, none], [(0, 1)], (h, hm, o))) K36_5 rfl trivial ?_
  obtain rfl := Option.some.inj e
  exact zF_rb (zRe1_w (by decide +kernel)) (Or.inr rfl)
/-- EchoVale$Valley.isTaken(J)Z -/
def F36 (v0 : Int) (v1 : Int) (h : zHC) : Option Int := (F37 v0 v1 h).bind fun r1 => if ¬ r1 = (-1) then F36_0 h else (F38 v0 v1 h).bind fun r2 => if r2 = (-1) then some 0 else F36_0 h
set_option maxRecDepth 100000 in
theorem S36 {spec : zRn zH2} {hm : zHM} {o : Int → Int} {d : Nat} (hd : 2 ≤ d) (v0 : Int) (v1 : Int) (h : zHC) (v : Int) (e : F36 v0 v1 h = some v) : zRu2 spec d 36 [(19, v0), (1, v1)] (h, hm, o) (some (0, v)) (h, hm, o) := by
  refine zF_in (D := 1) (mx := 3) (L := [some (19, v0), some (1, v1), none]) (by decide +kernel) rfl rfl hd (fun d hd => ?_)
  unfold F36 at e
  obtain ⟨r1, q1, e⟩ := zB_s e
  refine zF_blk (m := []) (d := 0) (b := B36_0) (gs := []) (c' := (2, [some (19, v0), some (1, v1), none], [(1, v1), (19, v0)], (h, hm, o))) K36_0 rfl trivial ?_
  refine zF_call (k := 37) (cl := 9) (n := 2) (i := .invokevirtual 86) (args := [(19, v0), (1, v1)]) (rest := []) (g1 := (h, hm, o)) (r1 := some (0, r1)) (zCk1_w (by decide +kernel)) rfl rfl rfl (st' := [(0, r1)]) rfl (S37 (Nat.le_trans (by decide) hd) v0 v1 h _ q1) ?_
  rcases zI_s e with ⟨q2, e⟩ | ⟨q2, e⟩
  · refine zF_blk (m := []) (d := 1) (b := B36_4) (gs := [¬ r1 = (-1)]) (c' := (18, [some (19, v0), some (1, v1), none], [], (h, hm, o))) K36_4 rfl ⟨q2, trivial⟩ ?_
    refine zF_blk (m := [false, false, false]) (d := 0) (b := []) (gs := []) (c' := (18, [none, none, none], [], (h, hm, o))) rfl rfl trivial ?_
    exact T36_0 hd h _ e
  · refine zF_blk (m := []) (d := 0) (b := B36_4) (gs := [¬ (¬ r1 = (-1))]) (c' := (9, [some (19, v0), some (1, v1), none], [], (h, hm, o))) K36_4 rfl ⟨q2, trivial⟩ ?_
    obtain ⟨r2, q3, e⟩ := zB_s e
    refine zF_blk (m := []) (d := 0) (b := B36_1) (gs := []) (c' := (11, [some (19, v0), some (1, v1), none], [(1, v1), (19, v0)], (h, hm, o))) K36_1 rfl trivial ?_
    refine zF_call (k := 38) (cl := 9) (n := 2) (i := .invokevirtual 90) (args := [(19, v0), (1, v1)]) (rest := []) (g1 := (h, hm, o)) (r1 := some (0, r2)) (zCk1_w (by decide +kernel)) rfl rfl rfl (st' := [(0, r2)]) rfl (S38 (Nat.le_trans (by decide) hd) v0 v1 h _ q3) ?_
    rcases zI_s e with ⟨q4, e⟩ | ⟨q4, e⟩
    · refine zF_blk (m := []) (d := 1) (b := B36_3) (gs := [r2 = (-1)]) (c' := (22, [some (19, v0), some (1, v1), none], [], (h, hm, o))) K36_3 rfl ⟨q4, trivial⟩ ?_
      refine zF_blk (m := []) (d := 0) (b := B36_2) (gs := []) (c' := (23, [some (19, v0), some (1, v1), none], [(0, 0)], (h, hm, o))) K36_2 rfl trivial ?_
      obtain rfl := Option.some.inj e
      exact zF_rb (zRe1_w (by decide +kernel)) (Or.inl rfl)
    · refine zF_blk (m := []) (d := 0) (b := B36_3) (gs := [¬ (r2 = (-1))]) (c' := (18, [some (19, v0), some (1, v1), none], [], (h, hm, o))) K36_3 rfl ⟨q4, trivial⟩ ?_
      refine zF_blk (m := [false, false, false]) (d := 0) (b := []) (gs := []) (c' := (18, [none, none, none], [], (h, hm, o))) rfl rfl trivial ?_
      exact T36_0 hd h _ e
def F35_0 (h : zHC) : Option (Int × zHC) := some (1, h)
set_option maxRecDepth 100000 in
theorem T35_0 {spec : zRn zH2} {hm : zHM} {o : Int → Int} {d : Nat} (hd : 2 ≤ d) (h : zHC) (v : (Int × zHC)) (e : F35_0 h = some v) : zFin 0 (fun _ => 0) (zRu2 spec d) 35 (some (0, v.1)) (v.2, hm, o) (48, [none], [], (h, hm, o)) := by
  unfold F35_0 at e
  refine zF_blk (m := []) (d := 0) (b := B35_7) (gs := []) (c' := (53, [none], [(0, 1)], (h, hm, o))) K35_7 rfl trivial ?_
  exact zF_rbC (zRe1_w (by decide +kernel)) (Or.inr rfl) e
/-- EchoVale$ValleyText.isNewName()Z -/
def F35 (h : zHC) : Option (Int × zHC) := if (h 324 0 0) = 2 then (F36 1 (h 327 0 0) h).bind fun r1 => if r1 = 0 then F35_0 h else (F31 3 h).bind fun r2 => if r2.1 = 0 then some (0, r2.2) else F35_0 r2.2 else (F31 1 h).bind fun r3 => zG (r3.1 = 0 ∨ r3.1 = 1) (some (r3.1, r3.2))
set_option maxRecDepth 100000 in
theorem S35 {spec : zRn zH2} {hm : zHM} {o : Int → Int} {d : Nat} (hd : 3 ≤ d) (h : zHC) (v : (Int × zHC)) (e : F35 h = some v) : zRu2 spec d 35 [(20, 0)] (h, hm, o) (some (0, v.1)) (v.2, hm, o) := by
  refine zF_in (D := 2) (mx := 1) (L := [some (20, 0)]) (by decide +kernel) rfl rfl hd (fun d hd => ?_)
  unfold F35 at e
  rcases zI_s e with ⟨q1, e⟩ | ⟨q1, e⟩
  · refine zF_blk (m := []) (d := 1) (b := B35_6) (gs := [(h 324 0 0) = 2]) (c' := (20, [some (20, 0)], [], (h, hm, o))) K35_6 rfl ⟨q1, trivial⟩ ?_
    obtain ⟨r1, q2, e⟩ := zB_s e
    refine zF_blk (m := []) (d := 0) (b := B35_0) (gs := []) (c' := (31, [some (20, 0)], [(1, (h 327 0 0)), (19, 1)], (h, hm, o))) K35_0 rfl trivial ?_
    refine zF_call (k := 36) (cl := 9) (n := 2) (i := .invokevirtual 172) (args := [(19, 1), (1, (h 327 0 0))]) (rest := []) (g1 := (h, hm, o)) (r1 := some (0, r1)) (zCk1_w (by decide +kernel)) rfl rfl rfl (st' := [(0, r1)]) rfl (S36 (Nat.le_trans (by decide) hd) 1 (h 327 0 0) h _ q2) ?_
    rcases zI_s e with ⟨q3, e⟩ | ⟨q3, e⟩
    · refine zF_blk (m := []) (d := 1) (b := B35_4) (gs := [r1 = 0]) (c' := (48, [some (20, 0)], [], (h, hm, o))) K35_4 rfl ⟨q3, trivial⟩ ?_
      refine zF_blk (m := [false]) (d := 0) (b := []) (gs := []) (c' := (48, [none], [], (h, hm, o))) rfl rfl trivial ?_
      exact T35_0 hd h _ e
    · refine zF_blk (m := []) (d := 0) (b := B35_4) (gs := [¬ (r1 = 0)]) (c' := (37, [some (20, 0)], [], (h, hm, o))) K35_4 rfl ⟨q3, trivial⟩ ?_
      obtain ⟨r2, q4, e⟩ := zB_s e
      refine zF_blk (m := []) (d := 0) (b := B35_1) (gs := []) (c' := (42, [some (20, 0)], [(0, 3), (15, 0)], (h, hm, o))) K35_1 rfl trivial ?_
      refine zF_call (k := 31) (cl := 5) (n := 2) (i := .invokevirtual 49) (args := [(15, 0), (0, 3)]) (rest := []) (g1 := (r2.2, hm, o)) (r1 := some (0, r2.1)) (zCk1_w (by decide +kernel)) rfl rfl rfl (st' := [(0, r2.1)]) rfl (S31 (Nat.le_trans (by decide) hd) 3 h _ q4) ?_
      rcases zI_s e with ⟨q5, e⟩ | ⟨q5, e⟩
      · refine zF_blk (m := []) (d := 1) (b := B35_3) (gs := [r2.1 = 0]) (c' := (52, [some (20, 0)], [], (r2.2, hm, o))) K35_3 rfl ⟨q5, trivial⟩ ?_
        refine zF_blk (m := []) (d := 0) (b := B35_2) (gs := []) (c' := (53, [some (20, 0)], [(0, 0)], (r2.2, hm, o))) K35_2 rfl trivial ?_
        exact zF_rbC (zRe1_w (by decide +kernel)) (Or.inl rfl) e
      · refine zF_blk (m := []) (d := 0) (b := B35_3) (gs := [¬ (r2.1 = 0)]) (c' := (48, [some (20, 0)], [], (r2.2, hm, o))) K35_3 rfl ⟨q5, trivial⟩ ?_
        refine zF_blk (m := [false]) (d := 0) (b := []) (gs := []) (c' := (48, [none], [], (r2.2, hm, o))) rfl rfl trivial ?_
        exact T35_0 hd r2.2 _ e
  · refine zF_blk (m := []) (d := 0) (b := B35_6) (gs := [¬ ((h 324 0 0) = 2)]) (c' := (11, [some (20, 0)], [], (h, hm, o))) K35_6 rfl ⟨q1, trivial⟩ ?_
    obtain ⟨r3, q6, e⟩ := zB_s e
    refine zF_blk (m := []) (d := 0) (b := B35_5) (gs := []) (c' := (16, [some (20, 0)], [(0, 1), (15, 0)], (h, hm, o))) K35_5 rfl trivial ?_
    refine zF_call (k := 31) (cl := 5) (n := 2) (i := .invokevirtual 49) (args := [(15, 0), (0, 1)]) (rest := []) (g1 := (r3.2, hm, o)) (r1 := some (0, r3.1)) (zCk1_w (by decide +kernel)) rfl rfl rfl (st' := [(0, r3.1)]) rfl (S31 (Nat.le_trans (by decide) hd) 1 h _ q6) ?_
    obtain ⟨q7, e⟩ := zG_s e
    exact zF_rbC (zRe1_w (by decide +kernel)) q7 e
/-- EchoVale$ValleyText.cellHere()I -/
def F39 (h : zHC) : Option (Int × zHC) := (F33 0 (wsub (h 576 1 0) 1) h).bind fun r1 => if ¬ r1.1 = 0 then (F21 r1.2).bind fun r2 => (F33 0 (wsub (r2 577 1 0) 1) r2).bind fun r3 => if r3.1 = 0 then some ((-1), r3.2) else some ((wadd (wmul (r3.2 326 0 0) 10) (r1.2 326 0 0)), r3.2) else some ((-1), r1.2)
set_option maxRecDepth 100000 in
theorem S39 {spec : zRn zH2} {hm : zHM} {o : Int → Int} {d : Nat} (hd : 4 ≤ d) (h : zHC) (v : (Int × zHC)) (e : F39 h = some v) : zRu2 spec d 39 [(20, 0)] (h, hm, o) (some (0, v.1)) (v.2, hm, o) := by
  refine zF_in (D := 3) (mx := 2) (L := [some (20, 0), none]) (by decide +kernel) rfl rfl hd (fun d hd => ?_)
  unfold F39 at e
  obtain ⟨r1, q1, e⟩ := zB_s e
  refine zF_blk (m := []) (d := 0) (b := B39_0) (gs := []) (c' := (14, [some (20, 0), none], [(0, (wsub (h 576 1 0) 1)), (0, 0), (15, 0)], (h, hm, o))) K39_0 rfl trivial ?_
  refine zF_call (k := 33) (cl := 5) (n := 3) (i := .invokevirtual 82) (args := [(15, 0), (0, 0), (0, (wsub (h 576 1 0) 1))]) (rest := []) (g1 := (r1.2, hm, o)) (r1 := some (0, r1.1)) (zCk1_w (by decide +kernel)) rfl rfl rfl (st' := [(0, r1.1)]) rfl (S33 (Nat.le_trans (by decide) hd) 0 (wsub (h 576 1 0) 1) h _ q1) ?_
  rcases zI_s e with ⟨q2, e⟩ | ⟨q2, e⟩
  · refine zF_blk (m := []) (d := 1) (b := B39_7) (gs := [¬ r1.1 = 0]) (c' := (22, [some (20, 0), none], [], (r1.2, hm, o))) K39_7 rfl ⟨q2, trivial⟩ ?_
    obtain ⟨r2, q3, e⟩ := zB_s e
    refine zF_blk (m := []) (d := 0) (b := B39_1) (gs := []) (c' := (34, [some (20, 0), some (0, (r1.2 326 0 0))], [(15, 0)], (r1.2, hm, o))) K39_1 rfl trivial ?_
    refine zF_call (k := 21) (cl := 5) (n := 1) (i := .invokevirtual 79) (args := [(15, 0)]) (rest := []) (g1 := (r2, hm, o)) (r1 := none) (zCk1_w (by decide +kernel)) rfl rfl rfl (st' := []) rfl (S21 (Nat.le_trans (by decide) hd)  r1.2 _ q3) ?_
    obtain ⟨r3, q4, e⟩ := zB_s e
    refine zF_blk (m := []) (d := 0) (b := B39_2) (gs := []) (c' := (51, [some (20, 0), some (0, (r1.2 326 0 0))], [(0, (wsub (r2 577 1 0) 1)), (0, 0), (15, 0)], (r2, hm, o))) K39_2 rfl trivial ?_
    refine zF_call (k := 33) (cl := 5) (n := 3) (i := .invokevirtual 82) (args := [(15, 0), (0, 0), (0, (wsub (r2 577 1 0) 1))]) (rest := []) (g1 := (r3.2, hm, o)) (r1 := some (0, r3.1)) (zCk1_w (by decide +kernel)) rfl rfl rfl (st' := [(0, r3.1)]) rfl (S33 (Nat.le_trans (by decide) hd) 0 (wsub (r2 577 1 0) 1) r2 _ q4) ?_
    rcases zI_s e with ⟨q5, e⟩ | ⟨q5, e⟩
    · refine zF_blk (m := []) (d := 1) (b := B39_5) (gs := [r3.1 = 0]) (c' := (72, [some (20, 0), some (0, (r1.2 326 0 0))], [], (r3.2, hm, o))) K39_5 rfl ⟨q5, trivial⟩ ?_
      refine zF_blk (m := []) (d := 0) (b := B39_3) (gs := []) (c' := (73, [some (20, 0), some (0, (r1.2 326 0 0))], [(0, (-1))], (r3.2, hm, o))) K39_3 rfl trivial ?_
      exact zF_riC (zRe1_w (by decide +kernel)) e
    · refine zF_blk (m := []) (d := 0) (b := B39_5) (gs := [¬ (r3.1 = 0)]) (c' := (57, [some (20, 0), some (0, (r1.2 326 0 0))], [], (r3.2, hm, o))) K39_5 rfl ⟨q5, trivial⟩ ?_
      refine zF_blk (m := []) (d := 0) (b := B39_4) (gs := []) (c' := (73, [some (20, 0), some (0, (r1.2 326 0 0))], [(0, (wadd (wmul (r3.2 326 0 0) 10) (r1.2 326 0 0)))], (r3.2, hm, o))) K39_4 rfl trivial ?_
      exact zF_riC (zRe1_w (by decide +kernel)) e
  · refine zF_blk (m := []) (d := 0) (b := B39_7) (gs := [¬ (¬ r1.1 = 0)]) (c' := (20, [some (20, 0), none], [], (r1.2, hm, o))) K39_7 rfl ⟨q2, trivial⟩ ?_
    refine zF_blk (m := []) (d := 0) (b := B39_6) (gs := []) (c' := (21, [some (20, 0), none], [(0, (-1))], (r1.2, hm, o))) K39_6 rfl trivial ?_
    exact zF_riC (zRe1_w (by decide +kernel)) e
def F40_0 (h : zHC) : Nat → Int → Int → Int → Option Int
  | 0, _, _, _ => none
  | n + 1, v0, v1, v2 => if (h 578 v0 0) ≤ v2 then some 0 else zG (0 ≤ v2 ∧ v2 < 6) (if ¬ (h 584 v0 v2) = v1 then (F40_0 h n) v0 v1 (wadd v2 1) else some 1)
set_option maxRecDepth 100000 in
theorem T40_0 {spec : zRn zH2} {hm : zHM} {o : Int → Int} {d : Nat} (hd : 0 ≤ d) (h : zHC) : ∀ (n : Nat) (v0 : Int) (v1 : Int) (v2 : Int) (v : Int), F40_0 h n v0 v1 v2 = some v → zFin 0 (fun _ => 0) (zRu2 spec d) 40 (some (0, v)) (h, hm, o) (2, [some (19, v0), some (0, v1), some (0, v2)], [], (h, hm, o)) := by
  intro n
  induction n with
  | zero => intro v0 v1 v2 v e; unfold F40_0 at e; cases e
  | succ n hk0 =>
    intro v0 v1 v2 v e
    unfold F40_0 at e
    rcases zI_s e with ⟨q1, e⟩ | ⟨q1, e⟩
    · refine zF_blk (m := []) (d := 1) (b := B40_5) (gs := [(h 578 v0 0) ≤ v2]) (c' := (28, [some (19, v0), some (0, v1), some (0, v2)], [], (h, hm, o))) K40_5 rfl ⟨q1, trivial⟩ ?_
      refine zF_blk (m := []) (d := 0) (b := B40_1) (gs := []) (c' := (29, [some (19, v0), some (0, v1), some (0, v2)], [(0, 0)], (h, hm, o))) K40_1 rfl trivial ?_
      obtain rfl := Option.some.inj e
      exact zF_rb (zRe1_w (by decide +kernel)) (Or.inl rfl)
    · refine zF_blk (m := []) (d := 0) (b := B40_5) (gs := [¬ ((h 578 v0 0) ≤ v2)]) (c' := (10, [some (19, v0), some (0, v1), some (0, v2)], [], (h, hm, o))) K40_5 rfl ⟨q1, trivial⟩ ?_
      obtain ⟨q2, e⟩ := zG_s e
      rcases zI_s e with ⟨q3, e⟩ | ⟨q3, e⟩
      · refine zF_blk (m := []) (d := 1) (b := B40_4) (gs := [0 ≤ v2 ∧ v2 < 6, ¬ (h 584 v0 v2) = v1]) (c' := (22, [some (19, v0), some (0, v1), some (0, v2)], [], (h, hm, o))) K40_4 rfl ⟨q2, q3, trivial⟩ ?_
        refine zF_blk (m := []) (d := 0) (b := B40_2) (gs := []) (c' := (2, [some (19, v0), some (0, v1), some (0, (wadd v2 1))], [], (h, hm, o))) K40_2 rfl trivial ?_
        exact hk0 v0 v1 (wadd v2 1) _ e
      · refine zF_blk (m := []) (d := 0) (b := B40_4) (gs := [0 ≤ v2 ∧ v2 < 6, ¬ (¬ (h 584 v0 v2) = v1)]) (c' := (20, [some (19, v0), some (0, v1), some (0, v2)], [], (h, hm, o))) K40_4 rfl ⟨q2, q3, trivial⟩ ?_
        refine zF_blk (m := []) (d := 0) (b := B40_3) (gs := []) (c' := (21, [some (19, v0), some (0, v1), some (0, v2)], [(0, 1)], (h, hm, o))) K40_3 rfl trivial ?_
        obtain rfl := Option.some.inj e
        exact zF_rb (zRe1_w (by decide +kernel)) (Or.inr rfl)
/-- EchoVale$Valley.hasCliff(I)Z -/
def F40 (v0 : Int) (v1 : Int) (h : zHC) : Option Int := F40_0 h zFu v0 v1 0
set_option maxRecDepth 100000 in
theorem S40 {spec : zRn zH2} {hm : zHM} {o : Int → Int} {d : Nat} (hd : 1 ≤ d) (v0 : Int) (v1 : Int) (h : zHC) (v : Int) (e : F40 v0 v1 h = some v) : zRu2 spec d 40 [(19, v0), (0, v1)] (h, hm, o) (some (0, v)) (h, hm, o) := by
  refine zF_in (D := 0) (mx := 3) (L := [some (19, v0), some (0, v1), none]) (by decide +kernel) rfl rfl hd (fun d hd => ?_)
  unfold F40 at e
  refine zF_blk (m := []) (d := 0) (b := B40_0) (gs := []) (c' := (2, [some (19, v0), some (0, v1), some (0, 0)], [], (h, hm, o))) K40_0 rfl trivial ?_
  exact T40_0 hd h zFu v0 v1 0 _ e
/-- EchoVale$ValleyText.readCliff()Z -/
def F34 (h : zHC) : Option (Int × zHC) := if (h 578 1 0) < 6 then (F21 h).bind fun r1 => (F35 r1).bind fun r2 => if ¬ r2.1 = 0 then (F21 r2.2).bind fun r3 => (F39 r3).bind fun r4 => if ¬ r4.1 = (-1) then (F40 1 r4.1 r4.2).bind fun r5 => if r5 = 0 then (F21 r4.2).bind fun r6 => (F33 1 40 r6).bind fun r7 => if ¬ r7.1 = 0 then (F21 r7.2).bind fun r8 => (F33 1 9 r8).bind fun r9 => if ¬ r9.1 = 0 then zG (0 ≤ (h 578 1 0) ∧ (h 578 1 0) < 6) (zG (0 ≤ (h 578 1 0) ∧ (h 578 1 0) < 6) (zG (0 ≤ (h 578 1 0) ∧ (h 578 1 0) < 6) (zG (0 ≤ (h 578 1 0) ∧ (h 578 1 0) < 6) ((F21 (hset (hset (hset (hset (hset r9.2 583 1 (h 578 1 0) (r2.2 327 0 0)) 584 1 (h 578 1 0) r4.1) 585 1 (h 578 1 0) (r7.2 326 0 0)) 586 1 (h 578 1 0) (r9.2 326 0 0)) 578 1 0 (wadd (h 578 1 0) 1))).bind fun r10 => some (1, r10))))) else some (0, r9.2) else some (0, r7.2) else (F31 3 r4.2).bind fun r11 => zG (r11.1 = 0 ∨ r11.1 = 1) (some (r11.1, r11.2)) else some (0, r4.2) else some (0, r2.2) else (F31 4 h).bind fun r12 => zG (r12.1 = 0 ∨ r12.1 = 1) (some (r12.1, r12.2))
set_option maxRecDepth 100000 in
theorem S34 {spec : zRn zH2} {hm : zHM} {o : Int → Int} {d : Nat} (hd : 5 ≤ d) (h : zHC) (v : (Int × zHC)) (e : F34 h = some v) : zRu2 spec d 34 [(20, 0)] (h, hm, o) (some (0, v.1)) (v.2, hm, o) := by
  refine zF_in (D := 4) (mx := 6) (L := [some (20, 0), none, none, none, none, none]) (by decide +kernel) rfl rfl hd (fun d hd => ?_)
  unfold F34 at e
  rcases zI_s e with ⟨q1, e⟩ | ⟨q1, e⟩
  · refine zF_blk (m := []) (d := 1) (b := B34_22) (gs := [(h 578 1 0) < 6]) (c' := (23, [some (20, 0), some (0, (h 578 1 0)), none, none, none, none], [], (h, hm, o))) K34_22 rfl ⟨q1, trivial⟩ ?_
    obtain ⟨r1, q2, e⟩ := zB_s e
    refine zF_blk (m := []) (d := 0) (b := B34_0) (gs := []) (c' := (27, [some (20, 0), some (0, (h 578 1 0)), none, none, none, none], [(15, 0)], (h, hm, o))) K34_0 rfl trivial ?_
    refine zF_call (k := 21) (cl := 5) (n := 1) (i := .invokevirtual 79) (args := [(15, 0)]) (rest := []) (g1 := (r1, hm, o)) (r1 := none) (zCk1_w (by decide +kernel)) rfl rfl rfl (st' := []) rfl (S21 (Nat.le_trans (by decide) hd)  h _ q2) ?_
    obtain ⟨r2, q3, e⟩ := zB_s e
    refine zF_blk (m := []) (d := 0) (b := B34_1) (gs := []) (c' := (31, [some (20, 0), some (0, (h 578 1 0)), none, none, none, none], [(20, 0)], (r1, hm, o))) K34_1 rfl trivial ?_
    refine zF_call (k := 35) (cl := 10) (n := 1) (i := .invokevirtual 92) (args := [(20, 0)]) (rest := []) (g1 := (r2.2, hm, o)) (r1 := some (0, r2.1)) (zCk1_w (by decide +kernel)) rfl rfl rfl (st' := [(0, r2.1)]) rfl (S35 (Nat.le_trans (by decide) hd)  r1 _ q3) ?_
    rcases zI_s e with ⟨q4, e⟩ | ⟨q4, e⟩
    · refine zF_blk (m := []) (d := 1) (b := B34_20) (gs := [¬ r2.1 = 0]) (c' := (39, [some (20, 0), some (0, (h 578 1 0)), none, none, none, none], [], (r2.2, hm, o))) K34_20 rfl ⟨q4, trivial⟩ ?_
      obtain ⟨r3, q5, e⟩ := zB_s e
      refine zF_blk (m := []) (d := 0) (b := B34_2) (gs := []) (c' := (51, [some (20, 0), some (0, (h 578 1 0)), some (1, (r2.2 327 0 0)), none, none, none], [(15, 0)], (r2.2, hm, o))) K34_2 rfl trivial ?_
      refine zF_call (k := 21) (cl := 5) (n := 1) (i := .invokevirtual 79) (args := [(15, 0)]) (rest := []) (g1 := (r3, hm, o)) (r1 := none) (zCk1_w (by decide +kernel)) rfl rfl rfl (st' := []) rfl (S21 (Nat.le_trans (by decide) hd)  r2.2 _ q5) ?_
      obtain ⟨r4, q6, e⟩ := zB_s e
      refine zF_blk (m := []) (d := 0) (b := B34_3) (gs := []) (c' := (55, [some (20, 0), some (0, (h 578 1 0)), some (1, (r2.2 327 0 0)), none, none, none], [(20, 0)], (r3, hm, o))) K34_3 rfl trivial ?_
      refine zF_call (k := 39) (cl := 10) (n := 1) (i := .invokevirtual 99) (args := [(20, 0)]) (rest := []) (g1 := (r4.2, hm, o)) (r1 := some (0, r4.1)) (zCk1_w (by decide +kernel)) rfl rfl rfl (st' := [(0, r4.1)]) rfl (S39 (Nat.le_trans (by decide) hd)  r3 _ q6) ?_
      rcases zI_s e with ⟨q7, e⟩ | ⟨q7, e⟩
      · refine zF_blk (m := []) (d := 1) (b := B34_18) (gs := [¬ r4.1 = (-1)]) (c' := (68, [some (20, 0), some (0, (h 578 1 0)), some (1, (r2.2 327 0 0)), none, some (0, r4.1), none], [], (r4.2, hm, o))) K34_18 rfl ⟨q7, trivial⟩ ?_
        obtain ⟨r5, q8, e⟩ := zB_s e
        refine zF_blk (m := []) (d := 0) (b := B34_4) (gs := []) (c' := (74, [some (20, 0), some (0, (h 578 1 0)), some (1, (r2.2 327 0 0)), none, some (0, r4.1), none], [(0, r4.1), (19, 1)], (r4.2, hm, o))) K34_4 rfl trivial ?_
        refine zF_call (k := 40) (cl := 9) (n := 2) (i := .invokevirtual 103) (args := [(19, 1), (0, r4.1)]) (rest := []) (g1 := (r4.2, hm, o)) (r1 := some (0, r5)) (zCk1_w (by decide +kernel)) rfl rfl rfl (st' := [(0, r5)]) rfl (S40 (Nat.le_trans (by decide) hd) 1 r4.1 r4.2 _ q8) ?_
        rcases zI_s e with ⟨q9, e⟩ | ⟨q9, e⟩
        · refine zF_blk (m := []) (d := 1) (b := B34_16) (gs := [r5 = 0]) (c' := (89, [some (20, 0), some (0, (h 578 1 0)), some (1, (r2.2 327 0 0)), none, some (0, r4.1), none], [], (r4.2, hm, o))) K34_16 rfl ⟨q9, trivial⟩ ?_
          obtain ⟨r6, q10, e⟩ := zB_s e
          refine zF_blk (m := []) (d := 0) (b := B34_5) (gs := []) (c' := (93, [some (20, 0), some (0, (h 578 1 0)), some (1, (r2.2 327 0 0)), none, some (0, r4.1), none], [(15, 0)], (r4.2, hm, o))) K34_5 rfl trivial ?_
          refine zF_call (k := 21) (cl := 5) (n := 1) (i := .invokevirtual 79) (args := [(15, 0)]) (rest := []) (g1 := (r6, hm, o)) (r1 := none) (zCk1_w (by decide +kernel)) rfl rfl rfl (st' := []) rfl (S21 (Nat.le_trans (by decide) hd)  r4.2 _ q10) ?_
          obtain ⟨r7, q11, e⟩ := zB_s e
          refine zF_blk (m := []) (d := 0) (b := B34_6) (gs := []) (c' := (103, [some (20, 0), some (0, (h 578 1 0)), some (1, (r2.2 327 0 0)), none, some (0, r4.1), none], [(0, 40), (0, 1), (15, 0)], (r6, hm, o))) K34_6 rfl trivial ?_
          refine zF_call (k := 33) (cl := 5) (n := 3) (i := .invokevirtual 82) (args := [(15, 0), (0, 1), (0, 40)]) (rest := []) (g1 := (r7.2, hm, o)) (r1 := some (0, r7.1)) (zCk1_w (by decide +kernel)) rfl rfl rfl (st' := [(0, r7.1)]) rfl (S33 (Nat.le_trans (by decide) hd) 1 40 r6 _ q11) ?_
          rcases zI_s e with ⟨q12, e⟩ | ⟨q12, e⟩
          · refine zF_blk (m := []) (d := 1) (b := B34_14) (gs := [¬ r7.1 = 0]) (c' := (111, [some (20, 0), some (0, (h 578 1 0)), some (1, (r2.2 327 0 0)), none, some (0, r4.1), none], [], (r7.2, hm, o))) K34_14 rfl ⟨q12, trivial⟩ ?_
            obtain ⟨r8, q13, e⟩ := zB_s e
            refine zF_blk (m := []) (d := 0) (b := B34_7) (gs := []) (c' := (124, [some (20, 0), some (0, (h 578 1 0)), some (1, (r2.2 327 0 0)), none, some (0, r4.1), some (0, (r7.2 326 0 0))], [(15, 0)], (r7.2, hm, o))) K34_7 rfl trivial ?_
            refine zF_call (k := 21) (cl := 5) (n := 1) (i := .invokevirtual 79) (args := [(15, 0)]) (rest := []) (g1 := (r8, hm, o)) (r1 := none) (zCk1_w (by decide +kernel)) rfl rfl rfl (st' := []) rfl (S21 (Nat.le_trans (by decide) hd)  r7.2 _ q13) ?_
            obtain ⟨r9, q14, e⟩ := zB_s e
            refine zF_blk (m := []) (d := 0) (b := B34_8) (gs := []) (c' := (134, [some (20, 0), some (0, (h 578 1 0)), some (1, (r2.2 327 0 0)), none, some (0, r4.1), some (0, (r7.2 326 0 0))], [(0, 9), (0, 1), (15, 0)], (r8, hm, o))) K34_8 rfl trivial ?_
            refine zF_call (k := 33) (cl := 5) (n := 3) (i := .invokevirtual 82) (args := [(15, 0), (0, 1), (0, 9)]) (rest := []) (g1 := (r9.2, hm, o)) (r1 := some (0, r9.1)) (zCk1_w (by decide +kernel)) rfl rfl rfl (st' := [(0, r9.1)]) rfl (S33 (Nat.le_trans (by decide) hd) 1 9 r8 _ q14) ?_
            rcases zI_s e with ⟨q15, e⟩ | ⟨q15, e⟩
            · refine zF_blk (m := []) (d := 1) (b := B34_12) (gs := [¬ r9.1 = 0]) (c' := (142, [some (20, 0), some (0, (h 578 1 0)), some (1, (r2.2 327 0 0)), none, some (0, r4.1), some (0, (r7.2 326 0 0))], [], (r9.2, hm, o))) K34_12 rfl ⟨q15, trivial⟩ ?_
              obtain ⟨q16, e⟩ := zG_s e
              obtain ⟨q16, e⟩ := zG_s e
              obtain ⟨q16, e⟩ := zG_s e
              obtain ⟨q16, e⟩ := zG_s e
              obtain ⟨r10, q17, e⟩ := zB_s e
              refine zF_blk (m := []) (d := 0) (b := B34_9) (gs := [0 ≤ (h 578 1 0) ∧ (h 578 1 0) < 6, 0 ≤ (h 578 1 0) ∧ (h 578 1 0) < 6, 0 ≤ (h 578 1 0) ∧ (h 578 1 0) < 6, 0 ≤ (h 578 1 0) ∧ (h 578 1 0) < 6]) (c' := (204, [some (20, 0), some (0, (h 578 1 0)), some (1, (r2.2 327 0 0)), none, some (0, r4.1), some (0, (r7.2 326 0 0))], [(15, 0)], ((hset (hset (hset (hset (hset r9.2 583 1 (h 578 1 0) (r2.2 327 0 0)) 584 1 (h 578 1 0) r4.1) 585 1 (h 578 1 0) (r7.2 326 0 0)) 586 1 (h 578 1 0) (r9.2 326 0 0)) 578 1 0 (wadd (h 578 1 0) 1)), hm, o))) K34_9 rfl ⟨q16, q16, q16, q16, trivial⟩ ?_
              refine zF_call (k := 21) (cl := 5) (n := 1) (i := .invokevirtual 79) (args := [(15, 0)]) (rest := []) (g1 := (r10, hm, o)) (r1 := none) (zCk1_w (by decide +kernel)) rfl rfl rfl (st' := []) rfl (S21 (Nat.le_trans (by decide) hd)  (hset (hset (hset (hset (hset r9.2 583 1 (h 578 1 0) (r2.2 327 0 0)) 584 1 (h 578 1 0) r4.1) 585 1 (h 578 1 0) (r7.2 326 0 0)) 586 1 (h 578 1 0) (r9.2 326 0 0)) 578 1 0 (wadd (h 578 1 0) 1)) _ q17) ?_
              refine zF_blk (m := []) (d := 0) (b := B34_10) (gs := []) (c' := (208, [some (20, 0), some (0, (h 578 1 0)), some (1, (r2.2 327 0 0)), none, some (0, r4.1), some (0, (r7.2 326 0 0))], [(0, 1)], (r10, hm, o))) K34_10 rfl trivial ?_
              exact zF_rbC (zRe1_w (by decide +kernel)) (Or.inr rfl) e
            · refine zF_blk (m := []) (d := 0) (b := B34_12) (gs := [¬ (¬ r9.1 = 0)]) (c' := (140, [some (20, 0), some (0, (h 578 1 0)), some (1, (r2.2 327 0 0)), none, some (0, r4.1), some (0, (r7.2 326 0 0))], [], (r9.2, hm, o))) K34_12 rfl ⟨q15, trivial⟩ ?_
              refine zF_blk (m := []) (d := 0) (b := B34_11) (gs := []) (c' := (141, [some (20, 0), some (0, (h 578 1 0)), some (1, (r2.2 327 0 0)), none, some (0, r4.1), some (0, (r7.2 326 0 0))], [(0, 0)], (r9.2, hm, o))) K34_11 rfl trivial ?_
              exact zF_rbC (zRe1_w (by decide +kernel)) (Or.inl rfl) e
          · refine zF_blk (m := []) (d := 0) (b := B34_14) (gs := [¬ (¬ r7.1 = 0)]) (c' := (109, [some (20, 0), some (0, (h 578 1 0)), some (1, (r2.2 327 0 0)), none, some (0, r4.1), none], [], (r7.2, hm, o))) K34_14 rfl ⟨q12, trivial⟩ ?_
            refine zF_blk (m := []) (d := 0) (b := B34_13) (gs := []) (c' := (110, [some (20, 0), some (0, (h 578 1 0)), some (1, (r2.2 327 0 0)), none, some (0, r4.1), none], [(0, 0)], (r7.2, hm, o))) K34_13 rfl trivial ?_
            exact zF_rbC (zRe1_w (by decide +kernel)) (Or.inl rfl) e
        · refine zF_blk (m := []) (d := 0) (b := B34_16) (gs := [¬ (r5 = 0)]) (c' := (80, [some (20, 0), some (0, (h 578 1 0)), some (1, (r2.2 327 0 0)), none, some (0, r4.1), none], [], (r4.2, hm, o))) K34_16 rfl ⟨q9, trivial⟩ ?_
          obtain ⟨r11, q18, e⟩ := zB_s e
          refine zF_blk (m := []) (d := 0) (b := B34_15) (gs := []) (c' := (85, [some (20, 0), some (0, (h 578 1 0)), some (1, (r2.2 327 0 0)), none, some (0, r4.1), none], [(0, 3), (15, 0)], (r4.2, hm, o))) K34_15 rfl trivial ?_
          refine zF_call (k := 31) (cl := 5) (n := 2) (i := .invokevirtual 49) (args := [(15, 0), (0, 3)]) (rest := []) (g1 := (r11.2, hm, o)) (r1 := some (0, r11.1)) (zCk1_w (by decide +kernel)) rfl rfl rfl (st' := [(0, r11.1)]) rfl (S31 (Nat.le_trans (by decide) hd) 3 r4.2 _ q18) ?_
          obtain ⟨q19, e⟩ := zG_s e
          exact zF_rbC (zRe1_w (by decide +kernel)) q19 e
      · refine zF_blk (m := []) (d := 0) (b := B34_18) (gs := [¬ (¬ r4.1 = (-1))]) (c' := (66, [some (20, 0), some (0, (h 578 1 0)), some (1, (r2.2 327 0 0)), none, some (0, r4.1), none], [], (r4.2, hm, o))) K34_18 rfl ⟨q7, trivial⟩ ?_
        refine zF_blk (m := []) (d := 0) (b := B34_17) (gs := []) (c' := (67, [some (20, 0), some (0, (h 578 1 0)), some (1, (r2.2 327 0 0)), none, some (0, r4.1), none], [(0, 0)], (r4.2, hm, o))) K34_17 rfl trivial ?_
        exact zF_rbC (zRe1_w (by decide +kernel)) (Or.inl rfl) e
    · refine zF_blk (m := []) (d := 0) (b := B34_20) (gs := [¬ (¬ r2.1 = 0)]) (c' := (37, [some (20, 0), some (0, (h 578 1 0)), none, none, none, none], [], (r2.2, hm, o))) K34_20 rfl ⟨q4, trivial⟩ ?_
      refine zF_blk (m := []) (d := 0) (b := B34_19) (gs := []) (c' := (38, [some (20, 0), some (0, (h 578 1 0)), none, none, none, none], [(0, 0)], (r2.2, hm, o))) K34_19 rfl trivial ?_
      exact zF_rbC (zRe1_w (by decide +kernel)) (Or.inl rfl) e
  · refine zF_blk (m := []) (d := 0) (b := B34_22) (gs := [¬ ((h 578 1 0) < 6)]) (c' := (14, [some (20, 0), some (0, (h 578 1 0)), none, none, none, none], [], (h, hm, o))) K34_22 rfl ⟨q1, trivial⟩ ?_
    obtain ⟨r12, q20, e⟩ := zB_s e
    refine zF_blk (m := []) (d := 0) (b := B34_21) (gs := []) (c' := (19, [some (20, 0), some (0, (h 578 1 0)), none, none, none, none], [(0, 4), (15, 0)], (h, hm, o))) K34_21 rfl trivial ?_
    refine zF_call (k := 31) (cl := 5) (n := 2) (i := .invokevirtual 49) (args := [(15, 0), (0, 4)]) (rest := []) (g1 := (r12.2, hm, o)) (r1 := some (0, r12.1)) (zCk1_w (by decide +kernel)) rfl rfl rfl (st' := [(0, r12.1)]) rfl (S31 (Nat.le_trans (by decide) hd) 4 h _ q20) ?_
    obtain ⟨q21, e⟩ := zG_s e
    exact zF_rbC (zRe1_w (by decide +kernel)) q21 e

