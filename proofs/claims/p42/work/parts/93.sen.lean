section
/-! A sentence's text: what its readers share. -/
def sfC (h h' : zHC) : Prop := ∀ r n j, ¬ ((322 ≤ r ∧ r ≤ 328) ∨ (384 ≤ r ∧ r ≤ 386 ∧ n = 1)) → h' r n j = h r n j
def sfM (m m' : zHM) : Prop := ∀ r j, ¬ ((5 ≤ r ∧ r ≤ 13) ∨ (45 ≤ r ∧ r ≤ 49)) → m' r j = m r j
theorem sfC_refl {h : zHC} : sfC h h := fun _ _ _ _ => rfl
theorem sfM_refl {m : zHM} : sfM m m := fun _ _ _ => rfl
theorem sfC_trans {h h' h'' : zHC} (a : sfC h h') (b : sfC h' h'') : sfC h h'' := fun r n j hne => by rw [b r n j hne, a r n j hne]
theorem sfM_trans {m m' m'' : zHM} (a : sfM m m') (b : sfM m' m'') : sfM m m'' := fun r j hne => by rw [b r j hne, a r j hne]
theorem RVC_s {h h' : zHC} {m m' : zHM} (f1 : sfC h h') (f2 : sfM m m') (hV : RVC h m) : RVC h' m' := RVC_keep (fun r j g => f1 r 0 j (by omega)) (fun j _ _ => f2 14 j (by omega)) (fun j => f2 19 j (by omega)) hV
def zSI (h : zHC) (m : zHM) (n : Nat) (d : Int) : Prop := TR h m ∧ h 322 0 0 = m 10 0 ∧ h 385 1 0 = (n : Int) ∧ m 46 0 = (n : Int) ∧ h 384 1 0 = m 47 0 ∧ 0 ≤ m 47 0 ∧ m 47 0 ≤ 20 ∧ m 48 0 = d - 1 ∧ (n : Int) ≤ 2 * m 47 0 ∧ RVC h m
def zSO (h : zHC) (m : zHM) (n : Nat) (d : Int) (x : Option (Int × zHC)) (y : Option (Int × zHM)) : Prop := (∃ h' m' n' P, x = some (1, h') ∧ y = some (1, m') ∧ zSI h' m' n' d ∧ zCl (h' 386 1) n' = zCl (h 386 1) n ++ P ∧ zPT P (m' 45) n' (m' 49 0) ∧ (∀ j, 0 ≤ j → j < 4 * (n : Int) → m' 45 j = m 45 j) ∧ n ≤ n' ∧ m 47 0 + 1 ≤ m' 47 0 ∧ 2 * m 47 0 + (n' : Int) + 1 ≤ 2 * m' 47 0 + (n : Int) ∧ sfC h h' ∧ sfM m m') ∨ (∃ h' m', x = some (0, h') ∧ y = some (0, m') ∧ FT h' m' ∧ sfC h h' ∧ sfM m m')
theorem S_fail {h : zHC} {m : zHM} {n : Nat} {d k : Int} (hT : TR h m) (hk : k = 1 ∨ ¬ m 7 0 = 1) : zSO h m n d ((F31 k h).bind fun r1 => zG (r1.1 = 0 ∨ r1.1 = 1) (some (r1.1, r1.2))) ((F185 k m).bind fun r1 => zG (r1.1 = 0 ∨ r1.1 = 1) (some (r1.1, r1.2))) := by
  obtain ⟨h', m', a1, a2, a3, a4, a5⟩ := L31 hT hk
  rw [a1, a2, Option.bind_some, Option.bind_some, zG_t (Or.inl rfl), zG_t (Or.inl rfl)]
  exact Or.inr ⟨h', m', rfl, rfl, a3, fun r n j hne => a4 r n j (by omega), fun r j hne => a5 r j (by omega)⟩
/-- which word it is -/
theorem S_find {kR : zHM → Option (Int × zHM)} {h : zHC} {m : zHM} {o : Int} (hT : TR h m) : ∀ (n : Nat) (j : Int), 12 ≤ j → j ≤ 21 → 21 - j < n → (h 324 0 0 = 3 → 12 ≤ h 326 0 0 → j ≤ h 326 0 0) → F283_0 kR n o j m = F283_1 kR o (if h 324 0 0 = 3 ∧ 12 ≤ h 326 0 0 then h 326 0 0 else 21) m := by
  intro n
  induction n with
  | zero => intro j j0 j1 g; omega
  | succ n ih =>
    intro j j0 j1 g hb
    have hr : h 324 0 0 = 3 → h 326 0 0 < 21 := by
      obtain ⟨-, hk2, -, -⟩ := hT
      rcases hk2 with ⟨a, b, c⟩ | ⟨a, b, c⟩ | ⟨a, c⟩ | ⟨a, c, -⟩ | ⟨a, c, d, d2, -⟩ | ⟨a, c, -⟩ | ⟨a, c, -⟩ <;> omega
    rw [F283_0]
    by_cases u : j = 21
    · rw [if_pos (by omega), if_neg (fun z => by have := hb z.1 z.2; have := hr z.1; omega), u]
    · rw [if_neg (by omega), E181 hT (by omega) (by omega), Option.bind_some]
      by_cases v : h 324 0 0 = 3 ∧ h 326 0 0 = j
      · rw [if_pos v, if_pos (show ¬ (1 : Int) = 0 by decide), if_pos ⟨v.1, by omega⟩, v.2]
      · rw [if_neg v, if_neg (show ¬ ¬ (0 : Int) = 0 by decide), wadd_eq (by omega) (by omega)]
        refine ih (j + 1) (by omega) (by omega) (by omega) (fun z1 z2 => ?_)
        have := hb z1 z2
        have : ¬ h 326 0 0 = j := fun z => v ⟨z1, z⟩
        omega
def zXl (w : Int) (r1 : zHC) : Option (Int × zHC) := if w = 13 then F154_0 w r1 else if ¬ w = 14 then if w = 15 then F154_1 0 w r1 else if ¬ w = 16 then (F51 60 r1).bind fun r2 => if ¬ r2 = 0 then F154_2 w r1 else (F51 61 r1).bind fun r3 => if ¬ r3 = 0 then F154_2 w r1 else (F51 62 r1).bind fun r4 => if ¬ r4 = 0 then F154_2 w r1 else (F31 1 r1).bind fun r5 => zG (r5.1 = 0 ∨ r5.1 = 1) (some (r5.1, r5.2)) else F154_1 0 w r1 else F154_0 w r1
def zYl (kR : zHM → Option (Int × zHM)) (w : Int) (r1 : zHM) : Option (Int × zHM) := if 15 ≤ w then if 17 ≤ w then (F288 w r1).bind fun r2 => F283_4 kR r2.1 r2.2 else (F287 w r1).bind fun r3 => F283_4 kR r3.1 r3.2 else (F286 (wadd 50 w) 0 0 0 r1).bind fun r4 => F283_5 kR 1 (mset r4.2 49 0 r4.1)
def lfC (h h' : zHC) : Prop := ∀ r n j, ¬ ((322 ≤ r ∧ r ≤ 328) ∨ (385 ≤ r ∧ r ≤ 386 ∧ n = 1)) → h' r n j = h r n j
def lfM (m m' : zHM) : Prop := ∀ r j, ¬ ((5 ≤ r ∧ r ≤ 13) ∨ r = 45 ∨ r = 46 ∨ r = 49) → m' r j = m r j
def zSL (kR : zHM → Option (Int × zHM)) (h : zHC) (m : zHM) (n : Nat) (x : Option (Int × zHC)) (y : Option (Int × zHM)) : Prop := (∃ h' m' P, x = some (1, h') ∧ y = F283_5 kR 1 m' ∧ TR h' m' ∧ h' 322 0 0 = h 322 0 0 ∧ m' 10 0 = m 10 0 ∧ h' 385 1 0 = ((n + 1 : Nat) : Int) ∧ m' 46 0 = ((n + 1 : Nat) : Int) ∧ zCl (h' 386 1) (n + 1) = zCl (h 386 1) n ++ P ∧ zPT P (m' 45) (n + 1) (m' 49 0) ∧ (∀ j, 0 ≤ j → j < 4 * (n : Int) → m' 45 j = m 45 j) ∧ lfC h h' ∧ lfM m m') ∨ (∃ h' m', x = some (0, h') ∧ y = F283_5 kR 0 m' ∧ FT h' m' ∧ lfC h h' ∧ lfM m m')
theorem S_lfail {kR : zHM → Option (Int × zHM)} {h h0 : zHC} {m m0 : zHM} {n : Nat} {k : Int} (hT : TR h m) (hk : k = 1 ∨ ¬ m 7 0 = 1) (f1 : lfC h0 h) (f2 : lfM m0 m) : zSL kR h0 m0 n ((F31 k h).bind fun r1 => zG (r1.1 = 0 ∨ r1.1 = 1) (some (r1.1, r1.2))) (((F185 k m).bind fun r1 => zG (r1.1 = 0 ∨ r1.1 = 1) (some (r1.1, r1.2))).bind fun r2 => F283_4 kR r2.1 r2.2) := by
  obtain ⟨h', m', a1, a2, a3, a4, a5⟩ := L31 hT hk
  rw [a1, a2, Option.bind_some, Option.bind_some, zG_t (Or.inl rfl), zG_t (Or.inl rfl), Option.bind_some]
  exact Or.inr ⟨h', m', rfl, rfl, a3, fun r n j hne => by rw [a4 r n j (by omega), f1 r n j hne], fun r j hne => by rw [a5 r j (by omega), f2 r j hne]⟩
theorem S_leafA {kR : zHM → Option (Int × zHM)} {h : zHC} {m : zHM} {n : Nat} {w : Int} (hT : TR h m) (e : h 385 1 0 = (n : Int)) (eN : m 46 0 = (n : Int)) (n1 : n < 40) (w0 : 13 ≤ w) (w1 : w ≤ 14) : zSL kR h m n (F154_0 w h) ((F286 (wadd 50 w) 0 0 0 m).bind fun r4 => F283_5 kR 1 (mset r4.2 49 0 r4.1)) := by
  obtain ⟨h', m', a1, a2, a3, a4, a5, a6, a7, a8, a9⟩ := L_leaf (w := w) (x := 0) (y := 0) (p := 0) (v := 0) e n1 eN (by omega) (by omega) (by omega) rfl (fun _ => rfl) (fun z => by omega)
  unfold F154_0
  rw [wadd_eq (x := 50) (by omega) (by omega), a1, a2, Option.bind_some, Option.bind_some]
  dsimp only
  refine Or.inl ⟨h', _, _, rfl, rfl, TR_keep hT (fun r j _ _ => a8 r 0 j (by omega)) (fun r j g => by rw [mset_ne (by omega), a9 r j (by omega)]), a8 322 0 0 (by omega), by rw [mset_ne (by omega), a9 10 0 (by omega)], a3, by rw [mset_ne (by omega)]; exact a4, a5, ?_, fun j j0 j1 => ?_, fun r k j hne => a8 r k j (by omega), fun r j hne => by rw [mset_ne (by omega), a9 r j (by omega)]⟩
  · have z : (mset m' 49 0 (n : Int)) 45 = m' 45 := by funext j; exact mset_ne (by omega)
    rw [mset_eq, z]
    exact a6
  · rw [mset_ne (by omega)]
    exact a7 j j0 j1
theorem S_leafB {kR : zHM → Option (Int × zHM)} {h : zHC} {m : zHM} {n : Nat} {w : Int} (hT : TR h m) (hV : RVC h m) (e : h 385 1 0 = (n : Int)) (eN : m 46 0 = (n : Int)) (n1 : n < 40) (w0 : 15 ≤ w) (w1 : w ≤ 16) : zSL kR h m n (F154_1 0 w h) ((F287 w m).bind fun r3 => F283_4 kR r3.1 r3.2) := by
  have w6 := hV.1.2.2.2.2.2.2.2.1
  unfold WN at w6
  unfold F154_1 F287 F43
  rw [E191 hT, Option.bind_some]
  by_cases u : h 324 0 0 = 2
  · rw [if_pos u, if_pos u, if_pos (show ¬ (1 : Int) = 0 by decide)]
    obtain ⟨p, b1, b2, b3⟩ := L38b (h := h) (m := m) (v := 0) hV.1.1.2.2.2.1 (by omega) (by omega) hV.1.2.2.2.2.2.2.1.2 (TR_name hT u)
    rw [b1, b2, Option.bind_some, Option.bind_some]
    by_cases v : p = -1
    · obtain ⟨h', m', c1, c2, c3, c4, c5⟩ := L31 (k := 3) hT (Or.inr (TR_at hT (by omega) (by omega)))
      rw [if_neg (fun z => z v), if_neg (fun z => z v), c1, c2, Option.bind_some, Option.bind_some, Option.bind_some, zG_t (Or.inl rfl), Option.bind_some]
      dsimp only
      rw [if_neg (fun z => z v)]
      exact Or.inr ⟨h', m', rfl, rfl, c3, fun r n j hne => c4 r n j (by omega), fun r j hne => c5 r j (by omega)⟩
    · obtain ⟨h1, m1, a1, a2, a3, a4, a5, a6, a7, a8, a9⟩ := L_leaf (h := h) (m := m) (w := w) (x := 0) (y := p) (p := p) (v := 0) e n1 eN (by omega) (by omega) (by omega) (by omega) (fun _ => rfl) (fun z => by omega)
      obtain ⟨h', m', c1, c2, c3, c4, c5⟩ := L21h (h2 := h1) (m2 := mset m1 49 0 (n : Int)) hT (by omega) (fun r j _ _ => a8 r 0 j (by omega)) (fun r j g => by rw [mset_ne (by omega), a9 r j (by omega)])
      rw [if_pos v, if_pos v, Option.bind_some]
      dsimp only
      rw [if_pos v, wadd_eq (x := 50) (by omega) (by omega), a1, a2, Option.bind_some, Option.bind_some]
      dsimp only
      rw [c1, c2, Option.bind_some, Option.bind_some, Option.bind_some]
      have z : m' 45 = m1 45 := by funext j; rw [c5 45 j (by omega), mset_ne (by omega)]
      have z2 : h' 386 1 = h1 386 1 := by funext j; exact c4 386 1 j (by omega)
      refine Or.inl ⟨h', m', _, rfl, rfl, c3, by rw [c4 322 0 0 (by omega), a8 322 0 0 (by omega)], by rw [c5 10 0 (by omega), mset_ne (by omega), a9 10 0 (by omega)], by rw [c4 385 1 0 (by omega)]; exact a3, by rw [c5 46 0 (by omega), mset_ne (by omega)]; exact a4, by rw [z2]; exact a5, ?_, fun j j0 j1 => by rw [z]; exact a7 j j0 j1, fun r k j hne => by rw [c4 r k j (by omega), a8 r k j (by omega)], fun r j hne => by rw [c5 r j (by omega), mset_ne (by omega), a9 r j (by omega)]⟩
      rw [c5 49 0 (by omega), mset_eq, z]
      exact a6
  · rw [if_neg u, if_neg u, if_neg (show ¬ ¬ (0 : Int) = 0 by decide)]
    obtain ⟨h', m', c1, c2, c3, c4, c5⟩ := L31 (k := 1) hT (Or.inl rfl)
    rw [c1, c2, Option.bind_some, Option.bind_some, Option.bind_some, zG_t (Or.inl rfl), Option.bind_some]
    dsimp only
    rw [if_neg (show ¬ ¬ (-1 : Int) = -1 by decide)]
    exact Or.inr ⟨h', m', rfl, rfl, c3, fun r n j hne => c4 r n j (by omega), fun r j hne => c5 r j (by omega)⟩
theorem S_leafC2 {kR : zHM → Option (Int × zHM)} {h : zHC} {m : zHM} {n : Nat} {w : Int} (hT : TR h m) (k5 : h 324 0 0 = 5) (x0 : 60 ≤ h 326 0 0) (x1 : h 326 0 0 ≤ 62) (e : h 385 1 0 = (n : Int)) (eN : m 46 0 = (n : Int)) (n1 : n < 40) (w0 : 17 ≤ w) (w1 : w ≤ 20) : zSL kR h m n (F154_2 w h) ((F288_0 w m).bind fun r3 => F283_4 kR r3.1 r3.2) := by
  have es : m 9 0 = h 326 0 0 := by
    obtain ⟨-, hk2, -, -⟩ := hT
    rcases hk2 with ⟨a, b, c⟩ | ⟨a, b, c⟩ | ⟨a, c⟩ | ⟨a, c, -⟩ | ⟨a, c, -⟩ | ⟨a, c, -⟩ | ⟨a, c, d⟩
    · omega
    · omega
    · omega
    · omega
    · omega
    · omega
    · exact d.symm
  unfold F154_2 F288_0 F186
  obtain ⟨h1, m1, a1, a2, a3, a4, a5⟩ := L21h (h2 := h) (m2 := m) hT (by omega) (fun _ _ _ _ => rfl) (fun _ _ _ => rfl)
  rw [a1, a2, Option.bind_some, Option.bind_some]
  by_cases q : h1 324 0 0 = 4
  · have nn : m1 7 0 = 3 ∧ h1 326 0 0 = m1 8 0 ∧ 0 ≤ m1 8 0 ∧ m1 8 0 ≤ 999 := by
      obtain ⟨-, hk2, -, -⟩ := a3
      rcases hk2 with ⟨a, b, c⟩ | ⟨a, b, c⟩ | ⟨a, c⟩ | ⟨a, c, -⟩ | ⟨a, c, -⟩ | ⟨a, c, d⟩ | ⟨a, c, -⟩
      · omega
      · omega
      · omega
      · omega
      · omega
      · exact ⟨c, d⟩
      · omega
    have e187 : F187 0 999 m1 = some (1, mset m1 13 0 (m1 8 0)) := by
      unfold F187
      rw [if_pos nn.1, F188, if_neg (by omega), if_neg (by omega), Option.bind_some, if_pos (by decide)]
    rw [if_pos q, e187, Option.bind_some, if_pos (show ¬ (1 : Int) = 0 by decide)]
    dsimp only
    obtain ⟨h2, b1, b2, b3, b4⟩ := E153 (h := h1) (v1 := w) (v2 := h 326 0 0) (v3 := h1 326 0 0) (n := n) (by rw [a4 385 1 0 (by omega)]; exact e) n1
    obtain ⟨h3, m3, c1, c2, c3, c4, c5⟩ := L21h (h2 := h2) (m2 := mset m1 13 0 (m1 8 0)) a3 (by omega) (fun r j _ _ => b4 r 0 j (by omega)) (fun r j g => mset_ne (by omega))
    have e13 : m3 13 0 = h1 326 0 0 := by rw [c5 13 0 (by omega), mset_eq]; exact nn.2.1.symm
    have eN3 : m3 46 0 = (n : Int) := by rw [c5 46 0 (by omega), mset_ne (by omega), a5 46 0 (by omega)]; exact eN
    obtain ⟨m4, d1, d2, d3, d4, d5, d6, d7, d8⟩ := E286 (m := m3) (v1 := 50 + w) (v2 := 0) (v3 := h1 326 0 0) (v4 := h 326 0 0) eN3 (by omega)
    rw [b1, Option.bind_some, c1, Option.bind_some, c2, Option.bind_some, Option.bind_some, if_pos (show ¬ (1 : Int) = 0 by decide)]
    dsimp only
    rw [e13, es, wadd_eq (x := 50) (by omega) (by omega), d1, Option.bind_some, Option.bind_some]
    have z : (mset m4 49 0 (n : Int)) 45 = m4 45 := by funext j; exact mset_ne (by omega)
    have z2 : h3 386 1 = h2 386 1 := by funext j; exact c4 386 1 j (by omega)
    have z3 : h1 386 1 = h 386 1 := by funext j; exact a4 386 1 j (by omega)
    refine Or.inl ⟨h3, mset m4 49 0 (n : Int), [(w, h 326 0 0, h1 326 0 0)], rfl, rfl, TR_keep c3 (fun _ _ _ _ => rfl) (fun r j g => by rw [mset_ne (by omega), d8 r j (by omega)]), by rw [c4 322 0 0 (by omega), b4 322 0 0 (by omega), a4 322 0 0 (by omega)], by rw [mset_ne (by omega), d8 10 0 (by omega), c5 10 0 (by omega), mset_ne (by omega), a5 10 0 (by omega)], by rw [c4 385 1 0 (by omega)]; exact b2, by rw [mset_ne (by omega)]; exact d2, by rw [z2, b3, z3], ?_, fun j j0 j1 => ?_, fun r k j hne => by rw [c4 r k j (by omega), b4 r k j (by omega), a4 r k j (by omega)], fun r j hne => by rw [mset_ne (by omega), d8 r j (by omega), c5 r j (by omega), mset_ne (by omega), a5 r j (by omega)]⟩
    · rw [mset_eq, z]
      exact zPT_leaf (by omega) (by omega) w1 d3 d6 (by rw [d4, d5]; omega) (fun z => by omega) (fun _ => ⟨d4, x0, x1⟩)
    · rw [z, d7 j j0 j1, c5 45 j (by omega), mset_ne (by omega), a5 45 j (by omega)]
  · have nq : ¬ m1 7 0 = 3 := fun z => q ((TR_kind a3).2.1.mpr z)
    have e187 : F187 0 999 m1 = (F185 1 m1).bind fun r1 => zG (r1.1 = 0 ∨ r1.1 = 1) (some (r1.1, r1.2)) := by
      unfold F187
      rw [if_neg nq]
    obtain ⟨h', m', g1, g2, g3, g4, g5⟩ := L31 (k := 1) a3 (Or.inl rfl)
    rw [if_neg q, e187, g1, g2, Option.bind_some, Option.bind_some, zG_t (Or.inl rfl), zG_t (Or.inl rfl), Option.bind_some, if_neg (show ¬ ¬ (0 : Int) = 0 by decide), Option.bind_some, if_neg (show ¬ ¬ (0 : Int) = 0 by decide), Option.bind_some]
    exact Or.inr ⟨h', m', rfl, rfl, g3, fun r n j hne => by rw [g4 r n j (by omega), a4 r n j (by omega)], fun r j hne => by rw [g5 r j (by omega), a5 r j (by omega)]⟩
theorem S_leaf {kR : zHM → Option (Int × zHM)} {h : zHC} {m : zHM} {n : Nat} {w : Int} (hT : TR h m) (hV : RVC h m) (e : h 385 1 0 = (n : Int)) (eN : m 46 0 = (n : Int)) (n1 : n < 40) (w0 : 13 ≤ w) (w1 : w ≤ 20) : zSL kR h m n (zXl w h) (zYl kR w m) := by
  unfold zXl zYl
  by_cases q13 : w = 13
  · rw [if_pos q13, if_neg (show ¬ 15 ≤ w by omega)]
    exact S_leafA hT e eN n1 w0 (by omega)
  rw [if_neg q13]
  by_cases q14 : w = 14
  · rw [if_neg (show ¬ ¬ w = 14 from fun z => z q14), if_neg (show ¬ 15 ≤ w by omega)]
    exact S_leafA hT e eN n1 w0 (by omega)
  rw [if_pos q14, if_pos (show 15 ≤ w by omega)]
  by_cases q15 : w = 15
  · rw [if_pos q15, if_neg (show ¬ 17 ≤ w by omega)]
    exact S_leafB hT hV e eN n1 (by omega) (by omega)
  rw [if_neg q15]
  by_cases q16 : w = 16
  · rw [if_neg (show ¬ ¬ w = 16 from fun z => z q16), if_neg (show ¬ 17 ≤ w by omega)]
    exact S_leafB hT hV e eN n1 (by omega) (by omega)
  rw [if_pos q16, if_pos (show 17 ≤ w by omega)]
  unfold F288
  rw [E51, E51, E51, E202 hT, E202 hT, E202 hT]
  simp only [Option.bind_some]
  by_cases g60 : h 324 0 0 = 5 ∧ h 326 0 0 = 60
  · rw [if_pos g60, if_pos (show ¬ (1 : Int) = 0 by decide), if_pos (show ¬ (1 : Int) = 0 by decide)]
    exact S_leafC2 hT g60.1 (by omega) (by omega) e eN n1 (by omega) w1
  rw [if_neg g60, if_neg (show ¬ ¬ (0 : Int) = 0 by decide), if_neg (show ¬ ¬ (0 : Int) = 0 by decide)]
  by_cases g61 : h 324 0 0 = 5 ∧ h 326 0 0 = 61
  · rw [if_pos g61, if_pos (show ¬ (1 : Int) = 0 by decide), if_pos (show ¬ (1 : Int) = 0 by decide)]
    exact S_leafC2 hT g61.1 (by omega) (by omega) e eN n1 (by omega) w1
  rw [if_neg g61, if_neg (show ¬ ¬ (0 : Int) = 0 by decide), if_neg (show ¬ ¬ (0 : Int) = 0 by decide)]
  by_cases g62 : h 324 0 0 = 5 ∧ h 326 0 0 = 62
  · rw [if_pos g62, if_pos (show ¬ (1 : Int) = 0 by decide), if_pos (show ¬ (1 : Int) = 0 by decide)]
    exact S_leafC2 hT g62.1 (by omega) (by omega) e eN n1 (by omega) w1
  rw [if_neg g62, if_neg (show ¬ ¬ (0 : Int) = 0 by decide), if_neg (show ¬ ¬ (0 : Int) = 0 by decide)]
  exact S_lfail hT (Or.inl rfl) (fun _ _ _ _ => rfl) (fun _ _ _ => rfl)
end
section
/-! A sentence's text: joined ones. -/
theorem z45 {m : zHM} {x : Int} {r : Nat} (hr : ¬ r = 45) : (mset m r 0 x) 45 = m 45 := by
  funext j
  exact mset_ne (by omega)
theorem S_andLoop {kc : Int → Int → zHC → Option (Int × zHC)} {km : zHM → Option (Int × zHM)} {d : Int} (hK : ∀ h m n, zSI h m n d → zSO h m n d (kc 0 d h) (km m)) : ∀ (N N' : Nat) (i a : Int) (h : zHC) (m : zHM) (n : Nat) (C P : List (Int × Int × Int)), zSI h m n d → (n : Int) + 1 ≤ 2 * m 47 0 → zCl (h 386 1) n = C ++ P → zPT P (m 45) n a → 0 ≤ i → i ≤ m 47 0 → 21 - m 47 0 < N → 21 - m 47 0 < N' → (∃ h' m' n' P', F150b_0 kc N 0 d i h = some (1, h') ∧ F282b_0 km N' a m = some (1, m') ∧ zSI h' m' n' d ∧ zCl (h' 386 1) n' = C ++ P' ∧ zPT P' (m' 45) n' (m' 49 0) ∧ (∀ j, 0 ≤ j → j < 4 * (n : Int) → m' 45 j = m 45 j) ∧ n ≤ n' ∧ m 47 0 ≤ m' 47 0 ∧ 2 * m 47 0 + (n' : Int) ≤ 2 * m' 47 0 + (n : Int) ∧ sfC h h' ∧ sfM m m') ∨ (∃ h' m', F150b_0 kc N 0 d i h = some (0, h') ∧ F282b_0 km N' a m = some (0, m') ∧ FT h' m' ∧ sfC h h' ∧ sfM m m') := by
  intro N
  induction N with
  | zero => intro N' i a h m n C P hI; have := hI.2.2.2.2.2.2.1; omega
  | succ N ih =>
    intro N' i a h m n C P hI hs hC hP i0 i1 g1 g2
    cases N' with
    | zero => have := hI.2.2.2.2.2.2.1; omega
    | succ N' =>
      obtain ⟨hT, hf, e385, e46, e384, o0, o1, e48, sl, hV⟩ := id hI
      rw [F150b_0, F282b_0, if_neg (show ¬ 940 ≤ i by omega), E152, E181 hT (by decide) (by decide), Option.bind_some, Option.bind_some]
      by_cases q : h 324 0 0 = 3 ∧ h 326 0 0 = 11
      · rw [if_pos q, if_neg (show ¬ (1 : Int) = 0 by decide), if_neg (show ¬ (1 : Int) = 0 by decide)]
        obtain ⟨h1, m1, a1, a2, a3, a4, a5⟩ := L21h (h2 := h) (m2 := m) hT (by omega) (fun _ _ _ _ => rfl) (fun _ _ _ => rfl)
        rw [a1, a2, Option.bind_some, Option.bind_some]
        have k1 : sfC h h1 := fun r n j hne => a4 r n j (by omega)
        have k2 : sfM m m1 := fun r j hne => a5 r j (by omega)
        have z47 : m1 47 0 = m 47 0 := a5 47 0 (by omega)
        have I1 : zSI h1 m1 n d := ⟨a3, by rw [a4 322 0 0 (by omega), a5 10 0 (by omega)]; exact hf, by rw [a4 385 1 0 (by omega)]; exact e385, by rw [a5 46 0 (by omega)]; exact e46, by rw [a4 384 1 0 (by omega), z47]; exact e384, by omega, by omega, by rw [a5 48 0 (by omega)]; exact e48, by omega, RVC_s k1 k2 hV⟩
        have z386 : h1 386 1 = h 386 1 := by funext j; exact a4 386 1 j (by omega)
        have z451 : m1 45 = m 45 := by funext j; exact a5 45 j (by omega)
        rcases hK h1 m1 n I1 with ⟨h2, m2, n2, Q, b1, b2, b3, b4, b5, b6, b7, b8, b9, b10, b11⟩ | ⟨h2, m2, b1, b2, b3, b4, b5⟩
        · rw [b1, b2, Option.bind_some, Option.bind_some, if_pos (show ¬ (1 : Int) = 0 by decide), if_pos (show ¬ (1 : Int) = 0 by decide)]
          dsimp only
          obtain ⟨iT, jf, i385, i46, i384, p0, p1, i48, isl, iV⟩ := id b3
          have hP2 : zPT P (m2 45) n2 a := zPT_keep hP b7 (fun j j0 j1 => by rw [b6 j j0 j1, z451])
          obtain ⟨h3, m3, c1, c2, c3, c4, c5, c6, c7, c8, c9⟩ := L_and (h := h2) (m := m2) (C := C) (P := P) (Q := Q) i385 (by omega) i46 (by omega) (by rw [b4, z386, hC]) hP2 b5
          rw [c1, c2, Option.bind_some, Option.bind_some, wadd_eq (x := i) (by omega) (by omega)]
          dsimp only
          have k3 : sfC h h3 := fun r n j hne => by rw [c8 r n j (by omega), b10 r n j hne, k1 r n j hne]
          have k4 : sfM m m3 := fun r j hne => by rw [c9 r j (by omega), b11 r j hne, k2 r j hne]
          have z473 : m3 47 0 = m2 47 0 := c9 47 0 (by omega)
          have I3 : zSI h3 m3 (n2 + 1) d := ⟨TR_keep iT (fun r j _ _ => c8 r 0 j (by omega)) (fun r j g => c9 r j (by omega)), by rw [c8 322 0 0 (by omega), c9 10 0 (by omega)]; exact jf, c3, c4, by rw [c8 384 1 0 (by omega), z473]; exact i384, by omega, by omega, by rw [c9 48 0 (by omega)]; exact i48, by omega, RVC_s k3 k4 hV⟩
          rcases ih N' (i + 1) (n2 : Int) h3 m3 (n2 + 1) C _ I3 (by omega) c5 c6 (by omega) (by omega) (by omega) (by omega) with ⟨h4, m4, n4, R, d1, d2, d3, d4, d5, d6, d7, d8, d9, d10, d11⟩ | ⟨h4, m4, d1, d2, d3, d4, d5⟩
          · refine Or.inl ⟨h4, m4, n4, R, d1, d2, d3, d4, d5, fun j j0 j1 => ?_, by omega, by omega, by omega, sfC_trans k3 d10, sfM_trans k4 d11⟩
            rw [d6 j j0 (by omega), c7 j j0 (by omega), b6 j j0 j1, z451]
          · exact Or.inr ⟨h4, m4, d1, d2, d3, sfC_trans k3 d4, sfM_trans k4 d5⟩
        · rw [b1, b2, Option.bind_some, Option.bind_some, if_neg (show ¬ ¬ (0 : Int) = 0 by decide), if_neg (show ¬ ¬ (0 : Int) = 0 by decide)]
          exact Or.inr ⟨h2, m2, rfl, rfl, b3, sfC_trans k1 b4, sfM_trans k2 b5⟩
      · rw [if_neg q, if_pos rfl, if_pos rfl]
        have k2 : sfM m (mset m 49 0 a) := fun r j hne => mset_ne (by omega)
        refine Or.inl ⟨h, mset m 49 0 a, n, P, rfl, rfl, ⟨TR_keep hT (fun _ _ _ _ => rfl) (fun r j g => mset_ne (by omega)), by rw [mset_ne (by omega)]; exact hf, e385, by rw [mset_ne (by omega)]; exact e46, by rw [mset_ne (by omega)]; exact e384, by rw [mset_ne (by omega)]; exact o0, by rw [mset_ne (by omega)]; exact o1, by rw [mset_ne (by omega)]; exact e48, by rw [mset_ne (by omega)]; exact sl, RVC_s sfC_refl k2 hV⟩, hC, ?_, fun j j0 j1 => mset_ne (by omega), Nat.le_refl _, by rw [mset_ne (by omega)]; exact Int.le_refl _, by rw [mset_ne (by omega)]; exact Int.le_refl _, sfC_refl, k2⟩
        rw [mset_eq, z45 (by decide)]
        exact hP
theorem S_and {kc : Int → Int → zHC → Option (Int × zHC)} {km : zHM → Option (Int × zHM)} {d : Int} (hK : ∀ h m n, zSI h m n d → zSO h m n d (kc 0 d h) (km m)) {h : zHC} {m : zHM} {n : Nat} (hI : zSI h m n d) : zSO h m n d (F150b kc 0 d h) (F282b km m) := by
  have big := zFu_big
  unfold F150b F282b
  rcases hK h m n hI with ⟨h2, m2, n2, Q, b1, b2, b3, b4, b5, b6, b7, b8, b9, b10, b11⟩ | ⟨h2, m2, b1, b2, b3, b4, b5⟩
  · rw [b1, b2, Option.bind_some, Option.bind_some, if_pos (show ¬ (1 : Int) = 0 by decide), if_pos (show ¬ (1 : Int) = 0 by decide)]
    dsimp only
    have p0 := b3.2.2.2.2.2.1
    have p1 := b3.2.2.2.2.2.2.1
    have s0 := hI.2.2.2.2.2.2.2.2.1
    rcases S_andLoop hK zFu zFu 0 (m2 49 0) h2 m2 n2 (zCl (h 386 1) n) Q b3 (by omega) b4 b5 (by decide) p0 (by omega) (by omega) with ⟨h4, m4, n4, R, d1, d2, d3, d4, d5, d6, d7, d8, d9, d10, d11⟩ | ⟨h4, m4, d1, d2, d3, d4, d5⟩
    · exact Or.inl ⟨h4, m4, n4, R, d1, d2, d3, d4, d5, fun j j0 j1 => by rw [d6 j j0 (by omega), b6 j j0 j1], by omega, by omega, by omega, sfC_trans b10 d10, sfM_trans b11 d11⟩
    · exact Or.inr ⟨h4, m4, d1, d2, d3, sfC_trans b10 d4, sfM_trans b11 d5⟩
  · rw [b1, b2, Option.bind_some, Option.bind_some, if_neg (show ¬ ¬ (0 : Int) = 0 by decide), if_neg (show ¬ ¬ (0 : Int) = 0 by decide)]
    exact Or.inr ⟨h2, m2, rfl, rfl, b3, b4, b5⟩
theorem S_orLoop {kc : Int → Int → zHC → Option (Int × zHC)} {km : zHM → Option (Int × zHM)} {d : Int} (hK : ∀ h m n, zSI h m n d → zSO h m n d (F150b kc 0 d h) (F282b km m)) : ∀ (N N' : Nat) (i a : Int) (h : zHC) (m : zHM) (n : Nat) (C P : List (Int × Int × Int)), zSI h m n d → (n : Int) + 1 ≤ 2 * m 47 0 → zCl (h 386 1) n = C ++ P → zPT P (m 45) n a → 0 ≤ i → i ≤ m 47 0 → 21 - m 47 0 < N → 21 - m 47 0 < N' → (∃ h' m' n' P', F149b_0 kc N 0 d i h = some (1, h') ∧ F281b_0 km N' a m = some (1, m') ∧ zSI h' m' n' d ∧ zCl (h' 386 1) n' = C ++ P' ∧ zPT P' (m' 45) n' (m' 49 0) ∧ (∀ j, 0 ≤ j → j < 4 * (n : Int) → m' 45 j = m 45 j) ∧ n ≤ n' ∧ m 47 0 ≤ m' 47 0 ∧ 2 * m 47 0 + (n' : Int) ≤ 2 * m' 47 0 + (n : Int) ∧ sfC h h' ∧ sfM m m') ∨ (∃ h' m', F149b_0 kc N 0 d i h = some (0, h') ∧ F281b_0 km N' a m = some (0, m') ∧ FT h' m' ∧ sfC h h' ∧ sfM m m') := by
  intro N
  induction N with
  | zero => intro N' i a h m n C P hI; have := hI.2.2.2.2.2.2.1; omega
  | succ N ih =>
    intro N' i a h m n C P hI hs hC hP i0 i1 g1 g2
    cases N' with
    | zero => have := hI.2.2.2.2.2.2.1; omega
    | succ N' =>
      obtain ⟨hT, hf, e385, e46, e384, o0, o1, e48, sl, hV⟩ := id hI
      rw [F149b_0, F281b_0, if_neg (show ¬ 940 ≤ i by omega), E152, E181 hT (by decide) (by decide), Option.bind_some, Option.bind_some]
      by_cases q : h 324 0 0 = 3 ∧ h 326 0 0 = 10
      · rw [if_pos q, if_neg (show ¬ (1 : Int) = 0 by decide), if_neg (show ¬ (1 : Int) = 0 by decide)]
        obtain ⟨h1, m1, a1, a2, a3, a4, a5⟩ := L21h (h2 := h) (m2 := m) hT (by omega) (fun _ _ _ _ => rfl) (fun _ _ _ => rfl)
        rw [a1, a2, Option.bind_some, Option.bind_some]
        have k1 : sfC h h1 := fun r n j hne => a4 r n j (by omega)
        have k2 : sfM m m1 := fun r j hne => a5 r j (by omega)
        have z47 : m1 47 0 = m 47 0 := a5 47 0 (by omega)
        have I1 : zSI h1 m1 n d := ⟨a3, by rw [a4 322 0 0 (by omega), a5 10 0 (by omega)]; exact hf, by rw [a4 385 1 0 (by omega)]; exact e385, by rw [a5 46 0 (by omega)]; exact e46, by rw [a4 384 1 0 (by omega), z47]; exact e384, by omega, by omega, by rw [a5 48 0 (by omega)]; exact e48, by omega, RVC_s k1 k2 hV⟩
        have z386 : h1 386 1 = h 386 1 := by funext j; exact a4 386 1 j (by omega)
        have z451 : m1 45 = m 45 := by funext j; exact a5 45 j (by omega)
        rcases hK h1 m1 n I1 with ⟨h2, m2, n2, Q, b1, b2, b3, b4, b5, b6, b7, b8, b9, b10, b11⟩ | ⟨h2, m2, b1, b2, b3, b4, b5⟩
        · rw [b1, b2, Option.bind_some, Option.bind_some, if_pos (show ¬ (1 : Int) = 0 by decide), if_pos (show ¬ (1 : Int) = 0 by decide)]
          dsimp only
          obtain ⟨iT, jf, i385, i46, i384, p0, p1, i48, isl, iV⟩ := id b3
          have hP2 : zPT P (m2 45) n2 a := zPT_keep hP b7 (fun j j0 j1 => by rw [b6 j j0 j1, z451])
          obtain ⟨h3, m3, c1, c2, c3, c4, c5, c6, c7, c8, c9⟩ := L_or (h := h2) (m := m2) (C := C) (P := P) (Q := Q) i385 (by omega) i46 (by omega) (by rw [b4, z386, hC]) hP2 b5
          rw [c1, c2, Option.bind_some, Option.bind_some, wadd_eq (x := i) (by omega) (by omega)]
          dsimp only
          have k3 : sfC h h3 := fun r n j hne => by rw [c8 r n j (by omega), b10 r n j hne, k1 r n j hne]
          have k4 : sfM m m3 := fun r j hne => by rw [c9 r j (by omega), b11 r j hne, k2 r j hne]
          have z473 : m3 47 0 = m2 47 0 := c9 47 0 (by omega)
          have I3 : zSI h3 m3 (n2 + 1) d := ⟨TR_keep iT (fun r j _ _ => c8 r 0 j (by omega)) (fun r j g => c9 r j (by omega)), by rw [c8 322 0 0 (by omega), c9 10 0 (by omega)]; exact jf, c3, c4, by rw [c8 384 1 0 (by omega), z473]; exact i384, by omega, by omega, by rw [c9 48 0 (by omega)]; exact i48, by omega, RVC_s k3 k4 hV⟩
          rcases ih N' (i + 1) (n2 : Int) h3 m3 (n2 + 1) C _ I3 (by omega) c5 c6 (by omega) (by omega) (by omega) (by omega) with ⟨h4, m4, n4, R, d1, d2, d3, d4, d5, d6, d7, d8, d9, d10, d11⟩ | ⟨h4, m4, d1, d2, d3, d4, d5⟩
          · refine Or.inl ⟨h4, m4, n4, R, d1, d2, d3, d4, d5, fun j j0 j1 => ?_, by omega, by omega, by omega, sfC_trans k3 d10, sfM_trans k4 d11⟩
            rw [d6 j j0 (by omega), c7 j j0 (by omega), b6 j j0 j1, z451]
          · exact Or.inr ⟨h4, m4, d1, d2, d3, sfC_trans k3 d4, sfM_trans k4 d5⟩
        · rw [b1, b2, Option.bind_some, Option.bind_some, if_neg (show ¬ ¬ (0 : Int) = 0 by decide), if_neg (show ¬ ¬ (0 : Int) = 0 by decide)]
          exact Or.inr ⟨h2, m2, rfl, rfl, b3, sfC_trans k1 b4, sfM_trans k2 b5⟩
      · rw [if_neg q, if_pos rfl, if_pos rfl]
        have k2 : sfM m (mset m 49 0 a) := fun r j hne => mset_ne (by omega)
        refine Or.inl ⟨h, mset m 49 0 a, n, P, rfl, rfl, ⟨TR_keep hT (fun _ _ _ _ => rfl) (fun r j g => mset_ne (by omega)), by rw [mset_ne (by omega)]; exact hf, e385, by rw [mset_ne (by omega)]; exact e46, by rw [mset_ne (by omega)]; exact e384, by rw [mset_ne (by omega)]; exact o0, by rw [mset_ne (by omega)]; exact o1, by rw [mset_ne (by omega)]; exact e48, by rw [mset_ne (by omega)]; exact sl, RVC_s sfC_refl k2 hV⟩, hC, ?_, fun j j0 j1 => mset_ne (by omega), Nat.le_refl _, by rw [mset_ne (by omega)]; exact Int.le_refl _, by rw [mset_ne (by omega)]; exact Int.le_refl _, sfC_refl, k2⟩
        rw [mset_eq, z45 (by decide)]
        exact hP
theorem S_or {kc : Int → Int → zHC → Option (Int × zHC)} {km : zHM → Option (Int × zHM)} {d : Int} (hK : ∀ h m n, zSI h m n d → zSO h m n d (F150b kc 0 d h) (F282b km m)) {h : zHC} {m : zHM} {n : Nat} (hI : zSI h m n d) : zSO h m n d (F149b kc 0 d h) (F281b km m) := by
  have big := zFu_big
  unfold F149b F281b
  rcases hK h m n hI with ⟨h2, m2, n2, Q, b1, b2, b3, b4, b5, b6, b7, b8, b9, b10, b11⟩ | ⟨h2, m2, b1, b2, b3, b4, b5⟩
  · rw [b1, b2, Option.bind_some, Option.bind_some, if_pos (show ¬ (1 : Int) = 0 by decide), if_pos (show ¬ (1 : Int) = 0 by decide)]
    dsimp only
    have p0 := b3.2.2.2.2.2.1
    have p1 := b3.2.2.2.2.2.2.1
    have s0 := hI.2.2.2.2.2.2.2.2.1
    rcases S_orLoop hK zFu zFu 0 (m2 49 0) h2 m2 n2 (zCl (h 386 1) n) Q b3 (by omega) b4 b5 (by decide) p0 (by omega) (by omega) with ⟨h4, m4, n4, R, d1, d2, d3, d4, d5, d6, d7, d8, d9, d10, d11⟩ | ⟨h4, m4, d1, d2, d3, d4, d5⟩
    · exact Or.inl ⟨h4, m4, n4, R, d1, d2, d3, d4, d5, fun j j0 j1 => by rw [d6 j j0 (by omega), b6 j j0 j1], by omega, by omega, by omega, sfC_trans b10 d10, sfM_trans b11 d11⟩
    · exact Or.inr ⟨h4, m4, d1, d2, d3, sfC_trans b10 d4, sfM_trans b11 d5⟩
  · rw [b1, b2, Option.bind_some, Option.bind_some, if_neg (show ¬ ¬ (0 : Int) = 0 by decide), if_neg (show ¬ ¬ (0 : Int) = 0 by decide)]
    exact Or.inr ⟨h2, m2, rfl, rfl, b3, b4, b5⟩
end
section
/-! A sentence's text: one, and the whole. -/
theorem S_mid {k : Nat} {d o w : Int} (d0 : 1 ≤ d) (d1 : d ≤ 9) (hK : d ≤ 8 → ∀ h m n, zSI h m n (d + 1) → zSO h m n (d + 1) (F151r k 0 (d + 1) h) (F283r k m)) {h : zHC} {m : zHM} {n : Nat} (hI : zSI h m n d) (ho : (o = 1 ∧ h 324 0 0 = 5 ∧ h 326 0 0 = 40) ∨ (o = 0 ∧ h 324 0 0 = 3 ∧ h 326 0 0 = w ∧ 12 ≤ w ∧ w ≤ 20)) : zSO h m n d (F151_0 (F151r k) 0 d h) (F283_2 (F283r k) o w m) := by
  obtain ⟨hT, hf, e385, e46, e384, o0, o1, e48, sl, hV⟩ := id hI
  have n7 : ¬ m 7 0 = 1 := TR_at hT (by omega) (by omega)
  unfold F151_0 F283_2
  rw [e384]
  by_cases q20 : m 47 0 = 20
  · rw [if_pos (show 20 ≤ m 47 0 by omega), if_pos q20]
    exact S_fail hT (Or.inr n7)
  rw [if_neg (show ¬ 20 ≤ m 47 0 by omega), if_neg q20]
  by_cases q9 : ¬ d ≤ 8
  · rw [if_neg q9, if_neg (show ¬ ¬ m 48 0 = 8 by omega)]
    exact S_fail hT (Or.inr n7)
  have q8 : d ≤ 8 := by omega
  have hK' := hK q8
  rw [if_pos q8, if_pos (show ¬ m 48 0 = 8 by omega), wadd_eq (x := m 47 0) (by omega) (by omega), wadd_eq (x := m 48 0) (by omega) (by omega), wadd_eq (x := d) (by omega) (by omega)]
  obtain ⟨H, eH⟩ : ∃ H, hset h 384 1 0 (m 47 0 + 1) = H := ⟨_, rfl⟩
  rw [eH]
  have HC : ∀ r n j, ¬ (r = 384 ∧ n = 1 ∧ j = 0) → H r n j = h r n j := fun r n j hne => by rw [← eH, hset_ne hne]
  have H384 : H 384 1 0 = m 47 0 + 1 := by rw [← eH, hset_eq]
  have TH : TR H m := TR_keep hT (fun r j _ _ => HC r 0 j (by omega)) (fun _ _ _ => rfl)
  obtain ⟨h1, m1, a1, a2, a3, a4, a5⟩ := L21h (h2 := H) (m2 := mset (mset m 47 0 (m 47 0 + 1)) 48 0 (m 48 0 + 1)) hT (by omega) (fun r j _ _ => HC r 0 j (by omega)) (fun r j g => by rw [mset_ne (by omega), mset_ne (by omega)])
  rw [a2, Option.bind_some, E51, E152, HC 324 0 0 (by omega), HC 326 0 0 (by omega), Option.bind_some, Option.bind_some]
  have k1 : sfC h h1 := fun r n j hne => by rw [a4 r n j (by omega), HC r n j (by omega)]
  have k2 : sfM m m1 := fun r j hne => by rw [a5 r j (by omega), mset_ne (by omega), mset_ne (by omega)]
  have z47 : m1 47 0 = m 47 0 + 1 := by rw [a5 47 0 (by omega), mset_ne (by omega), mset_eq]
  have z48 : m1 48 0 = d := by rw [a5 48 0 (by omega), mset_eq]; omega
  have z46 : m1 46 0 = (n : Int) := by rw [a5 46 0 (by omega), mset_ne (by omega), mset_ne (by omega)]; exact e46
  have y385 : h1 385 1 0 = (n : Int) := by rw [a4 385 1 0 (by omega), HC 385 1 0 (by omega)]; exact e385
  have y384 : h1 384 1 0 = m1 47 0 := by rw [a4 384 1 0 (by omega), z47]; exact H384
  have y322 : h1 322 0 0 = m1 10 0 := by rw [a4 322 0 0 (by omega), HC 322 0 0 (by omega), a5 10 0 (by omega), mset_ne (by omega), mset_ne (by omega)]; exact hf
  have z386 : h1 386 1 = h 386 1 := by funext j; rw [a4 386 1 j (by omega), HC 386 1 j (by omega)]
  have z451 : m1 45 = m 45 := by funext j; rw [a5 45 j (by omega), mset_ne (by omega), mset_ne (by omega)]
  have V1 : RVC h1 m1 := RVC_s k1 k2 hV
  have I1 : zSI h1 m1 n (d + 1) := ⟨a3, y322, y385, z46, y384, by omega, by omega, by omega, by omega, V1⟩
  have fin0 : ∀ (h2 : zHC) (m2 : zHM), FT h2 m2 → sfC h1 h2 → sfM m1 m2 → zSO h m n d (some (0, h2)) (F283_5 (F283r k) 0 m2) := by
    intro h2 m2 t f1 f2
    unfold F283_5
    rw [zG_t (Or.inl rfl)]
    refine Or.inr ⟨h2, _, rfl, rfl, ?_, sfC_trans k1 f1, fun r j hne => by rw [mset_ne (by omega), f2 r j hne, k2 r j hne]⟩
    unfold FT
    rw [mset_ne (by omega), mset_ne (by omega)]
    exact t
  have fin1 : ∀ (h2 : zHC) (m2 : zHM) (n2 : Nat) (P : List (Int × Int × Int)), zSI h2 m2 n2 (d + 1) → zCl (h2 386 1) n2 = zCl (h1 386 1) n ++ P → zPT P (m2 45) n2 (m2 49 0) → (∀ j, 0 ≤ j → j < 4 * (n : Int) → m2 45 j = m1 45 j) → n ≤ n2 → m1 47 0 ≤ m2 47 0 → 2 * m 47 0 + (n2 : Int) + 1 ≤ 2 * m2 47 0 + (n : Int) → sfC h1 h2 → sfM m1 m2 → zSO h m n d (some (1, h2)) (F283_5 (F283r k) 1 m2) := by
    intro h2 m2 n2 P J c p f nn oo ss f1 f2
    obtain ⟨iT, jf, i385, i46, i384, p0, p1, i48, isl, iV⟩ := id J
    unfold F283_5
    rw [zG_t (Or.inr rfl), wsub_eq (x := m2 48 0) (by omega) (by omega)]
    have g2 : sfM m (mset m2 48 0 (m2 48 0 - 1)) := fun r j hne => by rw [mset_ne (by omega), f2 r j hne, k2 r j hne]
    refine Or.inl ⟨h2, _, n2, P, rfl, rfl, ⟨TR_keep iT (fun _ _ _ _ => rfl) (fun r j g => mset_ne (by omega)), by rw [mset_ne (by omega)]; exact jf, i385, by rw [mset_ne (by omega)]; exact i46, by rw [mset_ne (by omega)]; exact i384, by rw [mset_ne (by omega)]; exact p0, by rw [mset_ne (by omega)]; exact p1, by rw [mset_eq]; omega, by rw [mset_ne (by omega)]; exact isl, RVC_s (sfC_trans k1 f1) g2 hV⟩, by rw [c, z386], ?_, fun j j0 j1 => by rw [mset_ne (by omega), f j j0 j1, z451], nn, by rw [mset_ne (by omega)]; omega, by rw [mset_ne (by omega)]; exact ss, sfC_trans k1 f1, g2⟩
    rw [z45 (by decide), mset_ne (by omega)]
    exact p
  rcases ho with ⟨w1, w2, w3⟩ | ⟨w1, w2, w3, w4, w5⟩
  · rw [if_pos (show h 324 0 0 = 5 ∧ h 326 0 0 = 40 from ⟨w2, w3⟩), if_neg (show ¬ (1 : Int) = 0 by decide), if_neg (show ¬ o = 0 by omega), a1, Option.bind_some]
    unfold F284
    rcases S_or (fun h m n J => S_and hK' J) I1 with ⟨h2, m2, n2, P, b1, b2, b3, b4, b5, b6, b7, b8, b9, b10, b11⟩ | ⟨h2, m2, b1, b2, b3, b4, b5⟩
    · rw [b1, b2, Option.bind_some, Option.bind_some, if_neg (show ¬ (1 : Int) = 0 by decide), if_pos (show ¬ (1 : Int) = 0 by decide)]
      dsimp only
      obtain ⟨iT, jf, i385, i46, i384, p0, p1, i48, isl, iV⟩ := id b3
      unfold F50
      rw [E51, E202 iT, Option.bind_some, Option.bind_some]
      by_cases sg : h2 324 0 0 = 5 ∧ h2 326 0 0 = 41
      · rw [if_pos sg, if_pos (show ¬ (1 : Int) = 0 by decide), if_pos (show ¬ (1 : Int) = 0 by decide)]
        obtain ⟨h3, m3, c1, c2, c3, c4, c5⟩ := L21h (h2 := h2) (m2 := m2) iT (by omega) (fun _ _ _ _ => rfl) (fun _ _ _ => rfl)
        rw [c1, c2, Option.bind_some, Option.bind_some, Option.bind_some, Option.bind_some]
        dsimp only
        rw [if_neg (show ¬ (1 : Int) = 0 by decide)]
        have x47 : m3 47 0 = m2 47 0 := c5 47 0 (by omega)
        have x386 : h3 386 1 = h2 386 1 := by funext j; exact c4 386 1 j (by omega)
        have x45 : m3 45 = m2 45 := by funext j; exact c5 45 j (by omega)
        have f3 : sfC h2 h3 := fun r n j hne => c4 r n j (by omega)
        have f4 : sfM m2 m3 := fun r j hne => c5 r j (by omega)
        refine fin1 h3 m3 n2 P ⟨c3, by rw [c4 322 0 0 (by omega), c5 10 0 (by omega)]; exact jf, by rw [c4 385 1 0 (by omega)]; exact i385, by rw [c5 46 0 (by omega)]; exact i46, by rw [c4 384 1 0 (by omega), x47]; exact i384, by omega, by omega, by rw [c5 48 0 (by omega)]; exact i48, by omega, RVC_s f3 f4 iV⟩ (by rw [x386]; exact b4) (by rw [x45, c5 49 0 (by omega)]; exact b5) (fun j j0 j1 => by rw [x45]; exact b6 j j0 j1) b7 (by omega) (by omega) (sfC_trans b10 f3) (sfM_trans b11 f4)
      · rw [if_neg sg, if_neg (show ¬ ¬ (0 : Int) = 0 by decide), if_neg (show ¬ ¬ (0 : Int) = 0 by decide)]
        obtain ⟨h', m', x1, x2, x3, x4, x5⟩ := L31 (k := 1) iT (Or.inl rfl)
        rw [x1, x2, Option.bind_some, Option.bind_some]
        dsimp only
        rw [zG_t (Or.inl rfl), zG_t (Or.inl rfl), Option.bind_some, Option.bind_some]
        dsimp only
        rw [if_pos rfl]
        exact fin0 h' m' x3 (fun r n j hne => by rw [x4 r n j (by omega), b10 r n j hne]) (fun r j hne => by rw [x5 r j (by omega), b11 r j hne])
    · rw [b1, b2, Option.bind_some, Option.bind_some, if_pos (rfl : (0 : Int) = 0), if_neg (show ¬ ¬ (0 : Int) = 0 by decide), Option.bind_some]
      exact fin0 h2 m2 b3 b4 b5
  · rw [if_neg (show ¬ (h 324 0 0 = 5 ∧ h 326 0 0 = 40) by omega), if_pos (rfl : (0 : Int) = 0), if_pos (show o = 0 from w1)]
    by_cases q12 : w = 12
    · rw [if_pos (show h 324 0 0 = 3 ∧ h 326 0 0 = 12 by omega), if_neg (show ¬ (1 : Int) = 0 by decide), if_neg (show ¬ ¬ w = 12 from fun z => z q12), a1, Option.bind_some]
      unfold F285
      rcases hK' h1 m1 n I1 with ⟨h2, m2, n2, P, b1, b2, b3, b4, b5, b6, b7, b8, b9, b10, b11⟩ | ⟨h2, m2, b1, b2, b3, b4, b5⟩
      · rw [b1, b2, Option.bind_some, Option.bind_some, if_pos (show ¬ (1 : Int) = 0 by decide), if_pos (show ¬ (1 : Int) = 0 by decide)]
        dsimp only
        obtain ⟨iT, jf, i385, i46, i384, p0, p1, i48, isl, iV⟩ := id b3
        obtain ⟨h3, m3, c1, c2, c3, c4, c5, c6, c7, c8, c9⟩ := L_not (h := h2) (m := m2) (C := zCl (h1 386 1) n) (P := P) i385 (by omega) i46 (by omega) b4 b5
        rw [c1, c2, Option.bind_some, Option.bind_some, Option.bind_some]
        dsimp only
        have f3 : sfC h2 h3 := fun r n j hne => c8 r n j (by omega)
        have f4 : sfM m2 (mset m3 49 0 (n2 : Int)) := fun r j hne => by rw [mset_ne (by omega), c9 r j (by omega)]
        have x47 : (mset m3 49 0 (n2 : Int)) 47 0 = m2 47 0 := by rw [mset_ne (by omega), c9 47 0 (by omega)]
        refine fin1 h3 _ (n2 + 1) _ ⟨TR_keep iT (fun r j _ _ => c8 r 0 j (by omega)) (fun r j g => by rw [mset_ne (by omega), c9 r j (by omega)]), by rw [c8 322 0 0 (by omega), mset_ne (by omega), c9 10 0 (by omega)]; exact jf, c3, by rw [mset_ne (by omega)]; exact c4, by rw [c8 384 1 0 (by omega), x47]; exact i384, by omega, by omega, by rw [mset_ne (by omega), c9 48 0 (by omega)]; exact i48, by omega, RVC_s f3 f4 iV⟩ c5 (by rw [z45 (by decide), mset_eq]; exact c6) (fun j j0 j1 => by rw [mset_ne (by omega), c7 j j0 (by omega), b6 j j0 j1]) (by omega) (by omega) (by omega) (sfC_trans b10 f3) (sfM_trans b11 f4)
      · rw [b1, b2, Option.bind_some, Option.bind_some, if_neg (show ¬ ¬ (0 : Int) = 0 by decide), if_neg (show ¬ ¬ (0 : Int) = 0 by decide), Option.bind_some]
        exact fin0 h2 m2 b3 b4 b5
    · rw [if_neg (show ¬ (h 324 0 0 = 3 ∧ h 326 0 0 = 12) by omega), if_pos (rfl : (0 : Int) = 0), if_pos q12]
      unfold F154
      rw [HC 326 0 0 (by omega), w3, a1, Option.bind_some]
      have L := S_leaf (kR := F283r k) (w := w) a3 V1 y385 z46 (by omega) (by omega) w5
      show zSO h m n d ((zXl w h1).bind fun r3 => zG (r3.1 = 0 ∨ r3.1 = 1) (some (r3.1, r3.2))) (zYl (F283r k) w m1)
      rcases L with ⟨h2, m2, P, b1, b2, b3, b4, b5, b6, b7, b8, b9, b10, b11, b12⟩ | ⟨h2, m2, b1, b2, b3, b4, b5⟩
      · rw [b1, b2, Option.bind_some, zG_t (Or.inr rfl)]
        have f3 : sfC h1 h2 := fun r n j hne => b11 r n j (by omega)
        have f4 : sfM m1 m2 := fun r j hne => b12 r j (by omega)
        have x47 : m2 47 0 = m1 47 0 := b12 47 0 (by omega)
        exact fin1 h2 m2 (n + 1) P ⟨b3, by rw [b4, b5]; exact y322, b6, b7, by rw [b11 384 1 0 (by omega), x47]; exact y384, by omega, by omega, by rw [b12 48 0 (by omega)]; omega, by omega, RVC_s f3 f4 V1⟩ b8 b9 b10 (by omega) (by omega) (by omega) f3 f4
      · rw [b1, b2, Option.bind_some, zG_t (Or.inl rfl)]
        exact fin0 h2 m2 b3 (fun r n j hne => b4 r n j (by omega)) (fun r j hne => b5 r j (by omega))
theorem S_one : ∀ (k : Nat) (d : Int), 1 ≤ d → d ≤ 9 → 10 - d ≤ k → ∀ h m n, zSI h m n d → zSO h m n d (F151r k 0 d h) (F283r k m) := by
  intro k
  induction k with
  | zero => intro d d0 d1 g; omega
  | succ k ih =>
    intro d d0 d1 g h m n hI
    have big := zFu_big
    have hT := hI.1
    have hK : d ≤ 8 → ∀ h m n, zSI h m n (d + 1) → zSO h m n (d + 1) (F151r k 0 (d + 1) h) (F283r k m) := fun z => ih (d + 1) (by omega) (by omega) (by omega)
    rw [F151r, F283r]
    unfold F151 F283
    rw [E51, E202 hT, Option.bind_some, Option.bind_some, S_find hT zFu 12 (by decide) (by decide) (by omega) (fun _ z => z)]
    unfold F283_1
    by_cases q : h 324 0 0 = 5 ∧ h 326 0 0 = 40
    · rw [if_pos q, if_pos (show ¬ (1 : Int) = 0 by decide), if_pos (show ¬ (1 : Int) = 0 by decide)]
      exact S_mid d0 d1 hK hI (Or.inl ⟨rfl, q⟩)
    · rw [if_neg q, if_neg (show ¬ ¬ (0 : Int) = 0 by decide), if_neg (show ¬ ¬ (0 : Int) = 0 by decide)]
      have hr : h 324 0 0 = 3 → h 326 0 0 < 21 := by
        obtain ⟨-, hk2, -, -⟩ := hT
        rcases hk2 with ⟨a, b, c⟩ | ⟨a, b, c⟩ | ⟨a, c⟩ | ⟨a, c, -⟩ | ⟨a, c, d, d2, -⟩ | ⟨a, c, -⟩ | ⟨a, c, -⟩ <;> omega
      by_cases q2 : h 324 0 0 = 3 ∧ 12 ≤ h 326 0 0
      · have := hr q2.1
        rw [if_pos q2, if_neg (show ¬ ¬ h 324 0 0 = 3 from fun z => z q2.1), if_pos q2.2, if_pos (show h 326 0 0 ≤ 20 by omega)]
        exact S_mid d0 d1 hK hI (Or.inr ⟨rfl, q2.1, rfl, q2.2, by omega⟩)
      · rw [if_neg q2, if_neg (show ¬ (21 : Int) ≤ 20 by decide)]
        have e : (if ¬ h 324 0 0 = 3 then F151_1 (F151r k) h else if 12 ≤ h 326 0 0 then F151_0 (F151r k) 0 d h else F151_1 (F151r k) h) = F151_1 (F151r k) h := by
          by_cases u : h 324 0 0 = 3
          · rw [if_neg (fun z => z u), if_neg (fun z => q2 ⟨u, z⟩)]
          · rw [if_pos u]
        rw [e]
        exact S_fail hT (Or.inl rfl)
theorem F150_0_b : ∀ (n : Nat) (v1 v2 v3 : Int) (h : zHC), F150_0 n v1 v2 v3 h = F150b_0 (F151r 64) n v1 v2 v3 h := by
  intro n
  induction n with
  | zero => intros; rfl
  | succ n ih =>
    intro v1 v2 v3 h
    rw [F150_0, F150b_0]
    simp only [ih]
theorem F150_b {v1 v2 : Int} {h : zHC} : F150 v1 v2 h = F150b (F151r 64) v1 v2 h := by
  unfold F150 F150b
  simp only [F150_0_b]
theorem F149_0_b : ∀ (n : Nat) (v1 v2 v3 : Int) (h : zHC), F149_0 n v1 v2 v3 h = F149b_0 (F151r 64) n v1 v2 v3 h := by
  intro n
  induction n with
  | zero => intros; rfl
  | succ n ih =>
    intro v1 v2 v3 h
    rw [F149_0, F149b_0]
    simp only [ih, F150_b]
theorem F149_b {v1 v2 : Int} {h : zHC} : F149 v1 v2 h = F149b (F151r 64) v1 v2 h := by
  unfold F149 F149b
  simp only [F149_0_b, F150_b]
theorem F282_0_b : ∀ (n : Nat) (v1 : Int) (h : zHM), F282_0 n v1 h = F282b_0 (F283r 64) n v1 h := by
  intro n
  induction n with
  | zero => intros; rfl
  | succ n ih =>
    intro v1 h
    rw [F282_0, F282b_0]
    simp only [ih]
theorem F282_b {h : zHM} : F282 h = F282b (F283r 64) h := by
  unfold F282 F282b
  simp only [F282_0_b]
theorem F281_0_b : ∀ (n : Nat) (v1 : Int) (h : zHM), F281_0 n v1 h = F281b_0 (F283r 64) n v1 h := by
  intro n
  induction n with
  | zero => intros; rfl
  | succ n ih =>
    intro v1 h
    rw [F281_0, F281b_0]
    simp only [ih, F282_b]
theorem F281_b {h : zHM} : F281 h = F281b (F283r 64) h := by
  unfold F281 F281b
  simp only [F281_0_b, F282_b]
theorem E155 {h h' : zHC} {i j : Int} (hij : i ≠ j) (e : F155 i j h = some h') : h' 384 i 0 = h 384 j 0 := by
  unfold F155 zG at e
  split at e
  · split at e
    · have e2 := Option.some.inj e
      rw [← e2, hcpy_ne (by omega), hset_ne (by omega), hset_eq]
    · cases e
  · cases e
theorem C_sentence {hc : zHC} {hm : zHM} (h : RG hc hm) : ∃ r hc' hm', F147 hc = some (r, hc') ∧ F280 hm = some (r, hm') ∧ RG hc' hm' := by
  have big := zFu_big
  obtain ⟨H, hH⟩ : ∃ H, hset (hset hc 384 1 0 0) 385 1 0 0 = H := ⟨_, rfl⟩
  have HC : ∀ r n j, ¬ ((r = 384 ∨ r = 385) ∧ n = 1 ∧ j = 0) → H r n j = hc r n j := fun r n j hne => by rw [← hH, hset_ne (by omega), hset_ne (by omega)]
  have h1 : RG H hm := RG_sc h (fun r n j hne => HC r n j (by omega)) scM_refl
  obtain ⟨h2, m2, a1, a2, a3, a4, a5, a6, a7, a8⟩ := L_open (most := 200) h1 (by decide) (by decide)
  obtain ⟨M, hM⟩ : ∃ M, mset (mset (mset m2 46 0 0) 47 0 0) 48 0 0 = M := ⟨_, rfl⟩
  have MC : ∀ r j, ¬ (46 ≤ r ∧ r ≤ 48) → M r j = m2 r j := fun r j hne => by rw [← hM, mset_ne (by omega), mset_ne (by omega), mset_ne (by omega)]
  have fc2 : ∀ r n j, ¬ ((322 ≤ r ∧ r ≤ 329) ∨ ((r = 384 ∨ r = 385) ∧ n = 1 ∧ j = 0)) → h2 r n j = hc r n j := fun r n j hne => by rw [a7 r n j (by omega), HC r n j (by omega)]
  have fm2 : ∀ r j, ¬ (r = 0 ∨ r = 2 ∨ (3 ≤ r ∧ r ≤ 12) ∨ (46 ≤ r ∧ r ≤ 48)) → M r j = hm r j := fun r j hne => by rw [MC r j (by omega), a8 r j (by omega)]
  have z46 : M 46 0 = 0 := by rw [← hM, mset_ne (by omega), mset_ne (by omega), mset_eq]
  have z47 : M 47 0 = 0 := by rw [← hM, mset_ne (by omega), mset_eq]
  have z48 : M 48 0 = 0 := by rw [← hM, mset_eq]
  have y384 : h2 384 1 0 = 0 := by rw [a7 384 1 0 (by omega), ← hH, hset_ne (by omega), hset_eq]
  have y385 : h2 385 1 0 = 0 := by rw [a7 385 1 0 (by omega), ← hH, hset_eq]
  have hV : RVC h2 M := RVC_keep (fun r j g => fc2 r 0 j (by omega)) (fun j _ _ => fm2 14 j (by omega)) (fun j => fm2 19 j (by omega)) h.2.1
  have I : zSI h2 M 0 1 := ⟨TR_keep a3 (fun _ _ _ _ => rfl) (fun r j g => MC r j (by omega)), by rw [a4, MC 10 0 (by omega), a5], by rw [y385]; rfl, by rw [z46]; rfl, by rw [y384, z47], by omega, by omega, by omega, by rw [z47]; decide, hV⟩
  have O := S_or (fun h m n J => S_and (S_one 64 1 (by decide) (by decide) (by decide)) J) I
  unfold F147 F148 F54 F280
  rw [Option.bind_some, hH, a1, a2, Option.bind_some, Option.bind_some, hM, F149_b, F281_b]
  have failRG : ∀ (h3 : zHC) (m3 : zHM), h3 322 0 0 = m3 10 0 → sfC h2 h3 → sfM M m3 → RG (hset h3 321 0 0 0) m3 := by
    intro h3 m3 e c d
    refine RG_text h (fun r n j hne => by rw [hset_ne (by omega), c r n j (by omega), fc2 r n j (by omega)]) (fun r j hne => by rw [d r j (by omega), fm2 r j (by omega)]) hset_eq (by rw [d 2 0 (by omega), MC 2 0 (by omega)]; exact a6) (by rw [hset_ne (by omega)]; exact e)
  rcases O with ⟨h3, m3, n3, P, b1, b2, b3, b4, b5, b6, b7, b8, b9, b10, b11⟩ | ⟨h3, m3, b1, b2, b3, b4, b5⟩
  · rw [b1, b2, Option.bind_some, Option.bind_some, if_neg (show ¬ (1 : Int) = 0 by decide), if_pos (show ¬ (1 : Int) = 0 by decide)]
    dsimp only
    obtain ⟨iT, jf, i385, i46, i384, p0, p1, i48, isl, iV⟩ := id b3
    rw [E29 iT, Option.bind_some]
    by_cases q : m3 7 0 = 0
    · rw [if_pos q, if_pos q, if_pos (show ¬ (1 : Int) = 0 by decide)]
      unfold F148_0
      rw [Option.bind_some, if_pos (show ¬ (1 : Int) = 0 by decide)]
      dsimp only
      obtain ⟨m4, c1, c2, c3⟩ := F280_0s zFu 0 (mset (mset m3 14 1898 1) 14 1899 (m3 49 0)) (mset (mset m3 14 1898 1) 14 1899 (m3 49 0)) (by decide) (by decide) (by omega) (fun j j0 j1 => by omega) (fun _ _ _ => rfl)
      rw [c1]
      have g3 : ∀ r j, ¬ (r = 14 ∧ 1898 ≤ j ∧ j < 2140) → m4 r j = m3 r j := fun r j hne => by rw [c3 r j (by omega), mset_ne (by omega), mset_ne (by omega)]
      have s98 : m4 14 1898 = 1 := by rw [c3 14 1898 (by omega), mset_ne (by omega), mset_eq]
      have s99 : m4 14 1899 = m3 49 0 := by rw [c3 14 1899 (by omega), mset_eq]
      have nodes : ∀ j, 0 ≤ j → j < 240 → m4 14 (1900 + j) = m3 45 j := fun j j0 j1 => by rw [c2 j j0 j1, mset_ne (by omega), mset_ne (by omega)]
      have one0 : ¬ h3 384 1 0 = 0 := by rw [z47] at b8; omega
      have e0 : zCl (h2 386 1) 0 = [] := rfl
      rw [e0, List.nil_append] at b4
      have R1 : RSn (hset h3 321 0 0 0) 1 (m4 14) := by
        refine RSn_new (n := n3) (N := n3) (nd := m3 45) (by rw [hset_ne (by omega)]; exact one0) (by rw [hset_ne (by omega)]; omega) (by rw [hset_ne (by omega)]; exact i385) (by omega) (by rw [s98]; decide) ?_ (by omega) nodes
        have z386 : (hset h3 321 0 0 0) 386 1 = h3 386 1 := by funext j; exact hset_ne (by omega)
        rw [z386, b4, s99]
        exact b5
      obtain ⟨h4, d1, d2, d3⟩ := L155 (h := hset h3 321 0 0 0) (i := 0) (j := 1) (by decide) R1
      rw [d1, Option.bind_some]
      have e384 : h4 384 0 0 = h3 384 1 0 := by
        rw [E155 (by decide) d1, hset_ne (by omega)]
      have e47 : (mset (mset m3 14 1898 1) 14 1899 (m3 49 0)) 47 0 = m3 47 0 := by rw [mset_ne (by omega), mset_ne (by omega)]
      rw [e384, e47, i384]
      have gc : ∀ r n j, ¬ ((384 ≤ r ∧ r ≤ 386 ∧ (n = 0 ∨ n = 1)) ∨ (321 ≤ r ∧ r ≤ 329)) → h4 r n j = hc r n j := fun r n j hne => by rw [d3 r n j (by omega), hset_ne (by omega), b10 r n j (by omega), fc2 r n j (by omega)]
      have gm : ∀ r j, ¬ (r = 0 ∨ (2 ≤ r ∧ r ≤ 13) ∨ (45 ≤ r ∧ r ≤ 49) ∨ (r = 14 ∧ 1898 ≤ j ∧ j < 2140)) → m4 r j = hm r j := fun r j hne => by rw [g3 r j (by omega), b11 r j (by omega), fm2 r j (by omega)]
      have t20 : m4 2 0 = 0 := by rw [g3 2 0 (by omega), b11 2 0 (by omega), MC 2 0 (by omega)]; exact a6
      obtain ⟨t1, t2, t3, t4, t5, t6, t7, t8, t9⟩ := h
      refine ⟨_, _, _, rfl, rfl, ⟨by rw [d3 321 0 0 (by omega), hset_eq, t20], by rw [t20]; exact Int.le_refl _, by rw [t20]; decide, fun i i0 i1 => by rw [gc 320 0 i (by omega), gm 1 i (by omega)]; exact t1.2.2.2.1 i i0 i1, by rw [d3 322 0 0 (by omega), hset_ne (by omega), g3 10 0 (by omega)]; exact jf⟩, RVC_keep (fun r j g => gc r 0 j (by omega)) (fun j _ _ => gm 14 j (by omega)) (fun j => gm 19 j (by omega)) t2, RUn_keep (fun r n j g => gc r n j (by omega)) (fun j _ _ => gm 14 j (by omega)) (fun r j g => gm r j (by omega)) (VR_n t2.1) t3, RIm_keep (fun r n j g => gc r n j (by omega)) (fun r j g => gm r j (by omega)) t4, d2, RPc_keep (fun r j g => gc r 0 j (by omega)) (fun r j g => gm r j (by omega)) t6, RSt_keep (fun r j g => gc r 0 j (by omega)) (fun j => gm 41 j (by omega)) t7, RWr_keep (fun r j g => gc r 0 j (by omega)) (fun r j g => gm r j (by omega)) t8, RKw_keep (fun j => gc 330 0 j (by omega)) t9⟩
    · rw [if_neg q, if_neg q, if_neg (show ¬ ¬ (0 : Int) = 0 by decide)]
      obtain ⟨h', m', x1, x2, x3, x4, x5⟩ := L31 (k := 1) iT (Or.inl rfl)
      rw [x1, x2, Option.bind_some, Option.bind_some, if_pos (rfl : (0 : Int) = 0), Option.bind_some, if_neg (show ¬ ¬ (0 : Int) = 0 by decide)]
      dsimp only
      rw [← x3.2]
      exact ⟨_, _, _, rfl, rfl, failRG h' m' x3.1 (fun r n j hne => by rw [x4 r n j (by omega), b10 r n j hne]) (fun r j hne => by rw [x5 r j (by omega), b11 r j hne])⟩
  · rw [b1, b2, Option.bind_some, Option.bind_some, if_pos (rfl : (0 : Int) = 0), if_neg (show ¬ ¬ (0 : Int) = 0 by decide), Option.bind_some, if_neg (show ¬ ¬ (0 : Int) = 0 by decide)]
    dsimp only
    rw [← b3.2]
    exact ⟨_, _, _, rfl, rfl, failRG h3 m3 b3.1 b4 b5⟩
end
