/-! A sentence's text: what its readers share. -/
def sfC (h h' : zHC) : Prop := ∀ r n j, ¬ ((322 ≤ r ∧ r ≤ 328) ∨ (384 ≤ r ∧ r ≤ 386 ∧ n = 1)) → h' r n j = h r n j
def sfM (m m' : zHM) : Prop := ∀ r j, ¬ ((5 ≤ r ∧ r ≤ 13) ∨ (45 ≤ r ∧ r ≤ 49)) → m' r j = m r j
theorem sfC_refl {h : zHC} : sfC h h := fun _ _ _ _ => rfl
theorem sfM_refl {m : zHM} : sfM m m := fun _ _ _ => rfl
theorem sfC_trans {h h' h'' : zHC} (a : sfC h h') (b : sfC h' h'') : sfC h h'' := fun r n j hne => by rw [b r n j hne, a r n j hne]
theorem sfM_trans {m m' m'' : zHM} (a : sfM m m') (b : sfM m' m'') : sfM m m'' := fun r j hne => by rw [b r j hne, a r j hne]
theorem RVC_s {h h' : zHC} {m m' : zHM} (f1 : sfC h h') (f2 : sfM m m') (hV : RVC h m) : RVC h' m' := RVC_keep (fun r j g => f1 r 0 j (by omega)) (fun j _ _ => f2 14 j (by omega)) (fun j => f2 19 j (by omega)) hV
def zSI (h : zHC) (m : zHM) (n : Nat) (d : Int) : Prop := TR h m ∧ h 322 0 0 = m 10 0 ∧ h 385 1 0 = (n : Int) ∧ m 46 0 = (n : Int) ∧ h 384 1 0 = m 47 0 ∧ 0 ≤ m 47 0 ∧ m 47 0 ≤ 20 ∧ m 48 0 = d - 1 ∧ (n : Int) ≤ 2 * m 47 0 ∧ RVC h m
def zSO (h : zHC) (m : zHM) (n : Nat) (d : Int) (x : Option (Int × zHC)) (y : Option (Int × zHM)) : Prop := (∃ h' m' n' P, x = some (1, h') ∧ y = some (1, m') ∧ zSI h' m' n' d ∧ zCl (h' 386 1) n' = zCl (h 386 1) n ++ P ∧ zPT P (m' 45) n' (m' 49 0) ∧ (∀ j, 0 ≤ j → j < 4 * (n : Int) → m' 45 j = m 45 j) ∧ n ≤ n' ∧ m 47 0 + 1 ≤ m' 47 0 ∧ 2 * m 47 0 + (n' : Int) + 1 ≤ 2 * m' 47 0 + (n : Int) ∧ sfC h h' ∧ sfM m m') ∨ (∃ h' m', x = some (0, h') ∧ y = some (0, m') ∧ FT h' m' ∧ sfC h h' ∧ sfM m m')
theorem S_fail {h : zHC} {m : zHM} {n : Nat} {d k : Int} (hT : TR h m) (hk : k = 1 ∨ ¬ m 7 0 = 1) : zSO h m n d ((F31 k h).bind fun r1 => zG (r1.1 = 0 ∨ r1.1 = 1) (some (r1.1, r1.2))) ((F185 k m).bind fun r1 => zG (r1.1 = 0 ∨ r1.1 = 1) (some (r1.1, r1.2))) := by
  obtain ⟨h', m', a1, a2, a3, a4, a5⟩ := L31 hT hk
  rw [a1, a2, Option.bind_some, Option.bind_some, zG_t (Or.inl rfl), zG_t (Or.inl rfl)]
  exact Or.inr ⟨h', m', rfl, rfl, a3, fun r n j hne => a4 r n j (by omega), fun r j hne => a5 r j (by omega)⟩
/-- which word it is -/
theorem S_find {kR : zHM → Option (Int × zHM)} {h : zHC} {m : zHM} {o : Int} (hT : TR h m) : ∀ (n : Nat) (j : Int), 12 ≤ j → j ≤ 21 → 21 - j < n → (h 324 0 0 = 3 → 12 ≤ h 326 0 0 → j ≤ h 326 0 0) → F283_0 kR n o j m = F283_1 kR o (if h 324 0 0 = 3 ∧ 12 ≤ h 326 0 0 then h 326 0 0 else 21) m := by
  intro n
  induction n with
  | zero => intro j j0 j1 g; omega
  | succ n ih =>
    intro j j0 j1 g hb
    have hr : h 324 0 0 = 3 → h 326 0 0 < 21 := by
      obtain ⟨-, hk2, -, -⟩ := hT
      rcases hk2 with ⟨a, b, c⟩ | ⟨a, b, c⟩ | ⟨a, c⟩ | ⟨a, c, -⟩ | ⟨a, c, d, d2, -⟩ | ⟨a, c, -⟩ | ⟨a, c, -⟩ <;> omega
    rw [F283_0]
    by_cases u : j = 21
    · rw [if_pos (by omega), if_neg (fun z => by have := hb z.1 z.2; have := hr z.1; omega), u]
    · rw [if_neg (by omega), E181 hT (by omega) (by omega), Option.bind_some]
      by_cases v : h 324 0 0 = 3 ∧ h 326 0 0 = j
      · rw [if_pos v, if_pos (show ¬ (1 : Int) = 0 by decide), if_pos ⟨v.1, by omega⟩, v.2]
      · rw [if_neg v, if_neg (show ¬ ¬ (0 : Int) = 0 by decide), wadd_eq (by omega) (by omega)]
        refine ih (j + 1) (by omega) (by omega) (by omega) (fun z1 z2 => ?_)
        have := hb z1 z2
        have : ¬ h 326 0 0 = j := fun z => v ⟨z1, z⟩
        omega
def zXl (w : Int) (r1 : zHC) : Option (Int × zHC) := if w = 13 then F154_0 w r1 else if ¬ w = 14 then if w = 15 then F154_1 0 w r1 else if ¬ w = 16 then (F51 60 r1).bind fun r2 => if ¬ r2 = 0 then F154_2 w r1 else (F51 61 r1).bind fun r3 => if ¬ r3 = 0 then F154_2 w r1 else (F51 62 r1).bind fun r4 => if ¬ r4 = 0 then F154_2 w r1 else (F31 1 r1).bind fun r5 => zG (r5.1 = 0 ∨ r5.1 = 1) (some (r5.1, r5.2)) else F154_1 0 w r1 else F154_0 w r1
def zYl (kR : zHM → Option (Int × zHM)) (w : Int) (r1 : zHM) : Option (Int × zHM) := if 15 ≤ w then if 17 ≤ w then (F288 w r1).bind fun r2 => F283_4 kR r2.1 r2.2 else (F287 w r1).bind fun r3 => F283_4 kR r3.1 r3.2 else (F286 (wadd 50 w) 0 0 0 r1).bind fun r4 => F283_5 kR 1 (mset r4.2 49 0 r4.1)
def lfC (h h' : zHC) : Prop := ∀ r n j, ¬ ((322 ≤ r ∧ r ≤ 328) ∨ (385 ≤ r ∧ r ≤ 386 ∧ n = 1)) → h' r n j = h r n j
def lfM (m m' : zHM) : Prop := ∀ r j, ¬ ((5 ≤ r ∧ r ≤ 13) ∨ r = 45 ∨ r = 46 ∨ r = 49) → m' r j = m r j
def zSL (kR : zHM → Option (Int × zHM)) (h : zHC) (m : zHM) (n : Nat) (x : Option (Int × zHC)) (y : Option (Int × zHM)) : Prop := (∃ h' m' P, x = some (1, h') ∧ y = F283_5 kR 1 m' ∧ TR h' m' ∧ h' 322 0 0 = h 322 0 0 ∧ m' 10 0 = m 10 0 ∧ h' 385 1 0 = ((n + 1 : Nat) : Int) ∧ m' 46 0 = ((n + 1 : Nat) : Int) ∧ zCl (h' 386 1) (n + 1) = zCl (h 386 1) n ++ P ∧ zPT P (m' 45) (n + 1) (m' 49 0) ∧ (∀ j, 0 ≤ j → j < 4 * (n : Int) → m' 45 j = m 45 j) ∧ lfC h h' ∧ lfM m m') ∨ (∃ h' m', x = some (0, h') ∧ y = F283_5 kR 0 m' ∧ FT h' m' ∧ lfC h h' ∧ lfM m m')
theorem S_lfail {kR : zHM → Option (Int × zHM)} {h h0 : zHC} {m m0 : zHM} {n : Nat} {k : Int} (hT : TR h m) (hk : k = 1 ∨ ¬ m 7 0 = 1) (f1 : lfC h0 h) (f2 : lfM m0 m) : zSL kR h0 m0 n ((F31 k h).bind fun r1 => zG (r1.1 = 0 ∨ r1.1 = 1) (some (r1.1, r1.2))) (((F185 k m).bind fun r1 => zG (r1.1 = 0 ∨ r1.1 = 1) (some (r1.1, r1.2))).bind fun r2 => F283_4 kR r2.1 r2.2) := by
  obtain ⟨h', m', a1, a2, a3, a4, a5⟩ := L31 hT hk
  rw [a1, a2, Option.bind_some, Option.bind_some, zG_t (Or.inl rfl), zG_t (Or.inl rfl), Option.bind_some]
  exact Or.inr ⟨h', m', rfl, rfl, a3, fun r n j hne => by rw [a4 r n j (by omega), f1 r n j hne], fun r j hne => by rw [a5 r j (by omega), f2 r j hne]⟩
theorem S_leafA {kR : zHM → Option (Int × zHM)} {h : zHC} {m : zHM} {n : Nat} {w : Int} (hT : TR h m) (e : h 385 1 0 = (n : Int)) (eN : m 46 0 = (n : Int)) (n1 : n < 40) (w0 : 13 ≤ w) (w1 : w ≤ 14) : zSL kR h m n (F154_0 w h) ((F286 (wadd 50 w) 0 0 0 m).bind fun r4 => F283_5 kR 1 (mset r4.2 49 0 r4.1)) := by
  obtain ⟨h', m', a1, a2, a3, a4, a5, a6, a7, a8, a9⟩ := L_leaf (w := w) (x := 0) (y := 0) (p := 0) (v := 0) e n1 eN (by omega) (by omega) (by omega) rfl (fun _ => rfl) (fun z => by omega)
  unfold F154_0
  rw [wadd_eq (x := 50) (by omega) (by omega), a1, a2, Option.bind_some, Option.bind_some]
  dsimp only
  refine Or.inl ⟨h', _, _, rfl, rfl, TR_keep hT (fun r j _ _ => a8 r 0 j (by omega)) (fun r j g => by rw [mset_ne (by omega), a9 r j (by omega)]), a8 322 0 0 (by omega), by rw [mset_ne (by omega), a9 10 0 (by omega)], a3, by rw [mset_ne (by omega)]; exact a4, a5, ?_, fun j j0 j1 => ?_, fun r k j hne => a8 r k j (by omega), fun r j hne => by rw [mset_ne (by omega), a9 r j (by omega)]⟩
  · have z : (mset m' 49 0 (n : Int)) 45 = m' 45 := by funext j; exact mset_ne (by omega)
    rw [mset_eq, z]
    exact a6
  · rw [mset_ne (by omega)]
    exact a7 j j0 j1
theorem S_leafB {kR : zHM → Option (Int × zHM)} {h : zHC} {m : zHM} {n : Nat} {w : Int} (hT : TR h m) (hV : RVC h m) (e : h 385 1 0 = (n : Int)) (eN : m 46 0 = (n : Int)) (n1 : n < 40) (w0 : 15 ≤ w) (w1 : w ≤ 16) : zSL kR h m n (F154_1 0 w h) ((F287 w m).bind fun r3 => F283_4 kR r3.1 r3.2) := by
  have w6 := hV.1.2.2.2.2.2.2.2.1
  unfold WN at w6
  unfold F154_1 F287 F43
  rw [E191 hT, Option.bind_some]
  by_cases u : h 324 0 0 = 2
  · rw [if_pos u, if_pos u, if_pos (show ¬ (1 : Int) = 0 by decide)]
    obtain ⟨p, b1, b2, b3⟩ := L38b (h := h) (m := m) (v := 0) hV.1.1.2.2.2.1 (by omega) (by omega) hV.1.2.2.2.2.2.2.1.2 (TR_name hT u)
    rw [b1, b2, Option.bind_some, Option.bind_some]
    by_cases v : p = -1
    · obtain ⟨h', m', c1, c2, c3, c4, c5⟩ := L31 (k := 3) hT (Or.inr (TR_at hT (by omega) (by omega)))
      rw [if_neg (fun z => z v), if_neg (fun z => z v), c1, c2, Option.bind_some, Option.bind_some, Option.bind_some, zG_t (Or.inl rfl), Option.bind_some]
      dsimp only
      rw [if_neg (fun z => z v)]
      exact Or.inr ⟨h', m', rfl, rfl, c3, fun r n j hne => c4 r n j (by omega), fun r j hne => c5 r j (by omega)⟩
    · obtain ⟨h1, m1, a1, a2, a3, a4, a5, a6, a7, a8, a9⟩ := L_leaf (h := h) (m := m) (w := w) (x := 0) (y := p) (p := p) (v := 0) e n1 eN (by omega) (by omega) (by omega) (by omega) (fun _ => rfl) (fun z => by omega)
      obtain ⟨h', m', c1, c2, c3, c4, c5⟩ := L21h (h2 := h1) (m2 := mset m1 49 0 (n : Int)) hT (by omega) (fun r j _ _ => a8 r 0 j (by omega)) (fun r j g => by rw [mset_ne (by omega), a9 r j (by omega)])
      rw [if_pos v, if_pos v, Option.bind_some]
      dsimp only
      rw [if_pos v, wadd_eq (x := 50) (by omega) (by omega), a1, a2, Option.bind_some, Option.bind_some]
      dsimp only
      rw [c1, c2, Option.bind_some, Option.bind_some, Option.bind_some]
      have z : m' 45 = m1 45 := by funext j; rw [c5 45 j (by omega), mset_ne (by omega)]
      have z2 : h' 386 1 = h1 386 1 := by funext j; exact c4 386 1 j (by omega)
      refine Or.inl ⟨h', m', _, rfl, rfl, c3, by rw [c4 322 0 0 (by omega), a8 322 0 0 (by omega)], by rw [c5 10 0 (by omega), mset_ne (by omega), a9 10 0 (by omega)], by rw [c4 385 1 0 (by omega)]; exact a3, by rw [c5 46 0 (by omega), mset_ne (by omega)]; exact a4, by rw [z2]; exact a5, ?_, fun j j0 j1 => by rw [z]; exact a7 j j0 j1, fun r k j hne => by rw [c4 r k j (by omega), a8 r k j (by omega)], fun r j hne => by rw [c5 r j (by omega), mset_ne (by omega), a9 r j (by omega)]⟩
      rw [c5 49 0 (by omega), mset_eq, z]
      exact a6
  · rw [if_neg u, if_neg u, if_neg (show ¬ ¬ (0 : Int) = 0 by decide)]
    obtain ⟨h', m', c1, c2, c3, c4, c5⟩ := L31 (k := 1) hT (Or.inl rfl)
    rw [c1, c2, Option.bind_some, Option.bind_some, Option.bind_some, zG_t (Or.inl rfl), Option.bind_some]
    dsimp only
    rw [if_neg (show ¬ ¬ (-1 : Int) = -1 by decide)]
    exact Or.inr ⟨h', m', rfl, rfl, c3, fun r n j hne => c4 r n j (by omega), fun r j hne => c5 r j (by omega)⟩
theorem S_leafC2 {kR : zHM → Option (Int × zHM)} {h : zHC} {m : zHM} {n : Nat} {w : Int} (hT : TR h m) (k5 : h 324 0 0 = 5) (x0 : 60 ≤ h 326 0 0) (x1 : h 326 0 0 ≤ 62) (e : h 385 1 0 = (n : Int)) (eN : m 46 0 = (n : Int)) (n1 : n < 40) (w0 : 17 ≤ w) (w1 : w ≤ 20) : zSL kR h m n (F154_2 w h) ((F288_0 w m).bind fun r3 => F283_4 kR r3.1 r3.2) := by
  have es : m 9 0 = h 326 0 0 := by
    obtain ⟨-, hk2, -, -⟩ := hT
    rcases hk2 with ⟨a, b, c⟩ | ⟨a, b, c⟩ | ⟨a, c⟩ | ⟨a, c, -⟩ | ⟨a, c, -⟩ | ⟨a, c, -⟩ | ⟨a, c, d⟩
    · omega
    · omega
    · omega
    · omega
    · omega
    · omega
    · exact d.symm
  unfold F154_2 F288_0 F186
  obtain ⟨h1, m1, a1, a2, a3, a4, a5⟩ := L21h (h2 := h) (m2 := m) hT (by omega) (fun _ _ _ _ => rfl) (fun _ _ _ => rfl)
  rw [a1, a2, Option.bind_some, Option.bind_some]
  by_cases q : h1 324 0 0 = 4
  · have nn : m1 7 0 = 3 ∧ h1 326 0 0 = m1 8 0 ∧ 0 ≤ m1 8 0 ∧ m1 8 0 ≤ 999 := by
      obtain ⟨-, hk2, -, -⟩ := a3
      rcases hk2 with ⟨a, b, c⟩ | ⟨a, b, c⟩ | ⟨a, c⟩ | ⟨a, c, -⟩ | ⟨a, c, -⟩ | ⟨a, c, d⟩ | ⟨a, c, -⟩
      · omega
      · omega
      · omega
      · omega
      · omega
      · exact ⟨c, d⟩
      · omega
    have e187 : F187 0 999 m1 = some (1, mset m1 13 0 (m1 8 0)) := by
      unfold F187
      rw [if_pos nn.1, F188, if_neg (by omega), if_neg (by omega), Option.bind_some, if_pos (by decide)]
    rw [if_pos q, e187, Option.bind_some, if_pos (show ¬ (1 : Int) = 0 by decide)]
    dsimp only
    obtain ⟨h2, b1, b2, b3, b4⟩ := E153 (h := h1) (v1 := w) (v2 := h 326 0 0) (v3 := h1 326 0 0) (n := n) (by rw [a4 385 1 0 (by omega)]; exact e) n1
    obtain ⟨h3, m3, c1, c2, c3, c4, c5⟩ := L21h (h2 := h2) (m2 := mset m1 13 0 (m1 8 0)) a3 (by omega) (fun r j _ _ => b4 r 0 j (by omega)) (fun r j g => mset_ne (by omega))
    have e13 : m3 13 0 = h1 326 0 0 := by rw [c5 13 0 (by omega), mset_eq]; exact nn.2.1.symm
    have eN3 : m3 46 0 = (n : Int) := by rw [c5 46 0 (by omega), mset_ne (by omega), a5 46 0 (by omega)]; exact eN
    obtain ⟨m4, d1, d2, d3, d4, d5, d6, d7, d8⟩ := E286 (m := m3) (v1 := 50 + w) (v2 := 0) (v3 := h1 326 0 0) (v4 := h 326 0 0) eN3 (by omega)
    rw [b1, Option.bind_some, c1, Option.bind_some, c2, Option.bind_some, Option.bind_some, if_pos (show ¬ (1 : Int) = 0 by decide)]
    dsimp only
    rw [e13, es, wadd_eq (x := 50) (by omega) (by omega), d1, Option.bind_some, Option.bind_some]
    have z : (mset m4 49 0 (n : Int)) 45 = m4 45 := by funext j; exact mset_ne (by omega)
    have z2 : h3 386 1 = h2 386 1 := by funext j; exact c4 386 1 j (by omega)
    have z3 : h1 386 1 = h 386 1 := by funext j; exact a4 386 1 j (by omega)
    refine Or.inl ⟨h3, mset m4 49 0 (n : Int), [(w, h 326 0 0, h1 326 0 0)], rfl, rfl, TR_keep c3 (fun _ _ _ _ => rfl) (fun r j g => by rw [mset_ne (by omega), d8 r j (by omega)]), by rw [c4 322 0 0 (by omega), b4 322 0 0 (by omega), a4 322 0 0 (by omega)], by rw [mset_ne (by omega), d8 10 0 (by omega), c5 10 0 (by omega), mset_ne (by omega), a5 10 0 (by omega)], by rw [c4 385 1 0 (by omega)]; exact b2, by rw [mset_ne (by omega)]; exact d2, by rw [z2, b3, z3], ?_, fun j j0 j1 => ?_, fun r k j hne => by rw [c4 r k j (by omega), b4 r k j (by omega), a4 r k j (by omega)], fun r j hne => by rw [mset_ne (by omega), d8 r j (by omega), c5 r j (by omega), mset_ne (by omega), a5 r j (by omega)]⟩
    · rw [mset_eq, z]
      exact zPT_leaf (by omega) (by omega) w1 d3 d6 (by rw [d4, d5]; omega) (fun z => by omega) (fun _ => ⟨d4, x0, x1⟩)
    · rw [z, d7 j j0 j1, c5 45 j (by omega), mset_ne (by omega), a5 45 j (by omega)]
  · have nq : ¬ m1 7 0 = 3 := fun z => q ((TR_kind a3).2.1.mpr z)
    have e187 : F187 0 999 m1 = (F185 1 m1).bind fun r1 => zG (r1.1 = 0 ∨ r1.1 = 1) (some (r1.1, r1.2)) := by
      unfold F187
      rw [if_neg nq]
    obtain ⟨h', m', g1, g2, g3, g4, g5⟩ := L31 (k := 1) a3 (Or.inl rfl)
    rw [if_neg q, e187, g1, g2, Option.bind_some, Option.bind_some, zG_t (Or.inl rfl), zG_t (Or.inl rfl), Option.bind_some, if_neg (show ¬ ¬ (0 : Int) = 0 by decide), Option.bind_some, if_neg (show ¬ ¬ (0 : Int) = 0 by decide), Option.bind_some]
    exact Or.inr ⟨h', m', rfl, rfl, g3, fun r n j hne => by rw [g4 r n j (by omega), a4 r n j (by omega)], fun r j hne => by rw [g5 r j (by omega), a5 r j (by omega)]⟩
theorem S_leaf {kR : zHM → Option (Int × zHM)} {h : zHC} {m : zHM} {n : Nat} {w : Int} (hT : TR h m) (hV : RVC h m) (e : h 385 1 0 = (n : Int)) (eN : m 46 0 = (n : Int)) (n1 : n < 40) (w0 : 13 ≤ w) (w1 : w ≤ 20) : zSL kR h m n (zXl w h) (zYl kR w m) := by
  unfold zXl zYl
  by_cases q13 : w = 13
  · rw [if_pos q13, if_neg (show ¬ 15 ≤ w by omega)]
    exact S_leafA hT e eN n1 w0 (by omega)
  rw [if_neg q13]
  by_cases q14 : w = 14
  · rw [if_neg (show ¬ ¬ w = 14 from fun z => z q14), if_neg (show ¬ 15 ≤ w by omega)]
    exact S_leafA hT e eN n1 w0 (by omega)
  rw [if_pos q14, if_pos (show 15 ≤ w by omega)]
  by_cases q15 : w = 15
  · rw [if_pos q15, if_neg (show ¬ 17 ≤ w by omega)]
    exact S_leafB hT hV e eN n1 (by omega) (by omega)
  rw [if_neg q15]
  by_cases q16 : w = 16
  · rw [if_neg (show ¬ ¬ w = 16 from fun z => z q16), if_neg (show ¬ 17 ≤ w by omega)]
    exact S_leafB hT hV e eN n1 (by omega) (by omega)
  rw [if_pos q16, if_pos (show 17 ≤ w by omega)]
  unfold F288
  rw [E51, E51, E51, E202 hT, E202 hT, E202 hT]
  simp only [Option.bind_some]
  by_cases g60 : h 324 0 0 = 5 ∧ h 326 0 0 = 60
  · rw [if_pos g60, if_pos (show ¬ (1 : Int) = 0 by decide), if_pos (show ¬ (1 : Int) = 0 by decide)]
    exact S_leafC2 hT g60.1 (by omega) (by omega) e eN n1 (by omega) w1
  rw [if_neg g60, if_neg (show ¬ ¬ (0 : Int) = 0 by decide), if_neg (show ¬ ¬ (0 : Int) = 0 by decide)]
  by_cases g61 : h 324 0 0 = 5 ∧ h 326 0 0 = 61
  · rw [if_pos g61, if_pos (show ¬ (1 : Int) = 0 by decide), if_pos (show ¬ (1 : Int) = 0 by decide)]
    exact S_leafC2 hT g61.1 (by omega) (by omega) e eN n1 (by omega) w1
  rw [if_neg g61, if_neg (show ¬ ¬ (0 : Int) = 0 by decide), if_neg (show ¬ ¬ (0 : Int) = 0 by decide)]
  by_cases g62 : h 324 0 0 = 5 ∧ h 326 0 0 = 62
  · rw [if_pos g62, if_pos (show ¬ (1 : Int) = 0 by decide), if_pos (show ¬ (1 : Int) = 0 by decide)]
    exact S_leafC2 hT g62.1 (by omega) (by omega) e eN n1 (by omega) w1
  rw [if_neg g62, if_neg (show ¬ ¬ (0 : Int) = 0 by decide), if_neg (show ¬ ¬ (0 : Int) = 0 by decide)]
  exact S_lfail hT (Or.inl rfl) (fun _ _ _ _ => rfl) (fun _ _ _ => rfl)
