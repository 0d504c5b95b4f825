/-! A sentence's text: joined ones. -/
theorem z45 {m : zHM} {x : Int} {r : Nat} (hr : ¬ r = 45) : (mset m r 0 x) 45 = m 45 := by
  funext j
  exact mset_ne (by omega)
theorem S_andLoop {kc : Int → Int → zHC → Option (Int × zHC)} {km : zHM → Option (Int × zHM)} {d : Int} (hK : ∀ h m n, zSI h m n d → zSO h m n d (kc 0 d h) (km m)) : ∀ (N N' : Nat) (i a : Int) (h : zHC) (m : zHM) (n : Nat) (C P : List (Int × Int × Int)), zSI h m n d → (n : Int) + 1 ≤ 2 * m 47 0 → zCl (h 386 1) n = C ++ P → zPT P (m 45) n a → 0 ≤ i → i ≤ m 47 0 → 21 - m 47 0 < N → 21 - m 47 0 < N' → (∃ h' m' n' P', F150b_0 kc N 0 d i h = some (1, h') ∧ F282b_0 km N' a m = some (1, m') ∧ zSI h' m' n' d ∧ zCl (h' 386 1) n' = C ++ P' ∧ zPT P' (m' 45) n' (m' 49 0) ∧ (∀ j, 0 ≤ j → j < 4 * (n : Int) → m' 45 j = m 45 j) ∧ n ≤ n' ∧ m 47 0 ≤ m' 47 0 ∧ 2 * m 47 0 + (n' : Int) ≤ 2 * m' 47 0 + (n : Int) ∧ sfC h h' ∧ sfM m m') ∨ (∃ h' m', F150b_0 kc N 0 d i h = some (0, h') ∧ F282b_0 km N' a m = some (0, m') ∧ FT h' m' ∧ sfC h h' ∧ sfM m m') := by
  intro N
  induction N with
  | zero => intro N' i a h m n C P hI; have := hI.2.2.2.2.2.2.1; omega
  | succ N ih =>
    intro N' i a h m n C P hI hs hC hP i0 i1 g1 g2
    cases N' with
    | zero => have := hI.2.2.2.2.2.2.1; omega
    | succ N' =>
      obtain ⟨hT, hf, e385, e46, e384, o0, o1, e48, sl, hV⟩ := id hI
      rw [F150b_0, F282b_0, if_neg (show ¬ 940 ≤ i by omega), E152, E181 hT (by decide) (by decide), Option.bind_some, Option.bind_some]
      by_cases q : h 324 0 0 = 3 ∧ h 326 0 0 = 11
      · rw [if_pos q, if_neg (show ¬ (1 : Int) = 0 by decide), if_neg (show ¬ (1 : Int) = 0 by decide)]
        obtain ⟨h1, m1, a1, a2, a3, a4, a5⟩ := L21h (h2 := h) (m2 := m) hT (by omega) (fun _ _ _ _ => rfl) (fun _ _ _ => rfl)
        rw [a1, a2, Option.bind_some, Option.bind_some]
        have k1 : sfC h h1 := fun r n j hne => a4 r n j (by omega)
        have k2 : sfM m m1 := fun r j hne => a5 r j (by omega)
        have z47 : m1 47 0 = m 47 0 := a5 47 0 (by omega)
        have I1 : zSI h1 m1 n d := ⟨a3, by rw [a4 322 0 0 (by omega), a5 10 0 (by omega)]; exact hf, by rw [a4 385 1 0 (by omega)]; exact e385, by rw [a5 46 0 (by omega)]; exact e46, by rw [a4 384 1 0 (by omega), z47]; exact e384, by omega, by omega, by rw [a5 48 0 (by omega)]; exact e48, by omega, RVC_s k1 k2 hV⟩
        have z386 : h1 386 1 = h 386 1 := by funext j; exact a4 386 1 j (by omega)
        have z451 : m1 45 = m 45 := by funext j; exact a5 45 j (by omega)
        rcases hK h1 m1 n I1 with ⟨h2, m2, n2, Q, b1, b2, b3, b4, b5, b6, b7, b8, b9, b10, b11⟩ | ⟨h2, m2, b1, b2, b3, b4, b5⟩
        · rw [b1, b2, Option.bind_some, Option.bind_some, if_pos (show ¬ (1 : Int) = 0 by decide), if_pos (show ¬ (1 : Int) = 0 by decide)]
          dsimp only
          obtain ⟨iT, jf, i385, i46, i384, p0, p1, i48, isl, iV⟩ := id b3
          have hP2 : zPT P (m2 45) n2 a := zPT_keep hP b7 (fun j j0 j1 => by rw [b6 j j0 j1, z451])
          obtain ⟨h3, m3, c1, c2, c3, c4, c5, c6, c7, c8, c9⟩ := L_and (h := h2) (m := m2) (C := C) (P := P) (Q := Q) i385 (by omega) i46 (by omega) (by rw [b4, z386, hC]) hP2 b5
          rw [c1, c2, Option.bind_some, Option.bind_some, wadd_eq (x := i) (by omega) (by omega)]
          dsimp only
          have k3 : sfC h h3 := fun r n j hne => by rw [c8 r n j (by omega), b10 r n j hne, k1 r n j hne]
          have k4 : sfM m m3 := fun r j hne => by rw [c9 r j (by omega), b11 r j hne, k2 r j hne]
          have z473 : m3 47 0 = m2 47 0 := c9 47 0 (by omega)
          have I3 : zSI h3 m3 (n2 + 1) d := ⟨TR_keep iT (fun r j _ _ => c8 r 0 j (by omega)) (fun r j g => c9 r j (by omega)), by rw [c8 322 0 0 (by omega), c9 10 0 (by omega)]; exact jf, c3, c4, by rw [c8 384 1 0 (by omega), z473]; exact i384, by omega, by omega, by rw [c9 48 0 (by omega)]; exact i48, by omega, RVC_s k3 k4 hV⟩
          rcases ih N' (i + 1) (n2 : Int) h3 m3 (n2 + 1) C _ I3 (by omega) c5 c6 (by omega) (by omega) (by omega) (by omega) with ⟨h4, m4, n4, R, d1, d2, d3, d4, d5, d6, d7, d8, d9, d10, d11⟩ | ⟨h4, m4, d1, d2, d3, d4, d5⟩
          · refine Or.inl ⟨h4, m4, n4, R, d1, d2, d3, d4, d5, fun j j0 j1 => ?_, by omega, by omega, by omega, sfC_trans k3 d10, sfM_trans k4 d11⟩
            rw [d6 j j0 (by omega), c7 j j0 (by omega), b6 j j0 j1, z451]
          · exact Or.inr ⟨h4, m4, d1, d2, d3, sfC_trans k3 d4, sfM_trans k4 d5⟩
        · rw [b1, b2, Option.bind_some, Option.bind_some, if_neg (show ¬ ¬ (0 : Int) = 0 by decide), if_neg (show ¬ ¬ (0 : Int) = 0 by decide)]
          exact Or.inr ⟨h2, m2, rfl, rfl, b3, sfC_trans k1 b4, sfM_trans k2 b5⟩
      · rw [if_neg q, if_pos rfl, if_pos rfl]
        have k2 : sfM m (mset m 49 0 a) := fun r j hne => mset_ne (by omega)
        refine Or.inl ⟨h, mset m 49 0 a, n, P, rfl, rfl, ⟨TR_keep hT (fun _ _ _ _ => rfl) (fun r j g => mset_ne (by omega)), by rw [mset_ne (by omega)]; exact hf, e385, by rw [mset_ne (by omega)]; exact e46, by rw [mset_ne (by omega)]; exact e384, by rw [mset_ne (by omega)]; exact o0, by rw [mset_ne (by omega)]; exact o1, by rw [mset_ne (by omega)]; exact e48, by rw [mset_ne (by omega)]; exact sl, RVC_s sfC_refl k2 hV⟩, hC, ?_, fun j j0 j1 => mset_ne (by omega), Nat.le_refl _, by rw [mset_ne (by omega)]; exact Int.le_refl _, by rw [mset_ne (by omega)]; exact Int.le_refl _, sfC_refl, k2⟩
        rw [mset_eq, z45 (by decide)]
        exact hP
theorem S_and {kc : Int → Int → zHC → Option (Int × zHC)} {km : zHM → Option (Int × zHM)} {d : Int} (hK : ∀ h m n, zSI h m n d → zSO h m n d (kc 0 d h) (km m)) {h : zHC} {m : zHM} {n : Nat} (hI : zSI h m n d) : zSO h m n d (F150b kc 0 d h) (F282b km m) := by
  have big := zFu_big
  unfold F150b F282b
  rcases hK h m n hI with ⟨h2, m2, n2, Q, b1, b2, b3, b4, b5, b6, b7, b8, b9, b10, b11⟩ | ⟨h2, m2, b1, b2, b3, b4, b5⟩
  · rw [b1, b2, Option.bind_some, Option.bind_some, if_pos (show ¬ (1 : Int) = 0 by decide), if_pos (show ¬ (1 : Int) = 0 by decide)]
    dsimp only
    have p0 := b3.2.2.2.2.2.1
    have p1 := b3.2.2.2.2.2.2.1
    have s0 := hI.2.2.2.2.2.2.2.2.1
    rcases S_andLoop hK zFu zFu 0 (m2 49 0) h2 m2 n2 (zCl (h 386 1) n) Q b3 (by omega) b4 b5 (by decide) p0 (by omega) (by omega) with ⟨h4, m4, n4, R, d1, d2, d3, d4, d5, d6, d7, d8, d9, d10, d11⟩ | ⟨h4, m4, d1, d2, d3, d4, d5⟩
    · exact Or.inl ⟨h4, m4, n4, R, d1, d2, d3, d4, d5, fun j j0 j1 => by rw [d6 j j0 (by omega), b6 j j0 j1], by omega, by omega, by omega, sfC_trans b10 d10, sfM_trans b11 d11⟩
    · exact Or.inr ⟨h4, m4, d1, d2, d3, sfC_trans b10 d4, sfM_trans b11 d5⟩
  · rw [b1, b2, Option.bind_some, Option.bind_some, if_neg (show ¬ ¬ (0 : Int) = 0 by decide), if_neg (show ¬ ¬ (0 : Int) = 0 by decide)]
    exact Or.inr ⟨h2, m2, rfl, rfl, b3, b4, b5⟩
theorem S_orLoop {kc : Int → Int → zHC → Option (Int × zHC)} {km : zHM → Option (Int × zHM)} {d : Int} (hK : ∀ h m n, zSI h m n d → zSO h m n d (F150b kc 0 d h) (F282b km m)) : ∀ (N N' : Nat) (i a : Int) (h : zHC) (m : zHM) (n : Nat) (C P : List (Int × Int × Int)), zSI h m n d → (n : Int) + 1 ≤ 2 * m 47 0 → zCl (h 386 1) n = C ++ P → zPT P (m 45) n a → 0 ≤ i → i ≤ m 47 0 → 21 - m 47 0 < N → 21 - m 47 0 < N' → (∃ h' m' n' P', F149b_0 kc N 0 d i h = some (1, h') ∧ F281b_0 km N' a m = some (1, m') ∧ zSI h' m' n' d ∧ zCl (h' 386 1) n' = C ++ P' ∧ zPT P' (m' 45) n' (m' 49 0) ∧ (∀ j, 0 ≤ j → j < 4 * (n : Int) → m' 45 j = m 45 j) ∧ n ≤ n' ∧ m 47 0 ≤ m' 47 0 ∧ 2 * m 47 0 + (n' : Int) ≤ 2 * m' 47 0 + (n : Int) ∧ sfC h h' ∧ sfM m m') ∨ (∃ h' m', F149b_0 kc N 0 d i h = some (0, h') ∧ F281b_0 km N' a m = some (0, m') ∧ FT h' m' ∧ sfC h h' ∧ sfM m m') := by
  intro N
  induction N with
  | zero => intro N' i a h m n C P hI; have := hI.2.2.2.2.2.2.1; omega
  | succ N ih =>
    intro N' i a h m n C P hI hs hC hP i0 i1 g1 g2
    cases N' with
    | zero => have := hI.2.2.2.2.2.2.1; omega
    | succ N' =>
      obtain ⟨hT, hf, e385, e46, e384, o0, o1, e48, sl, hV⟩ := id hI
      rw [F149b_0, F281b_0, if_neg (show ¬ 940 ≤ i by omega), E152, E181 hT (by decide) (by decide), Option.bind_some, Option.bind_some]
      by_cases q : h 324 0 0 = 3 ∧ h 326 0 0 = 10
      · rw [if_pos q, if_neg (show ¬ (1 : Int) = 0 by decide), if_neg (show ¬ (1 : Int) = 0 by decide)]
        obtain ⟨h1, m1, a1, a2, a3, a4, a5⟩ := L21h (h2 := h) (m2 := m) hT (by omega) (fun _ _ _ _ => rfl) (fun _ _ _ => rfl)
        rw [a1, a2, Option.bind_some, Option.bind_some]
        have k1 : sfC h h1 := fun r n j hne => a4 r n j (by omega)
        have k2 : sfM m m1 := fun r j hne => a5 r j (by omega)
        have z47 : m1 47 0 = m 47 0 := a5 47 0 (by omega)
        have I1 : zSI h1 m1 n d := ⟨a3, by rw [a4 322 0 0 (by omega), a5 10 0 (by omega)]; exact hf, by rw [a4 385 1 0 (by omega)]; exact e385, by rw [a5 46 0 (by omega)]; exact e46, by rw [a4 384 1 0 (by omega), z47]; exact e384, by omega, by omega, by rw [a5 48 0 (by omega)]; exact e48, by omega, RVC_s k1 k2 hV⟩
        have z386 : h1 386 1 = h 386 1 := by funext j; exact a4 386 1 j (by omega)
        have z451 : m1 45 = m 45 := by funext j; exact a5 45 j (by omega)
        rcases hK h1 m1 n I1 with ⟨h2, m2, n2, Q, b1, b2, b3, b4, b5, b6, b7, b8, b9, b10, b11⟩ | ⟨h2, m2, b1, b2, b3, b4, b5⟩
        · rw [b1, b2, Option.bind_some, Option.bind_some, if_pos (show ¬ (1 : Int) = 0 by decide), if_pos (show ¬ (1 : Int) = 0 by decide)]
          dsimp only
          obtain ⟨iT, jf, i385, i46, i384, p0, p1, i48, isl, iV⟩ := id b3
          have hP2 : zPT P (m2 45) n2 a := zPT_keep hP b7 (fun j j0 j1 => by rw [b6 j j0 j1, z451])
          obtain ⟨h3, m3, c1, c2, c3, c4, c5, c6, c7, c8, c9⟩ := L_or (h := h2) (m := m2) (C := C) (P := P) (Q := Q) i385 (by omega) i46 (by omega) (by rw [b4, z386, hC]) hP2 b5
          rw [c1, c2, Option.bind_some, Option.bind_some, wadd_eq (x := i) (by omega) (by omega)]
          dsimp only
          have k3 : sfC h h3 := fun r n j hne => by rw [c8 r n j (by omega), b10 r n j hne, k1 r n j hne]
          have k4 : sfM m m3 := fun r j hne => by rw [c9 r j (by omega), b11 r j hne, k2 r j hne]
          have z473 : m3 47 0 = m2 47 0 := c9 47 0 (by omega)
          have I3 : zSI h3 m3 (n2 + 1) d := ⟨TR_keep iT (fun r j _ _ => c8 r 0 j (by omega)) (fun r j g => c9 r j (by omega)), by rw [c8 322 0 0 (by omega), c9 10 0 (by omega)]; exact jf, c3, c4, by rw [c8 384 1 0 (by omega), z473]; exact i384, by omega, by omega, by rw [c9 48 0 (by omega)]; exact i48, by omega, RVC_s k3 k4 hV⟩
          rcases ih N' (i + 1) (n2 : Int) h3 m3 (n2 + 1) C _ I3 (by omega) c5 c6 (by omega) (by omega) (by omega) (by omega) with ⟨h4, m4, n4, R, d1, d2, d3, d4, d5, d6, d7, d8, d9, d10, d11⟩ | ⟨h4, m4, d1, d2, d3, d4, d5⟩
          · refine Or.inl ⟨h4, m4, n4, R, d1, d2, d3, d4, d5, fun j j0 j1 => ?_, by omega, by omega, by omega, sfC_trans k3 d10, sfM_trans k4 d11⟩
            rw [d6 j j0 (by omega), c7 j j0 (by omega), b6 j j0 j1, z451]
          · exact Or.inr ⟨h4, m4, d1, d2, d3, sfC_trans k3 d4, sfM_trans k4 d5⟩
        · rw [b1, b2, Option.bind_some, Option.bind_some, if_neg (show ¬ ¬ (0 : Int) = 0 by decide), if_neg (show ¬ ¬ (0 : Int) = 0 by decide)]
          exact Or.inr ⟨h2, m2, rfl, rfl, b3, sfC_trans k1 b4, sfM_trans k2 b5⟩
      · rw [if_neg q, if_pos rfl, if_pos rfl]
        have k2 : sfM m (mset m 49 0 a) := fun r j hne => mset_ne (by omega)
        refine Or.inl ⟨h, mset m 49 0 a, n, P, rfl, rfl, ⟨TR_keep hT (fun _ _ _ _ => rfl) (fun r j g => mset_ne (by omega)), by rw [mset_ne (by omega)]; exact hf, e385, by rw [mset_ne (by omega)]; exact e46, by rw [mset_ne (by omega)]; exact e384, by rw [mset_ne (by omega)]; exact o0, by rw [mset_ne (by omega)]; exact o1, by rw [mset_ne (by omega)]; exact e48, by rw [mset_ne (by omega)]; exact sl, RVC_s sfC_refl k2 hV⟩, hC, ?_, fun j j0 j1 => mset_ne (by omega), Nat.le_refl _, by rw [mset_ne (by omega)]; exact Int.le_refl _, by rw [mset_ne (by omega)]; exact Int.le_refl _, sfC_refl, k2⟩
        rw [mset_eq, z45 (by decide)]
        exact hP
theorem S_or {kc : Int → Int → zHC → Option (Int × zHC)} {km : zHM → Option (Int × zHM)} {d : Int} (hK : ∀ h m n, zSI h m n d → zSO h m n d (F150b kc 0 d h) (F282b km m)) {h : zHC} {m : zHM} {n : Nat} (hI : zSI h m n d) : zSO h m n d (F149b kc 0 d h) (F281b km m) := by
  have big := zFu_big
  unfold F149b F281b
  rcases hK h m n hI with ⟨h2, m2, n2, Q, b1, b2, b3, b4, b5, b6, b7, b8, b9, b10, b11⟩ | ⟨h2, m2, b1, b2, b3, b4, b5⟩
  · rw [b1, b2, Option.bind_some, Option.bind_some, if_pos (show ¬ (1 : Int) = 0 by decide), if_pos (show ¬ (1 : Int) = 0 by decide)]
    dsimp only
    have p0 := b3.2.2.2.2.2.1
    have p1 := b3.2.2.2.2.2.2.1
    have s0 := hI.2.2.2.2.2.2.2.2.1
    rcases S_orLoop hK zFu zFu 0 (m2 49 0) h2 m2 n2 (zCl (h 386 1) n) Q b3 (by omega) b4 b5 (by decide) p0 (by omega) (by omega) with ⟨h4, m4, n4, R, d1, d2, d3, d4, d5, d6, d7, d8, d9, d10, d11⟩ | ⟨h4, m4, d1, d2, d3, d4, d5⟩
    · exact Or.inl ⟨h4, m4, n4, R, d1, d2, d3, d4, d5, fun j j0 j1 => by rw [d6 j j0 (by omega), b6 j j0 j1], by omega, by omega, by omega, sfC_trans b10 d10, sfM_trans b11 d11⟩
    · exact Or.inr ⟨h4, m4, d1, d2, d3, sfC_trans b10 d4, sfM_trans b11 d5⟩
  · rw [b1, b2, Option.bind_some, Option.bind_some, if_neg (show ¬ ¬ (0 : Int) = 0 by decide), if_neg (show ¬ ¬ (0 : Int) = 0 by decide)]
    exact Or.inr ⟨h2, m2, rfl, rfl, b3, b4, b5⟩
