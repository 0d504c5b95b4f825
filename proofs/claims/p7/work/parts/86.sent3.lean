/-! The tree copied into the model's own row. -/
theorem F280_0s : ∀ (n : Nat) (q : Int) (m0 m : zHM), 0 ≤ q → q ≤ 240 → 240 - q < n → (∀ j, 0 ≤ j → j < q → m 14 (1900 + j) = m0 45 j) → (∀ r j, ¬ (r = 14 ∧ 1900 ≤ j ∧ j < 2140) → m r j = m0 r j) → ∃ m', F280_0 n q m = some (m0 47 0, m') ∧ (∀ j, 0 ≤ j → j < 240 → m' 14 (1900 + j) = m0 45 j) ∧ (∀ r j, ¬ (r = 14 ∧ 1900 ≤ j ∧ j < 2140) → m' r j = m0 r j) := by
  intro n
  induction n with
  | zero => intro q m0 m q0 q1 g; omega
  | succ n ih =>
    intro q m0 m q0 q1 g e2 e3
    rw [F280_0]
    by_cases e : q = 240
    · subst e
      rw [if_pos (by omega), e3 47 0 (by omega)]
      exact ⟨m, rfl, e2, e3⟩
    · rw [if_neg (by omega), wadd_eq (x := 1900) (by omega) (by omega), zG_t (by omega), zG_t (by omega), wadd_eq (by omega) (by omega)]
      refine ih (q + 1) m0 _ (by omega) (by omega) (by omega) (fun j j0 j1 => ?_) (fun r j hne => ?_)
      · by_cases u : j = q
        · subst u
          rw [mset_eq]
          exact e3 45 _ (by omega)
        · rw [mset_ne (by omega)]
          exact e2 j j0 (by omega)
      · rw [mset_ne (by omega)]
        exact e3 r j hne
/-- code and tree that agree are a sentence told -/
theorem RSn_new {h : zHC} {i : Int} {a nd : Int → Int} {n N : Nat} (e1 : ¬ h 384 i 0 = 0) (e0 : 0 ≤ h 384 i 0) (e2 : h 385 i 0 = (n : Int)) (n1 : n ≤ 40) (a1 : ¬ a 1898 = 0) (hP : zPT (zCl (h 386 i) n) nd N (a 1899)) (hN : N ≤ 60) (ha : ∀ j, 0 ≤ j → j < 240 → a (1900 + j) = nd j) : RSn h i a := by
  refine ⟨e0, ⟨fun z => absurd z e1, fun z => absurd z a1⟩, by omega, by omega, fun _ f => ?_⟩
  obtain ⟨b, b1, b2⟩ := hP f
  refine ⟨b, ?_, ?_⟩
  · rw [e2, show ((n : Int)).toNat = n by omega]
    exact b1 []
  · exact zEv_le (b2 (fun k => a (1900 + k)) (fun j j0 j1 => ha j j0 (by omega))) 64 (by omega)
