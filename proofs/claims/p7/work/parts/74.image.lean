/-! image. -/
theorem L52 {h : zHC} {i j : Int} (hij : i ≠ j) : ∃ h', F52 i j h = some h' ∧ (∀ r, 576 ≤ r → r ≤ 582 → h' r i 0 = h r j 0) ∧ (∀ r q, 583 ≤ r → r ≤ 589 → 0 ≤ q → q < 6 → h' r i q = h r j q) ∧ (∀ r q, 590 ≤ r → r ≤ 592 → 0 ≤ q → q < 20 → h' r i q = h r j q) ∧ (∀ q, 0 ≤ q → q < 8 → h' 593 i q = h 593 j q) ∧ (∀ r q, 594 ≤ r → r ≤ 595 → 0 ≤ q → q < 6 → h' r i q = h r j q) ∧ (∀ r n q, ¬ (576 ≤ r ∧ r ≤ 595 ∧ n = i) → h' r n q = h r n q) := by
  unfold F52
  refine ⟨_, rfl, fun r r0 r1 => ?_, fun r q r0 r1 q0 q1 => ?_, fun r q r0 r1 q0 q1 => ?_, fun q q0 q1 => ?_, fun r q r0 r1 q0 q1 => ?_, fun r n q hne => ?_⟩
  · have e : r = 576 ∨ r = 577 ∨ r = 578 ∨ r = 579 ∨ r = 580 ∨ r = 581 ∨ r = 582 := by omega
    rcases e with e | e | e | e | e | e | e <;> subst e <;> (repeat (first | rw [hcpy_ne (by omega)] | rw [hset_ne (by omega)])) <;> exact hset_eq
  · have e : r = 583 ∨ r = 584 ∨ r = 585 ∨ r = 586 ∨ r = 587 ∨ r = 588 ∨ r = 589 := by omega
    rcases e with e | e | e | e | e | e | e <;> subst e <;> (repeat rw [hcpy_ne (by omega)]) <;> rw [hcpy_eq q0 q1] <;> (repeat (first | rw [hcpy_ne (by omega)] | rw [hset_ne (by omega)]))
  · have e : r = 590 ∨ r = 591 ∨ r = 592 := by omega
    rcases e with e | e | e <;> subst e <;> (repeat rw [hcpy_ne (by omega)]) <;> rw [hcpy_eq q0 q1] <;> (repeat (first | rw [hcpy_ne (by omega)] | rw [hset_ne (by omega)]))
  · (repeat rw [hcpy_ne (by omega)])
    rw [hcpy_eq q0 q1]
    (repeat (first | rw [hcpy_ne (by omega)] | rw [hset_ne (by omega)]))
  · have e : r = 594 ∨ r = 595 := by omega
    rcases e with e | e <;> subst e <;> (repeat rw [hcpy_ne (by omega)]) <;> rw [hcpy_eq q0 q1] <;> (repeat (first | rw [hcpy_ne (by omega)] | rw [hset_ne (by omega)]))
  · (repeat (first | rw [hcpy_ne (by omega)] | rw [hset_ne (by omega)]))
theorem L155 {h : zHC} {i j : Int} {a : Int → Int} (hij : i ≠ j) (hR : RSn h j a) : ∃ h', F155 i j h = some h' ∧ RSn h' i a ∧ (∀ r n q, ¬ (384 ≤ r ∧ r ≤ 386 ∧ n = i) → h' r n q = h r n q) := by
  have r3 := hR.2.2.1
  have r4 := hR.2.2.2.1
  unfold F155
  rw [hset_eq, wmul_eq (by omega) (by omega), zG_t (by omega), zG_t (by omega), zG_t (by omega)]
  refine ⟨_, rfl, RSn_cong ?_ ?_ (fun q q0 q1 => ?_) (fun _ _ _ => rfl) hR, fun r n q hne => ?_⟩
  · rw [hcpy_ne (by omega), hset_ne (by omega), hset_eq]
  · rw [hcpy_ne (by omega), hset_eq]
  · rw [hcpy_eq (by omega) (by omega), hset_ne (by omega), hset_ne (by omega)]
  · rw [hcpy_ne (by omega), hset_ne (by omega), hset_ne (by omega)]
theorem F292_1s {k : Int} : ∀ (n : Nat) (q : Int) (m0 m : zHM), 0 ≤ k → k < 2 → 0 ≤ q → q ≤ 12 → 12 - q < n → (∀ j, 0 ≤ j → j < q → m 21 (12 * k + j) = m0 19 j) → (∀ r j, ¬ (r = 21 ∧ 12 * k ≤ j ∧ j < 12 * k + 12) → m r j = m0 r j) → ∃ m', F292_1 n k q m = some (1, m') ∧ m' 22 k = 1 ∧ (∀ j, 0 ≤ j → j < 12 → m' 21 (12 * k + j) = m0 19 j) ∧ (∀ r j, ¬ ((r = 21 ∧ 12 * k ≤ j ∧ j < 12 * k + 12) ∨ (r = 22 ∧ j = k)) → m' r j = m0 r j) := by
  intro n
  induction n with
  | zero => intro q m0 m K0 K1 q0 q1 g; omega
  | succ n ih =>
    intro q m0 m K0 K1 q0 q1 g e2 e3
    rw [F292_1]
    by_cases e : q = 12
    · subst e
      rw [if_pos (by omega), zG_t (by omega)]
      refine ⟨_, rfl, mset_eq, fun j j0 j1 => ?_, fun r j hne => ?_⟩
      · rw [mset_ne (by omega)]
        exact e2 j j0 j1
      · rw [mset_ne (by omega)]
        exact e3 r j (by omega)
    · rw [if_neg (by omega), wmul_eq (by omega) (by omega), wadd_eq (x := 12 * k) (by omega) (by omega), zG_t (by omega), zG_t (by omega), wadd_eq (by omega) (by omega)]
      refine ih (q + 1) m0 _ K0 K1 (by omega) (by omega) (by omega) (fun j j0 j1 => ?_) (fun r j hne => ?_)
      · by_cases u : j = q
        · subst u
          rw [mset_eq]
          exact e3 19 _ (by omega)
        · rw [mset_ne (by omega)]
          exact e2 j j0 (by omega)
      · rw [mset_ne (by omega)]
        exact e3 r j hne
theorem F292_0s {k : Int} : ∀ (n : Nat) (q : Int) (m0 m : zHM), 0 ≤ k → k < 2 → 0 ≤ q → q ≤ 2140 → 2140 - q < n → (∀ j, 0 ≤ j → j < q → m 16 (2140 * k + j) = m0 14 j) → (∀ r j, ¬ (r = 16 ∧ 2140 * k ≤ j ∧ j < 2140 * k + 2140) → m r j = m0 r j) → ∃ m', F292_0 n k q m = F292_1 zFu k 0 m' ∧ (∀ j, 0 ≤ j → j < 2140 → m' 16 (2140 * k + j) = m0 14 j) ∧ (∀ r j, ¬ (r = 16 ∧ 2140 * k ≤ j ∧ j < 2140 * k + 2140) → m' r j = m0 r j) := by
  intro n
  induction n with
  | zero => intro q m0 m K0 K1 q0 q1 g; omega
  | succ n ih =>
    intro q m0 m K0 K1 q0 q1 g e2 e3
    rw [F292_0]
    by_cases e : q = 2140
    · subst e
      rw [if_pos (by omega)]
      exact ⟨m, rfl, e2, e3⟩
    · rw [if_neg (by omega), wmul_eq (by omega) (by omega), wadd_eq (x := 2140 * k) (by omega) (by omega), zG_t (by omega), zG_t (by omega), wadd_eq (by omega) (by omega)]
      refine ih (q + 1) m0 _ K0 K1 (by omega) (by omega) (by omega) (fun j j0 j1 => ?_) (fun r j hne => ?_)
      · by_cases u : j = q
        · subst u
          rw [mset_eq]
          exact e3 14 _ (by omega)
        · rw [mset_ne (by omega)]
          exact e2 j j0 (by omega)
      · rw [mset_ne (by omega)]
        exact e3 r j hne
