/-! One step more of the code, one node more of the tree. -/
theorem E153 {h : zHC} {v1 v2 v3 : Int} {n : Nat} (e : h 385 1 0 = (n : Int)) (n1 : n < 40) : ∃ h', F153 1 v1 v2 v3 h = some h' ∧ h' 385 1 0 = ((n + 1 : Nat) : Int) ∧ zCl (h' 386 1) (n + 1) = zCl (h 386 1) n ++ [(v1, v2, v3)] ∧ (∀ r k j, ¬ ((r = 385 ∨ r = 386) ∧ k = 1) → h' r k j = h r k j) := by
  unfold F153
  rw [e, if_neg (by omega), wmul_eq (by omega) (by omega), wadd_eq (x := (n : Int) * 3) (by omega) (by omega), wadd_eq (x := (n : Int) * 3) (by omega) (by omega), zG_t (by omega), zG_t (by omega), zG_t (by omega)]
  refine ⟨_, rfl, ?_, ?_, fun r k j g => ?_⟩
  · rw [hset_eq, wadd_eq (by omega) (by omega)]
    omega
  · rw [zCl]
    congr 1
    · refine zCl_cong (fun j j0 j1 => ?_)
      rw [hset_ne (by omega), hset_ne (by omega), hset_ne (by omega), hset_ne (by omega)]
    · rw [hset_ne (by omega), hset_ne (by omega), hset_ne (by omega), hset_eq, hset_ne (by omega), hset_ne (by omega), hset_eq, hset_ne (by omega), hset_eq]
  · rw [hset_ne (by omega), hset_ne (by omega), hset_ne (by omega), hset_ne (by omega)]
theorem E286 {m : zHM} {v1 v2 v3 v4 : Int} {N : Nat} (e : m 46 0 = (N : Int)) (n1 : N < 60) : ∃ m', F286 v1 v2 v3 v4 m = some ((N : Int), m') ∧ m' 46 0 = ((N + 1 : Nat) : Int) ∧ m' 45 (4 * (N : Int)) = v1 ∧ m' 45 (4 * (N : Int) + 1) = v2 ∧ m' 45 (4 * (N : Int) + 2) = v3 ∧ m' 45 (4 * (N : Int) + 3) = v4 ∧ (∀ j, 0 ≤ j → j < 4 * (N : Int) → m' 45 j = m 45 j) ∧ (∀ r j, ¬ (r = 45 ∨ r = 46) → m' r j = m r j) := by
  unfold F286
  rw [e, wmul_eq (by omega) (by omega), wadd_eq (x := 4 * (N : Int)) (by omega) (by omega), wadd_eq (x := 4 * (N : Int)) (by omega) (by omega), wadd_eq (x := 4 * (N : Int)) (by omega) (by omega), wadd_eq (x := (N : Int)) (by omega) (by omega), wsub_eq (by omega) (by omega), zG_t (by omega), zG_t (by omega), zG_t (by omega), zG_t (by omega), Int.add_sub_cancel]
  refine ⟨_, rfl, by rw [mset_eq]; omega, ?_, ?_, ?_, ?_, fun j j0 j1 => ?_, fun r j g => ?_⟩
  · rw [mset_ne (by omega), mset_ne (by omega), mset_ne (by omega), mset_ne (by omega), mset_eq]
  · rw [mset_ne (by omega), mset_ne (by omega), mset_ne (by omega), mset_eq]
  · rw [mset_ne (by omega), mset_ne (by omega), mset_eq]
  · rw [mset_ne (by omega), mset_eq]
  · rw [mset_ne (by omega), mset_ne (by omega), mset_ne (by omega), mset_ne (by omega), mset_ne (by omega)]
  · rw [mset_ne (by omega), mset_ne (by omega), mset_ne (by omega), mset_ne (by omega), mset_ne (by omega)]
