/-! bytes put by both. -/
theorem qcmp_le {x : Int} (x0 : 0 ≤ x) : qcmp x 0 ≤ 0 ↔ x = 0 := by
  unfold qcmp
  split
  · omega
  · split
    · omega
    · omega
theorem zPk_dig : ∀ (l : List Int) (i : Nat), zOkL l → zPk 32 l / (32 ^ i : Nat) % 32 = l.getD i 0 := by
  intro l
  induction l with
  | nil =>
    intro i _
    show 0 / _ % 32 = (0 : Int)
    rw [Int.zero_ediv]
    rfl
  | cons d r ih =>
    intro i h
    have hd := h d (List.mem_cons_self ..)
    have hr : zOkL r := fun x hx => h x (List.mem_cons_of_mem _ hx)
    cases i with
    | zero =>
      show (d + 32 * zPk 32 r) / (1 : Int) % 32 = d
      omega
    | succ i =>
      show (d + 32 * zPk 32 r) / ((32 ^ (i + 1) : Nat) : Int) % 32 = r.getD i 0
      rw [← ih i hr, Nat.pow_succ, Nat.mul_comm, Int.natCast_mul, ← Int.ediv_ediv_of_nonneg (by decide)]
      rw [show (d + 32 * zPk 32 r) / ((32 : Nat) : Int) = zPk 32 r by omega]
def zWr (h : zHC) (m : zHM) : Prop := h 718 0 0 = m 44 0 ∧ 0 ≤ m 44 0 ∧ ∀ j, 0 ≤ j → j < m 44 0 → h 717 0 j = m 42 j
def wfC (h h' : zHC) : Prop := ∀ r n j, ¬ (r = 717 ∨ r = 718) → h' r n j = h r n j
def wfM (m m' : zHM) : Prop := ∀ r j, ¬ (r = 42 ∨ r = 44) → m' r j = m r j
theorem W_put {h : zHC} {m : zHM} {v : Int} (hW : zWr h m) (g : m 44 0 < 96) : ∃ h' m', F144 v h = some h' ∧ F277 v m = some m' ∧ zWr h' m' ∧ m' 44 0 = m 44 0 + 1 ∧ wfC h h' ∧ wfM m m' := by
  obtain ⟨w1, w2, w3⟩ := hW
  unfold F144 F277
  rw [w1, if_neg (by omega), zG_t (by omega), zG_t (by omega), wadd_eq (by omega) (by omega)]
  refine ⟨_, _, rfl, rfl, ⟨by rw [hset_eq, mset_eq], by rw [mset_eq]; omega, fun j j0 j1 => ?_⟩, mset_eq, fun r n j q => by rw [hset_ne (by omega), hset_ne (by omega)], fun r j q => by rw [mset_ne (by omega), mset_ne (by omega)]⟩
  rw [mset_eq] at j1
  rw [hset_ne (by omega), mset_ne (by omega)]
  by_cases u : j = m 44 0
  · rw [u, hset_eq, mset_eq]
  · rw [hset_ne (by omega), mset_ne (by omega)]
    exact w3 j j0 (by omega)
theorem W_num1 {h : zHC} {m : zHM} {v : Int} (hW : zWr h m) (g : m 44 0 < 95) (v0 : 0 ≤ v) (v1 : v < 1000) : ∃ h' m', F145_0 v h = some h' ∧ F278_0 v m = some m' ∧ zWr h' m' ∧ m' 44 0 ≤ m 44 0 + 2 ∧ (v < 10 → m' 44 0 ≤ m 44 0 + 1) ∧ wfC h h' ∧ wfM m m' := by
  unfold F145_0 F278_0 F145_1 F278_1
  by_cases q : v < 10
  · rw [if_pos q, if_pos (show v ≤ 9 by omega)]
    obtain ⟨h1, m1, a1, a2, a3, a4, a5, a6⟩ := W_put (v := wadd 48 (wrem v 10)) hW (by omega)
    rw [a1, a2]
    exact ⟨_, _, rfl, rfl, a3, by omega, fun _ => by omega, a5, a6⟩
  · rw [if_neg q, if_neg (show ¬ v ≤ 9 by omega)]
    obtain ⟨h1, m1, a1, a2, a3, a4, a5, a6⟩ := W_put (v := wadd 48 (wrem (wdiv v 10) 10)) hW (by omega)
    obtain ⟨h2, m2, b1, b2, b3, b4, b5, b6⟩ := W_put (v := wadd 48 (wrem v 10)) a3 (by omega)
    rw [a1, a2, Option.bind_some, Option.bind_some, b1, b2]
    exact ⟨_, _, rfl, rfl, b3, by omega, fun z => absurd z q, fun r n j g => by rw [b5 r n j g, a5 r n j g], fun r j g => by rw [b6 r j g, a6 r j g]⟩
theorem W_num {h : zHC} {m : zHM} {v : Int} (hW : zWr h m) (g : m 44 0 < 92) (v0 : 0 ≤ v) (v1 : v < 1000) : ∃ h0 h' m', F144 32 h = some h0 ∧ F145 v h0 = some h' ∧ F278 v m = some m' ∧ wfC h h0 ∧ zWr h' m' ∧ m' 44 0 ≤ m 44 0 + 4 ∧ (v < 10 → m' 44 0 ≤ m 44 0 + 2) ∧ wfC h h' ∧ wfM m m' := by
  obtain ⟨h0, m0, a1, a2, a3, a4, a5, a6⟩ := W_put (v := 32) hW (by omega)
  unfold F145 F278
  rw [a2, Option.bind_some]
  by_cases q : v < 100
  · obtain ⟨h1, m1, b1, b2, b3, b4, b5, b6, b7⟩ := W_num1 (v := v) a3 (by omega) v0 v1
    refine ⟨h0, h1, m1, a1, ?_, ?_, a5, b3, by omega, fun z => by have := b5 z; omega, fun r n j g => by rw [b6 r n j g, a5 r n j g], fun r j g => by rw [b7 r j g, a6 r j g]⟩
    · rw [if_pos q, b1]
    · rw [if_pos (show v ≤ 99 by omega), b2]
  · obtain ⟨h1, m1, b1, b2, b3, b4, b5, b6⟩ := W_put (v := wadd 48 (wdiv v 100)) a3 (by omega)
    obtain ⟨h2, m2, c1, c2, c3, c4, c5, c6, c7⟩ := W_num1 (v := v) b3 (by omega) v0 v1
    refine ⟨h0, h2, m2, a1, ?_, ?_, a5, c3, by omega, fun z => by omega, fun r n j g => by rw [c6 r n j g, b5 r n j g, a5 r n j g], fun r j g => by rw [c7 r j g, b6 r j g, a6 r j g]⟩
    · rw [if_neg q, b1, Option.bind_some, c1]
    · rw [if_neg (show ¬ v ≤ 99 by omega), b2, Option.bind_some, c2]
