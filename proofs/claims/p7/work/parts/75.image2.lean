/-! image and restore, whole. -/
theorem C_image {hc : zHC} {hm : zHM} {v : Int} (h : RG hc hm) : ∃ r hc' hm', F160 v hc = some (r, hc') ∧ F292 v hm = some (r, hm') ∧ RG hc' hm' := by
  have big := zFu_big
  unfold F160 F292
  rw [E188]
  simp only [Option.bind_some]
  by_cases q0 : v < 0
  · rw [if_pos q0, if_neg (show ¬ (0 ≤ v ∧ v ≤ 1) by omega), zn00]
    exact ⟨_, _, _, rfl, rfl, RG_0 h⟩
  · rw [if_neg q0]
    by_cases q1 : v < 2
    · rw [if_pos q1, if_pos (show 0 ≤ v ∧ v ≤ 1 by omega), zn10, zG_t (by omega)]
      have b := h
      obtain ⟨b1, b2, b3, b4, b5, b6, b7, b8, b9⟩ := b
      obtain ⟨h1, c1, c2, c3, c4, c5, c6, c7⟩ := L52 (h := hc) (i := v + 2) (j := 0) (by omega)
      have hV1 : VR h1 (v + 2) (hm 14) (hm 19) := VR_cong c2 c3 c4 c5 c6 (fun _ _ _ => rfl) (fun _ _ _ => rfl) b2.1
      have hC1 : CR h1 0 (hm 14) := CR_keep (fun r j _ _ => c7 r 0 j (by omega)) (fun _ _ _ => rfl) rfl rfl (VR_n b2.1) b2.2
      obtain ⟨h2, d1, d2, d3⟩ := L71 (i := v + 10) (j := 0) (by omega) hC1 (VR_n b2.1)
      have hS2 : RSn h2 0 (hm 14) := RSn_cong (by rw [d3 384 0 0 (by omega), c7 384 0 0 (by omega)]) (by rw [d3 385 0 0 (by omega), c7 385 0 0 (by omega)]) (fun j _ _ => by rw [d3 386 0 j (by omega), c7 386 0 j (by omega)]) (fun _ _ _ => rfl) b5
      obtain ⟨h3, e1, e2, e3⟩ := L155 (i := v + 2) (j := 0) (by omega) hS2
      obtain ⟨m1, u1, u2, u3⟩ := F292_0s (k := v) zFu 0 (mset hm 0 0 0) (mset hm 0 0 0) (by omega) q1 (by decide) (by decide) (by omega) (fun j j0 j1 => by omega) (fun _ _ _ => rfl)
      obtain ⟨m2, w1, w2, w3, w4⟩ := F292_1s (k := v) zFu 0 m1 m1 (by omega) q1 (by decide) (by decide) (by omega) (fun j j0 j1 => by omega) (fun _ _ _ => rfl)
      rw [c1, Option.bind_some, zG_t (by omega), d1, Option.bind_some, zG_t (by omega), e1, Option.bind_some, zG_t (by omega), u1, w1]
      have f1 : ∀ r n j, ¬ ((576 ≤ r ∧ r ≤ 595 ∧ n = v + 2) ∨ (64 ≤ r ∧ r ≤ 72 ∧ n = v + 10) ∨ (384 ≤ r ∧ r ≤ 386 ∧ n = v + 2) ∨ (r = 192 ∧ n = v ∧ j = 0)) → (hset h3 192 v 0 1) r n j = hc r n j := fun r n j g => by rw [hset_ne (by omega), e3 r n j (by omega), d3 r n j (by omega), c7 r n j (by omega)]
      have f2 : ∀ r j, ¬ (r = 0 ∨ (r = 16 ∧ 2140 * v ≤ j ∧ j < 2140 * v + 2140) ∨ (r = 21 ∧ 12 * v ≤ j ∧ j < 12 * v + 12) ∨ (r = 22 ∧ j = v)) → m2 r j = hm r j := fun r j g => by rw [w4 r j (by omega), u3 r j (by omega), mset_ne (by omega)]
      refine ⟨_, _, _, rfl, rfl, RTp_keep (fun r j _ _ => f1 r 0 j (by omega)) (fun r j g => f2 r j (by omega)) b1, RVC_keep (fun r j g => f1 r 0 j (by omega)) (fun j _ _ => f2 14 j (by omega)) (fun j => f2 19 j (by omega)) b2, RUn_keep (fun r n j g => f1 r n j (by omega)) (fun j _ _ => f2 14 j (by omega)) (fun r j g => f2 r j (by omega)) (VR_n b2.1) b3, fun k k0 k1 => ?_, RSn_cong (f1 384 0 0 (by omega)) (f1 385 0 0 (by omega)) (fun j _ _ => f1 386 0 j (by omega)) (fun j _ _ => f2 14 j (by omega)) b5, RPc_keep (fun r j g => f1 r 0 j (by omega)) (fun r j g => f2 r j (by omega)) b6, RSt_keep (fun r j g => f1 r 0 j (by omega)) (fun j => f2 41 j (by omega)) b7, RWr_keep (fun r j g => f1 r 0 j (by omega)) (fun r j g => f2 r j (by omega)) b8, RKw_keep (fun j => f1 330 0 j (by omega)) b9⟩
      by_cases e : k = v
      · subst e
        rw [hset_eq, w2]
        refine ⟨rfl, Or.inr rfl, fun _ => ?_⟩
        have e16 : ∀ j, 0 ≤ j → j < 2140 → m2 16 (2140 * k + j) = hm 14 j := fun j j0 j1 => by rw [w4 16 _ (by omega), u2 j j0 j1, mset_ne (by omega)]
        have e21 : ∀ j, 0 ≤ j → j < 12 → m2 21 (12 * k + j) = hm 19 j := fun j j0 j1 => by rw [w3 j j0 j1, u3 19 j (by omega), mset_ne (by omega)]
        rw [show 2 + k = k + 2 by omega, show 10 + k = k + 10 by omega]
        refine ⟨VR_keep (fun r j g0 g1 => ?_) (fun j j0 j1 => e16 j j0 (by omega)) e21 hV1, CR_keep (fun r j g0 g1 => ?_) (fun j j0 j1 => e16 j (by omega) (by omega)) (e16 2 (by decide) (by decide)) (e16 3 (by decide) (by decide)) (VR_n b2.1) d2, RSn_cong (hset_ne (by omega)) (hset_ne (by omega)) (fun j _ _ => hset_ne (by omega)) (fun j j0 j1 => e16 j (by omega) j1) e2⟩
        · rw [hset_ne (by omega), e3 r _ j (by omega), d3 r _ j (by omega)]
        · rw [hset_ne (by omega), e3 r _ j (by omega)]
      · obtain ⟨a1, a2, a3⟩ := b4 k k0 k1
        rw [f1 192 k 0 (by omega), f2 22 k (by omega)]
        refine ⟨a1, a2, fun q => ?_⟩
        obtain ⟨x1, x2, x3⟩ := a3 q
        exact ⟨VR_keep (fun r j g0 g1 => f1 r _ j (by omega)) (fun j _ _ => f2 16 _ (by omega)) (fun j _ _ => f2 21 _ (by omega)) x1, CR_keep (fun r j g0 g1 => f1 r _ j (by omega)) (fun j _ _ => f2 16 _ (by omega)) (f2 16 _ (by omega)) (f2 16 _ (by omega)) (VR_n x1) x2, RSn_cong (f1 384 _ 0 (by omega)) (f1 385 _ 0 (by omega)) (fun j _ _ => f1 386 _ j (by omega)) (fun j _ _ => f2 16 _ (by omega)) x3⟩
    · rw [if_neg q1, if_neg (show ¬ (0 ≤ v ∧ v ≤ 1) by omega), zn00]
      exact ⟨_, _, _, rfl, rfl, RG_0 h⟩
theorem F293_1s {k : Int} : ∀ (n : Nat) (q : Int) (m0 m : zHM), 0 ≤ k → k < 2 → 0 ≤ q → q ≤ 12 → 12 - q < n → (∀ j, 0 ≤ j → j < q → m 19 j = m0 21 (12 * k + j)) → (∀ r j, ¬ (r = 19 ∧ 0 ≤ j ∧ j < 12) → m r j = m0 r j) → ∃ m', F293_1 n k q m = some (1, m') ∧ m' 23 0 = 0 ∧ (∀ j, 0 ≤ j → j < 12 → m' 19 j = m0 21 (12 * k + j)) ∧ (∀ r j, ¬ ((r = 19 ∧ 0 ≤ j ∧ j < 12) ∨ (r = 23 ∧ j = 0)) → m' r j = m0 r j) := by
  intro n
  induction n with
  | zero => intro q m0 m K0 K1 q0 q1 g; omega
  | succ n ih =>
    intro q m0 m K0 K1 q0 q1 g e2 e3
    rw [F293_1]
    by_cases e : q = 12
    · subst e
      rw [if_pos (by omega)]
      refine ⟨_, rfl, mset_eq, fun j j0 j1 => ?_, fun r j hne => ?_⟩
      · rw [mset_ne (by omega)]
        exact e2 j j0 j1
      · rw [mset_ne (by omega)]
        exact e3 r j (by omega)
    · rw [if_neg (by omega), wmul_eq (by omega) (by omega), wadd_eq (x := 12 * k) (by omega) (by omega), zG_t (by omega), zG_t (by omega), wadd_eq (by omega) (by omega)]
      refine ih (q + 1) m0 _ K0 K1 (by omega) (by omega) (by omega) (fun j j0 j1 => ?_) (fun r j hne => ?_)
      · by_cases u : j = q
        · subst u
          rw [mset_eq]
          exact e3 21 _ (by omega)
        · rw [mset_ne (by omega)]
          exact e2 j j0 (by omega)
      · rw [mset_ne (by omega)]
        exact e3 r j hne
theorem F293_0s {k : Int} : ∀ (n : Nat) (q : Int) (m0 m : zHM), 0 ≤ k → k < 2 → 0 ≤ q → q ≤ 2140 → 2140 - q < n → (∀ j, 0 ≤ j → j < q → m 14 j = m0 16 (2140 * k + j)) → (∀ r j, ¬ (r = 14 ∧ 0 ≤ j ∧ j < 2140) → m r j = m0 r j) → ∃ m', F293_0 n k q m = F293_1 zFu k 0 m' ∧ (∀ j, 0 ≤ j → j < 2140 → m' 14 j = m0 16 (2140 * k + j)) ∧ (∀ r j, ¬ (r = 14 ∧ 0 ≤ j ∧ j < 2140) → m' r j = m0 r j) := by
  intro n
  induction n with
  | zero => intro q m0 m K0 K1 q0 q1 g; omega
  | succ n ih =>
    intro q m0 m K0 K1 q0 q1 g e2 e3
    rw [F293_0]
    by_cases e : q = 2140
    · subst e
      rw [if_pos (by omega)]
      exact ⟨m, rfl, e2, e3⟩
    · rw [if_neg (by omega), wmul_eq (by omega) (by omega), wadd_eq (x := 2140 * k) (by omega) (by omega), zG_t (by omega), zG_t (by omega), wadd_eq (by omega) (by omega)]
      refine ih (q + 1) m0 _ K0 K1 (by omega) (by omega) (by omega) (fun j j0 j1 => ?_) (fun r j hne => ?_)
      · by_cases u : j = q
        · subst u
          rw [mset_eq]
          exact e3 16 _ (by omega)
        · rw [mset_ne (by omega)]
          exact e2 j j0 (by omega)
      · rw [mset_ne (by omega)]
        exact e3 r j hne
theorem C_restore {hc : zHC} {hm : zHM} {v : Int} (h : RG hc hm) : ∃ r hc' hm', F161 v hc = some (r, hc') ∧ F293 v hm = some (r, hm') ∧ RG hc' hm' := by
  have big := zFu_big
  unfold F161 F293 F55
  rw [E188]
  simp only [Option.bind_some]
  by_cases q0 : v < 0
  · rw [if_pos q0, if_neg (show ¬ (0 ≤ v ∧ v ≤ 1) by omega), z00]
    exact ⟨_, _, _, rfl, rfl, RG_0 h⟩
  · rw [if_neg q0]
    by_cases q1 : 2 ≤ v
    · rw [if_pos q1, if_neg (show ¬ (0 ≤ v ∧ v ≤ 1) by omega), z00]
      exact ⟨_, _, _, rfl, rfl, RG_0 h⟩
    · rw [if_neg q1, if_pos (show 0 ≤ v ∧ v ≤ 1 by omega), z10, zG_t (by omega), zG_t (by omega)]
      have b := h
      obtain ⟨b1, b2, b3, b4, b5, b6, b7, b8, b9⟩ := b
      obtain ⟨a1, a2, a3⟩ := b4 v (by omega) (by omega)
      rw [a1]
      by_cases q2 : hm 22 v = 0
      · simp (disch := omega) only [zG_t]
        rw [if_neg (show ¬ ¬ hm 22 v = 0 from fun z => z q2), if_neg (show ¬ ¬ hm 22 v = 0 from fun z => z q2)]
        exact ⟨_, _, _, rfl, rfl, RG_0 h⟩
      · rw [if_pos q2, if_pos q2, zG_t (by omega)]
        obtain ⟨x1, x2, x3⟩ := a3 (by omega)
        rw [show 2 + v = v + 2 by omega] at x1 x3
        rw [show 10 + v = v + 10 by omega] at x2
        obtain ⟨h1, c1, c2, c3, c4, c5, c6, c7⟩ := L52 (h := hc) (i := 0) (j := v + 2) (by omega)
        have hV1 := VR_cong c2 c3 c4 c5 c6 (fun _ _ _ => rfl) (fun _ _ _ => rfl) x1
        have hC1 := CR_keep (h' := h1) (fun r j _ _ => c7 r (v + 10) j (by omega)) (fun _ _ _ => rfl) rfl rfl (VR_n x1) x2
        obtain ⟨h2, d1, d2, d3⟩ := L71 (i := 0) (j := v + 10) (by omega) hC1 (VR_n x1)
        have hS2 := RSn_cong (h' := h2) (i' := v + 2) (by rw [d3 384 _ 0 (by omega), c7 384 _ 0 (by omega)]) (by rw [d3 385 _ 0 (by omega), c7 385 _ 0 (by omega)]) (fun j _ _ => by rw [d3 386 _ j (by omega), c7 386 _ j (by omega)]) (fun _ _ _ => rfl) x3
        obtain ⟨h3, e1, e2, e3⟩ := L155 (i := 0) (j := v + 2) (by omega) hS2
        obtain ⟨m1, u1, u2, u3⟩ := F293_0s (k := v) zFu 0 (mset hm 0 0 0) (mset hm 0 0 0) (by omega) (by omega) (by decide) (by decide) (by omega) (fun j j0 j1 => by omega) (fun _ _ _ => rfl)
        obtain ⟨m2, w1, w2, w3, w4⟩ := F293_1s (k := v) zFu 0 m1 m1 (by omega) (by omega) (by decide) (by decide) (by omega) (fun j j0 j1 => by omega) (fun _ _ _ => rfl)
        rw [c1, Option.bind_some, zG_t (by omega), d1, Option.bind_some, zG_t (by omega), e1, Option.bind_some, u1, w1]
        have f1 : ∀ r n j, ¬ ((576 ≤ r ∧ r ≤ 595 ∧ n = 0) ∨ (64 ≤ r ∧ r ≤ 72 ∧ n = 0) ∨ (384 ≤ r ∧ r ≤ 386 ∧ n = 0) ∨ (r = 512 ∧ n = 0 ∧ j = 0)) → (hset h3 512 0 0 0) r n j = hc r n j := fun r n j g => by rw [hset_ne (by omega), e3 r n j (by omega), d3 r n j (by omega), c7 r n j (by omega)]
        have f2 : ∀ r j, ¬ (r = 0 ∨ (r = 14 ∧ 0 ≤ j ∧ j < 2140) ∨ (r = 19 ∧ 0 ≤ j ∧ j < 12) ∨ (r = 23 ∧ j = 0)) → m2 r j = hm r j := fun r j g => by rw [w4 r j (by omega), u3 r j (by omega), mset_ne (by omega)]
        have e14 : ∀ j, 0 ≤ j → j < 2140 → m2 14 j = hm 16 (2140 * v + j) := fun j j0 j1 => by rw [w4 14 j (by omega), u2 j j0 j1, mset_ne (by omega)]
        have e19 : ∀ j, 0 ≤ j → j < 12 → m2 19 j = hm 21 (12 * v + j) := fun j j0 j1 => by rw [w3 j j0 j1, u3 21 _ (by omega), mset_ne (by omega)]
        refine ⟨_, _, _, rfl, rfl, RTp_keep (fun r j _ _ => f1 r 0 j (by omega)) (fun r j g => f2 r j (by omega)) b1, ⟨VR_keep (fun r j g0 g1 => ?_) (fun j j0 j1 => e14 j j0 (by omega)) e19 hV1, CR_keep (fun r j g0 g1 => ?_) (fun j j0 j1 => e14 j (by omega) (by omega)) (e14 2 (by decide) (by decide)) (e14 3 (by decide) (by decide)) (VR_n x1) d2⟩, ⟨by rw [hset_eq, w2], by rw [w2]; decide, by rw [w2]; decide, by rw [f1 513 0 0 (by omega)]; exact b3.2.2.2.1, by rw [f1 513 0 0 (by omega)]; exact b3.2.2.2.2.1, fun j j0 j1 => by rw [w2] at j1; omega⟩, RIm_keep (fun r n j g => f1 r n j (by omega)) (fun r j g => f2 r j (by omega)) b4, RSn_cong (hset_ne (by omega)) (hset_ne (by omega)) (fun j _ _ => hset_ne (by omega)) (fun j j0 j1 => e14 j (by omega) j1) e2, RPc_keep (fun r j g => f1 r 0 j (by omega)) (fun r j g => f2 r j (by omega)) b6, RSt_keep (fun r j g => f1 r 0 j (by omega)) (fun j => f2 41 j (by omega)) b7, RWr_keep (fun r j g => f1 r 0 j (by omega)) (fun r j g => f2 r j (by omega)) b8, RKw_keep (fun j => f1 330 0 j (by omega)) b9⟩
        · rw [hset_ne (by omega), e3 r _ j (by omega), d3 r _ j (by omega)]
        · rw [hset_ne (by omega), e3 r _ j (by omega)]
