section
/-! cliff, person, saying: what is thrown and what is not. -/
theorem C_saying {hc : zHC} {hm : zHM} {s w : Int} (h : RG hc hm) : ((0 ≤ s ∧ s < hm 14 216 ∧ 0 ≤ w ∧ w ≤ 7) → ∃ r hm', F167 s w hc = some r ∧ F216 s w hm = some (r, hm') ∧ hm' 0 0 = 0 ∧ RG hc hm') ∧ (¬ (0 ≤ s ∧ s < hm 14 216 ∧ 0 ≤ w ∧ w ≤ 7) → ∃ r hm', F216 s w hm = some (r, hm') ∧ hm' 0 0 = 1 ∧ RG hc hm') := by
  have e65 : hc 65 0 0 = hm 14 216 := by have := h.2.1.2.1.2.1; omega
  have hW := h.2.1.2.2.2
  obtain ⟨⟨c1, c2⟩, ⟨c3, c4⟩, c5, -⟩ := hW
  have r7 := h.2.1.2.1.2.2.2.2.2.2
  unfold F167 F216 F216_0 F206
  rw [E58 e65, E217 rfl, E188]
  simp only [Option.bind_some]
  constructor
  · intro g
    have g1 : 0 ≤ s ∧ s < hm 14 216 := ⟨g.1, g.2.1⟩
    have g2 : 0 ≤ w ∧ w ≤ 7 := g.2.2
    simp only [if_pos g1, if_pos g2, z10, zn10]
    rw [if_neg (show ¬ w < 0 by omega), if_pos (show w < 8 by omega), F63_s (by omega) (by omega) (by omega) (by omega), F213_s (by omega) (by omega) (by omega) (by omega), mset_ne (by omega)]
    obtain ⟨t1, -⟩ := r7 s g1.1 (by omega)
    rw [show (0 : Int) + s = s by omega] at t1
    rw [t1 w (by omega) (by omega)]
    exact ⟨_, _, rfl, rfl, mset_eq, RG_0 h⟩
  · intro g
    by_cases g1 : 0 ≤ s ∧ s < hm 14 216
    · have g2 : ¬ (0 ≤ w ∧ w ≤ 7) := fun z => g ⟨g1.1, g1.2, z⟩
      simp only [if_pos g1, if_neg g2, z10, zn00]
      exact ⟨_, _, rfl, mset_eq, RG_0 h⟩
    · simp only [if_neg g1, z00]
      exact ⟨_, _, rfl, mset_eq, RG_0 h⟩
theorem C_cliff {hc : zHC} {hm : zHM} {c w : Int} (h : RG hc hm) : ((0 ≤ c ∧ c < hm 14 2 ∧ 0 ≤ w ∧ w ≤ 3) → ∃ r hm', F163 c w hc = some r ∧ F204 c w hm = some (r, hm') ∧ hm' 0 0 = 0 ∧ RG hc hm') ∧ (¬ (0 ≤ c ∧ c < hm 14 2 ∧ 0 ≤ w ∧ w ≤ 3) → ∃ r hm', F204 c w hm = some (r, hm') ∧ hm' 0 0 = 1 ∧ RG hc hm') := by
  have w6 := RG_WN h
  unfold WN at w6
  obtain ⟨hN, hC, hP, hM, hF, hS, hQ, hW⟩ := h.2.1.1
  have e64 : hc 64 0 0 = hm 14 209 := h.2.1.2.1.1
  unfold F163 F204 F204_0 F206
  rw [E59 hN.2.2.1, E205 rfl, E188]
  simp only [Option.bind_some]
  constructor
  · intro g
    have g1 : 0 ≤ c ∧ c < hm 14 2 := ⟨g.1, g.2.1⟩
    have g2 : 0 ≤ w ∧ w ≤ 3 := g.2.2
    simp only [if_pos g1, if_pos g2, z10, zn10]
    obtain ⟨v1, v2, v3⟩ := hC c g1.1 g1.2
    obtain ⟨u1, u2, u3, u4, u5, u6⟩ := hW.2.1 c g1.1 g1.2
    have m14 : (mset hm 0 0 0) 14 = hm 14 := funext fun j => m0_ne (by decide)
    obtain ⟨sn, a1, a2', a3, a4⟩ := L91 (h := hc) (m := mset hm 0 0 0) (v := 0) (H := hm 14 209) (by rw [m14]; exact hN.2.2.2.2.2.2) (by rw [m14]; omega) (by rw [m14]; omega) (by rw [m14]; exact hS) (by rw [m14]; exact hW.2.2.2.2)
    rw [if_neg (show ¬ w < 0 by omega), if_pos (show w ≤ 3 by omega), e64, a1, a2']
    unfold F207
    rw [wmul_eq (by omega) (by omega), wadd_eq (x := 7) (by omega) (by omega), wadd_eq (x := 7 + 3 * c) (by omega) (by omega), wadd_eq (x := 7 + 3 * c) (by omega) (by omega), v1, v2, v3]
    simp (disch := omega) only [zG_t, Option.bind_some]
    rw [wsub_eq (x := hm 14 (7 + 3 * c + 2)) (by omega) (by omega)]
    by_cases q0 : w = 0
    · rw [if_pos q0, if_neg (show ¬ 3 ≤ w by omega), q0, Int.add_zero]
      exact ⟨_, _, rfl, rfl, mset_eq, RG_0 h⟩
    · rw [if_neg q0]
      by_cases q1 : w = 1
      · rw [if_pos q1, if_neg (show ¬ 3 ≤ w by omega), q1]
        exact ⟨_, _, rfl, rfl, mset_eq, RG_0 h⟩
      · rw [if_neg q1]
        by_cases q2 : w = 2
        · rw [if_pos q2, if_neg (show ¬ 3 ≤ w by omega), q2]
          exact ⟨_, _, rfl, rfl, mset_eq, RG_0 h⟩
        · rw [if_neg q2, if_pos (show 3 ≤ w by omega), mset_ne (by omega), wsub_eq (x := hm 14 (7 + 3 * c + 2)) (by omega) (by omega)]
          by_cases q3 : 0 < hm 14 (7 + 3 * c + 2) - sn
          · rw [if_pos q3, if_pos (show 0 ≤ hm 14 (7 + 3 * c + 2) - sn by omega)]
            exact ⟨_, _, rfl, rfl, mset_eq, RG_0 h⟩
          · rw [if_neg q3]
            by_cases q4 : 0 ≤ hm 14 (7 + 3 * c + 2) - sn
            · rw [if_pos q4, show hm 14 (7 + 3 * c + 2) - sn = 0 by omega]
              exact ⟨_, _, rfl, rfl, mset_eq, RG_0 h⟩
            · rw [if_neg q4]
              exact ⟨_, _, rfl, rfl, mset_eq, RG_0 h⟩
  · intro g
    by_cases g1 : 0 ≤ c ∧ c < hm 14 2
    · have g2 : ¬ (0 ≤ w ∧ w ≤ 3) := fun z => g ⟨g1.1, g1.2, z⟩
      simp only [if_pos g1, if_neg g2, z10, zn00]
      exact ⟨_, _, rfl, mset_eq, RG_0 h⟩
    · simp only [if_neg g1, z00]
      exact ⟨_, _, rfl, mset_eq, RG_0 h⟩

theorem E214 {x p : Int} : F214 x p = F65 x p := rfl
/-- the counts over the sayings -/
theorem K_with {hc : zHC} {m : zHM} {p w v : Int} (e65 : hc 65 0 0 = m 14 216) (c0 : 0 ≤ m 14 216) (c1 : m 14 216 ≤ 30) (hF : ∀ s, 0 ≤ s → s < m 14 216 → CF hc 0 s (m 14) s) (hw : w = 2 ∧ v = 5 ∨ w = 4 ∧ v = 7) : ∀ (n n' : Nat) (k acc : Int), 0 ≤ k → k ≤ m 14 216 → m 14 216 - k < n → m 14 216 - k < n' → 0 ≤ acc → acc ≤ k → ∃ r, F165_0 hc n 0 v p acc k = some r ∧ F209_1 n' p w acc k m = some (r, m) := by
  intro n
  induction n with
  | zero => intro n' k acc k0 k1 g1 g2; omega
  | succ n ih =>
    intro n' k acc k0 k1 g1 g2 a0 a1
    cases n' with
    | zero => omega
    | succ n' =>
      rw [F165_0, F209_1, e65]
      unfold F165_1 F209_3 F209_2
      by_cases q : m 14 216 ≤ k
      · rw [if_pos q, if_pos q]
        exact ⟨_, rfl, rfl⟩
      · rw [if_neg q, if_neg q, F63_s (by omega) (by omega) (by omega) (by omega), hF k k0 (by omega) v (by omega) (by omega), wadd_eq (x := k) (by omega) (by omega), wadd_eq (x := acc) (by omega) (by omega)]
        have fin : ∀ x, ((F65 x p = some 0 → ∃ r, F165_0 hc n 0 v p acc (k + 1) = some r ∧ F209_1 n' p w acc (k + 1) m = some (r, m)) ∧ (F65 x p = some 1 → ∃ r, F165_0 hc n 0 v p (acc + 1) (k + 1) = some r ∧ F209_1 n' p w (acc + 1) (k + 1) m = some (r, m))) := fun x => ⟨fun _ => ih n' (k + 1) acc (by omega) (by omega) (by omega) (by omega) a0 (by omega), fun _ => ih n' (k + 1) (acc + 1) (by omega) (by omega) (by omega) (by omega) (by omega) (by omega)⟩
        rcases hw with ⟨w2, v5⟩ | ⟨w4, v7⟩
        · rw [if_neg (show ¬ ¬ w = 2 from fun z => z w2), F213_s (by omega) (by omega) (by decide) (by decide), v5]
          simp only [Option.bind_some, E214]
          rcases F65_01 (x := m 14 (217 + 8 * k + 5)) (p := p) with u | u
          · rw [u]
            simp only [Option.bind_some, z00]
            rw [← v5]
            exact (fin _).1 u
          · rw [u]
            simp only [Option.bind_some, z10]
            rw [← v5]
            exact (fin _).2 u
        · rw [if_pos (show ¬ w = 2 by omega), if_pos (show ¬ w = 3 by omega), F213_s (by omega) (by omega) (by decide) (by decide), v7]
          simp only [Option.bind_some, E214]
          rcases F65_01 (x := m 14 (217 + 8 * k + 7)) (p := p) with u | u
          · rw [u]
            simp only [Option.bind_some, z00]
            rw [← v7]
            exact (fin _).1 u
          · rw [u]
            simp only [Option.bind_some, z10]
            rw [← v7]
            exact (fin _).2 u
theorem K_by {hc : zHC} {m : zHM} {p : Int} (e65 : hc 65 0 0 = m 14 216) (c0 : 0 ≤ m 14 216) (c1 : m 14 216 ≤ 30) (hF : ∀ s, 0 ≤ s → s < m 14 216 → CF hc 0 s (m 14) s) : ∀ (n n' : Nat) (k acc : Int), 0 ≤ k → k ≤ m 14 216 → m 14 216 - k < n → m 14 216 - k < n' → 0 ≤ acc → acc ≤ k → ∃ r, F166_0 hc n 0 p acc k = some r ∧ F209_1 n' p 3 acc k m = some (r, m) := by
  intro n
  induction n with
  | zero => intro n' k acc k0 k1 g1 g2; omega
  | succ n ih =>
    intro n' k acc k0 k1 g1 g2 a0 a1
    cases n' with
    | zero => omega
    | succ n' =>
      rw [F166_0, F209_1, e65]
      unfold F166_1 F209_3 F209_2
      by_cases q : m 14 216 ≤ k
      · rw [if_pos q, if_pos q]
        exact ⟨_, rfl, rfl⟩
      · rw [if_neg q, if_neg q, F63_s (by omega) (by omega) (by decide) (by decide), hF k k0 (by omega) 1 (by decide) (by decide), wadd_eq (x := k) (by omega) (by omega), wadd_eq (x := acc) (by omega) (by omega), if_pos (show ¬ (3 : Int) = 2 by decide), if_neg (show ¬ ¬ (3 : Int) = 3 by decide), F213_s (by omega) (by omega) (by decide) (by decide)]
        simp only [Option.bind_some]
        by_cases u : m 14 (217 + 8 * k + 1) = p
        · rw [if_neg (show ¬ ¬ m 14 (217 + 8 * k + 1) = p from fun z => z u), if_neg (show ¬ ¬ m 14 (217 + 8 * k + 1) = p from fun z => z u)]
          exact ih n' (k + 1) (acc + 1) (by omega) (by omega) (by omega) (by omega) (by omega) (by omega)
        · rw [if_pos u, if_pos u]
          exact ih n' (k + 1) acc (by omega) (by omega) (by omega) (by omega) a0 (by omega)
theorem C_person {hc : zHC} {hm : zHM} {p w : Int} (h : RG hc hm) : ((0 ≤ p ∧ p < hm 14 3 ∧ 0 ≤ w ∧ w ≤ 5) → ∃ r hm', F164 p w hc = some r ∧ F209 p w hm = some (r, hm') ∧ hm' 0 0 = 0 ∧ RG hc hm') ∧ (¬ (0 ≤ p ∧ p < hm 14 3 ∧ 0 ≤ w ∧ w ≤ 5) → ∃ r hm', F209 p w hm = some (r, hm') ∧ hm' 0 0 = 1 ∧ RG hc hm') := by
  have w6 := RG_WN h
  unfold WN at w6
  have big := zFu_big
  obtain ⟨hN, hC, hP, hM, hF, hS, hQ, hW⟩ := h.2.1.1
  have e65 : hc 65 0 0 = hm 14 216 := by have := h.2.1.2.1.2.1; omega
  have m14 : (mset hm 0 0 0) 14 = hm 14 := funext fun j => m0_ne (by decide)
  obtain ⟨⟨c1, c2⟩, ⟨c3, c4⟩, c5, -⟩ := h.2.1.2.2.2
  have rp := h.2.1.2.1.2.2.2.2.2.1
  have r7 := h.2.1.2.1.2.2.2.2.2.2
  have cf : ∀ s, 0 ≤ s → s < (mset hm 0 0 0) 14 216 → CF hc 0 s ((mset hm 0 0 0) 14) s := by
    intro s s0 s1
    rw [m14] at s1 ⊢
    obtain ⟨t1, -⟩ := r7 s s0 (by omega)
    rw [show (0 : Int) + s = s by omega] at t1
    exact t1
  have e65' : hc 65 0 0 = (mset hm 0 0 0) 14 216 := by rw [m14]; exact e65
  have c3' : 0 ≤ (mset hm 0 0 0) 14 216 := by rw [m14]; exact c3
  have c4' : (mset hm 0 0 0) 14 216 ≤ 30 := by rw [m14]; exact c4
  unfold F164 F209 F209_0 F206
  rw [E61 hN.2.2.2.1, E210 rfl, E188]
  simp only [Option.bind_some]
  constructor
  · intro g
    have g1 : 0 ≤ p ∧ p < hm 14 3 := ⟨g.1, g.2.1⟩
    have g2 : 0 ≤ w ∧ w ≤ 5 := g.2.2
    simp only [if_pos g1, if_pos g2, z10, zn10]
    rw [if_neg (show ¬ w < 0 by omega), if_pos (show w ≤ 5 by omega)]
    by_cases q0 : w = 0
    · rw [if_pos q0, if_neg (show ¬ ¬ w = 0 from fun z => z q0), zG_t (by omega), wadd_eq (by omega) (by omega), zG_t (by omega), (rp p g1.1 g1.2).1]
      exact ⟨_, _, rfl, rfl, mset_eq, RG_0 h⟩
    · rw [if_neg q0, if_pos q0]
      by_cases q1 : w = 1
      · rw [if_pos q1, if_neg (show ¬ ¬ w = 1 from fun z => z q1)]
        obtain ⟨r, a1, a2, -, -⟩ := L101 (h := hc) (m := mset hm 0 0 0) (i := 0) (p := p) (by omega) (by omega) (by rw [m14]; exact h.2.1.2)
        rw [a1, a2]
        exact ⟨_, _, rfl, rfl, mset_eq, RG_0 h⟩
      · rw [if_neg q1, if_pos q1]
        by_cases q5 : w = 5
        · rw [if_neg (show ¬ w = 2 by omega), if_neg (show ¬ w = 3 by omega), if_neg (show ¬ w = 4 by omega), if_neg (show ¬ ¬ w = 5 from fun z => z q5), zG_t (by omega), zG_t (by omega), wmul_eq (by omega) (by omega), wadd_eq (x := 25) (by omega) (by omega), wadd_eq (x := 25 + 2 * p) (by omega) (by omega), zG_t (by omega), (hP p g1.1 g1.2).2]
          exact ⟨_, _, rfl, rfl, mset_eq, RG_0 h⟩
        · rw [if_pos q5]
          by_cases q2 : w = 2
          · rw [if_pos q2]
            obtain ⟨r, a1, a2⟩ := K_with (p := p) (w := w) (v := 5) e65' c3' c4' cf (Or.inl ⟨q2, rfl⟩) zFu zFu 0 0 (by decide) c3' (by omega) (by omega) (by decide) (by decide)
            unfold F165
            rw [a1, a2]
            exact ⟨_, _, rfl, rfl, mset_eq, RG_0 h⟩
          · rw [if_neg q2]
            by_cases q3 : w = 3
            · rw [if_pos q3]
              obtain ⟨r, a1, a2⟩ := K_by (p := p) e65' c3' c4' cf zFu zFu 0 0 (by decide) c3' (by omega) (by omega) (by decide) (by decide)
              unfold F166
              rw [q3, a1, a2]
              exact ⟨_, _, rfl, rfl, mset_eq, RG_0 h⟩
            · rw [if_neg q3, if_pos (show w = 4 by omega)]
              obtain ⟨r, a1, a2⟩ := K_with (p := p) (w := w) (v := 7) e65' c3' c4' cf (Or.inr ⟨by omega, rfl⟩) zFu zFu 0 0 (by decide) c3' (by omega) (by omega) (by decide) (by decide)
              unfold F165
              rw [a1, a2]
              exact ⟨_, _, rfl, rfl, mset_eq, RG_0 h⟩
  · intro g
    by_cases g1 : 0 ≤ p ∧ p < hm 14 3
    · have g2 : ¬ (0 ≤ w ∧ w ≤ 5) := fun z => g ⟨g1.1, g1.2, z⟩
      simp only [if_pos g1, if_neg g2, z10, zn00]
      exact ⟨_, _, rfl, mset_eq, RG_0 h⟩
    · simp only [if_neg g1, z00]
      exact ⟨_, _, rfl, mset_eq, RG_0 h⟩
end
section
/-! feed. -/
theorem RG_tape {hc hc' : zHC} {hm hm' : zHM} (h : RG hc hm) (t : RTp hc' hm') (f1 : ∀ r n j, ¬ (r = 320 ∨ r = 321) → hc' r n j = hc r n j) (f2 : ∀ r j, ¬ (r = 0 ∨ r = 1 ∨ r = 2) → hm' r j = hm r j) : RG hc' hm' := by
  obtain ⟨a1, a2, a3, a4, a5, a6, a7, a8, a9⟩ := h
  exact ⟨t, RVC_keep (fun r j g => f1 r 0 j (by omega)) (fun j _ _ => f2 14 j (by omega)) (fun j => f2 19 j (by omega)) a2, RUn_keep (fun r n j g => f1 r n j (by omega)) (fun j _ _ => f2 14 j (by omega)) (fun r j g => f2 r j (by omega)) (VR_n a2.1) a3, RIm_keep (fun r n j g => f1 r n j (by omega)) (fun r j g => f2 r j (by omega)) a4, RSn_cong (f1 384 0 0 (by omega)) (f1 385 0 0 (by omega)) (fun j _ _ => f1 386 0 j (by omega)) (fun j _ _ => f2 14 j (by omega)) a5, RPc_keep (fun r j g => f1 r 0 j (by omega)) (fun r j g => f2 r j (by omega)) a6, RSt_keep (fun r j g => f1 r 0 j (by omega)) (fun j => f2 41 j (by omega)) a7, RWr_keep (fun r j g => f1 r 0 j (by omega)) (fun r j g => f2 r j (by omega)) a8, RKw_keep (fun j => f1 330 0 j (by omega)) a9⟩
theorem K_feed {v : Int} : ∀ (n n' : Nat) (q : Int) (h : zHC) (m : zHM), RTp h m → 0 ≤ q → q ≤ 4 → m 2 0 + q ≤ 940 → q < n → q < n' → ∃ h' m', F15_0 n v (8 * q - 8) h = some h' ∧ F171_0 n' v (8 * q - 8) m = some m' ∧ RTp h' m' ∧ m' 2 0 = m 2 0 + q ∧ (∀ r n j, ¬ (r = 320 ∨ r = 321) → h' r n j = h r n j) ∧ (∀ r j, ¬ (r = 1 ∨ r = 2) → m' r j = m r j) := by
  intro n
  induction n with
  | zero => intro n' q h m hT q0 q1 q2 g1 g2; omega
  | succ n ih =>
    intro n' q h m hT q0 q1 q2 g1 g2
    cases n' with
    | zero => omega
    | succ n' =>
      rw [F15_0, F171_0]
      by_cases e : 8 * q - 8 < 0
      · rw [if_pos e, if_pos e]
        exact ⟨h, m, rfl, rfl, hT, by omega, fun _ _ _ _ => rfl, fun _ _ _ => rfl⟩
      · obtain ⟨t1, t2, t3, t4, t5⟩ := hT
        rw [if_neg e, if_neg e, t1, if_neg (show ¬ 940 ≤ m 2 0 by omega), zG_t (by omega), zG_t (by omega), wadd_eq (x := m 2 0) (by omega) (by omega), wadd_eq (x := 8 * q - 8) (by omega) (by omega), show 8 * q - 8 + -8 = 8 * (q - 1) - 8 by omega]
        have wr := wand_rng (x := wushr v (8 * q - 8)) (y := 255) (by decide) (by decide)
        obtain ⟨h', m', a1, a2, a3, a4, a5, a6⟩ := ih n' (q - 1) (hset (hset h 320 0 (m 2 0) (wand (wushr v (8 * q - 8)) 255)) 321 0 0 (m 2 0 + 1)) (mset (mset m 1 (m 2 0) (wand (wushr v (8 * q - 8)) 255)) 2 0 (m 2 0 + 1)) ⟨by rw [hset_eq, mset_eq], by rw [mset_eq]; omega, by rw [mset_eq]; omega, fun i i0 i1 => by
          rw [hset_ne (by omega), mset_ne (by omega)]
          by_cases u : i = m 2 0
          · rw [u, hset_eq, mset_eq]
            exact ⟨rfl, wr.1, wr.2⟩
          · rw [hset_ne (by omega), mset_ne (by omega)]
            exact t4 i i0 i1, by rw [hset_ne (by omega), hset_ne (by omega), mset_ne (by omega), mset_ne (by omega)]; exact t5⟩ (by omega) (by omega) (by rw [mset_eq]; omega) (by omega) (by omega)
        rw [mset_eq] at a4
        exact ⟨h', m', a1, a2, a3, by omega, fun r n j g => by rw [a5 r n j g, hset_ne (by omega), hset_ne (by omega)], fun r j g => by rw [a6 r j g, mset_ne (by omega), mset_ne (by omega)]⟩
theorem K_feed1 {v : Int} {h : zHC} {m : zHM} (hT : RTp h m) (g : m 2 0 + 4 ≤ 940) : ∃ h' m', F15 v h = some h' ∧ F171 v m = some m' ∧ RTp h' m' ∧ m' 2 0 = m 2 0 + 4 ∧ (∀ r n j, ¬ (r = 320 ∨ r = 321) → h' r n j = h r n j) ∧ (∀ r j, ¬ (r = 1 ∨ r = 2) → m' r j = m r j) := by
  have big := zFu_big
  exact K_feed (v := v) zFu zFu 4 h m hT (by decide) (by decide) g (by omega) (by omega)
theorem C_feed {hc : zHC} {hm : zHM} {a b c d e : Int} (h : RG hc hm) : ∃ r hc' hm', F14 a b c d e hc = some (r, hc') ∧ F170 a b c d e hm = some (r, hm') ∧ RG hc' hm' := by
  have hT := (RG_0 (x := 0) h).1
  have t1 := h.1
  unfold F14 F170
  rw [t1.1, wadd_eq (x := hm 2 0) (by have := t1.2; omega) (by have := t1.2; omega)]
  have m2 : (mset hm 0 0 0) 2 0 = hm 2 0 := m0_ne (by decide)
  by_cases q : hm 2 0 + 20 ≤ 940
  · rw [if_pos q, if_pos q]
    obtain ⟨h1, m1, a1, a2, a3, a4, a5, a6⟩ := K_feed1 (v := a) hT (by omega)
    obtain ⟨h2, m2, b1, b2, b3, b4, b5, b6⟩ := K_feed1 (v := b) a3 (by omega)
    obtain ⟨h3, m3, c1, c2, c3, c4, c5, c6⟩ := K_feed1 (v := c) b3 (by omega)
    obtain ⟨h4, m4, d1, d2, d3, d4, d5, d6⟩ := K_feed1 (v := d) c3 (by omega)
    obtain ⟨h5, m5, e1, e2, e3, e4, e5, e6⟩ := K_feed1 (v := e) d3 (by omega)
    rw [a1, a2]
    simp only [Option.bind_some]
    rw [b1, b2]
    simp only [Option.bind_some]
    rw [c1, c2]
    simp only [Option.bind_some]
    rw [d1, d2]
    simp only [Option.bind_some]
    rw [e1, e2]
    simp only [Option.bind_some]
    rw [e3.1]
    exact ⟨_, _, _, rfl, rfl, RG_tape h e3 (fun r n j g => by rw [e5 r n j g, d5 r n j g, c5 r n j g, b5 r n j g, a5 r n j g]) (fun r j g => by rw [e6 r j (by omega), d6 r j (by omega), c6 r j (by omega), b6 r j (by omega), a6 r j (by omega), mset_ne (by omega)])⟩
  · rw [if_neg q, if_neg q]
    exact ⟨_, _, _, rfl, rfl, RG_0 h⟩
end
section
/-! image. -/
theorem L52 {h : zHC} {i j : Int} (hij : i ≠ j) : ∃ h', F52 i j h = some h' ∧ (∀ r, 576 ≤ r → r ≤ 582 → h' r i 0 = h r j 0) ∧ (∀ r q, 583 ≤ r → r ≤ 589 → 0 ≤ q → q < 6 → h' r i q = h r j q) ∧ (∀ r q, 590 ≤ r → r ≤ 592 → 0 ≤ q → q < 20 → h' r i q = h r j q) ∧ (∀ q, 0 ≤ q → q < 8 → h' 593 i q = h 593 j q) ∧ (∀ r q, 594 ≤ r → r ≤ 595 → 0 ≤ q → q < 6 → h' r i q = h r j q) ∧ (∀ r n q, ¬ (576 ≤ r ∧ r ≤ 595 ∧ n = i) → h' r n q = h r n q) := by
  unfold F52
  refine ⟨_, rfl, fun r r0 r1 => ?_, fun r q r0 r1 q0 q1 => ?_, fun r q r0 r1 q0 q1 => ?_, fun q q0 q1 => ?_, fun r q r0 r1 q0 q1 => ?_, fun r n q hne => ?_⟩
  · have e : r = 576 ∨ r = 577 ∨ r = 578 ∨ r = 579 ∨ r = 580 ∨ r = 581 ∨ r = 582 := by omega
    rcases e with e | e | e | e | e | e | e <;> subst e <;> (repeat (first | rw [hcpy_ne (by omega)] | rw [hset_ne (by omega)])) <;> exact hset_eq
  · have e : r = 583 ∨ r = 584 ∨ r = 585 ∨ r = 586 ∨ r = 587 ∨ r = 588 ∨ r = 589 := by omega
    rcases e with e | e | e | e | e | e | e <;> subst e <;> (repeat rw [hcpy_ne (by omega)]) <;> rw [hcpy_eq q0 q1] <;> (repeat (first | rw [hcpy_ne (by omega)] | rw [hset_ne (by omega)]))
  · have e : r = 590 ∨ r = 591 ∨ r = 592 := by omega
    rcases e with e | e | e <;> subst e <;> (repeat rw [hcpy_ne (by omega)]) <;> rw [hcpy_eq q0 q1] <;> (repeat (first | rw [hcpy_ne (by omega)] | rw [hset_ne (by omega)]))
  · (repeat rw [hcpy_ne (by omega)])
    rw [hcpy_eq q0 q1]
    (repeat (first | rw [hcpy_ne (by omega)] | rw [hset_ne (by omega)]))
  · have e : r = 594 ∨ r = 595 := by omega
    rcases e with e | e <;> subst e <;> (repeat rw [hcpy_ne (by omega)]) <;> rw [hcpy_eq q0 q1] <;> (repeat (first | rw [hcpy_ne (by omega)] | rw [hset_ne (by omega)]))
  · (repeat (first | rw [hcpy_ne (by omega)] | rw [hset_ne (by omega)]))
theorem L155 {h : zHC} {i j : Int} {a : Int → Int} (hij : i ≠ j) (hR : RSn h j a) : ∃ h', F155 i j h = some h' ∧ RSn h' i a ∧ (∀ r n q, ¬ (384 ≤ r ∧ r ≤ 386 ∧ n = i) → h' r n q = h r n q) := by
  have r3 := hR.2.2.1
  have r4 := hR.2.2.2.1
  unfold F155
  rw [hset_eq, wmul_eq (by omega) (by omega), zG_t (by omega), zG_t (by omega), zG_t (by omega)]
  refine ⟨_, rfl, RSn_cong ?_ ?_ (fun q q0 q1 => ?_) (fun _ _ _ => rfl) hR, fun r n q hne => ?_⟩
  · rw [hcpy_ne (by omega), hset_ne (by omega), hset_eq]
  · rw [hcpy_ne (by omega), hset_eq]
  · rw [hcpy_eq (by omega) (by omega), hset_ne (by omega), hset_ne (by omega)]
  · rw [hcpy_ne (by omega), hset_ne (by omega), hset_ne (by omega)]
theorem F292_1s {k : Int} : ∀ (n : Nat) (q : Int) (m0 m : zHM), 0 ≤ k → k < 2 → 0 ≤ q → q ≤ 12 → 12 - q < n → (∀ j, 0 ≤ j → j < q → m 21 (12 * k + j) = m0 19 j) → (∀ r j, ¬ (r = 21 ∧ 12 * k ≤ j ∧ j < 12 * k + 12) → m r j = m0 r j) → ∃ m', F292_1 n k q m = some (1, m') ∧ m' 22 k = 1 ∧ (∀ j, 0 ≤ j → j < 12 → m' 21 (12 * k + j) = m0 19 j) ∧ (∀ r j, ¬ ((r = 21 ∧ 12 * k ≤ j ∧ j < 12 * k + 12) ∨ (r = 22 ∧ j = k)) → m' r j = m0 r j) := by
  intro n
  induction n with
  | zero => intro q m0 m K0 K1 q0 q1 g; omega
  | succ n ih =>
    intro q m0 m K0 K1 q0 q1 g e2 e3
    rw [F292_1]
    by_cases e : q = 12
    · subst e
      rw [if_pos (by omega), zG_t (by omega)]
      refine ⟨_, rfl, mset_eq, fun j j0 j1 => ?_, fun r j hne => ?_⟩
      · rw [mset_ne (by omega)]
        exact e2 j j0 j1
      · rw [mset_ne (by omega)]
        exact e3 r j (by omega)
    · rw [if_neg (by omega), wmul_eq (by omega) (by omega), wadd_eq (x := 12 * k) (by omega) (by omega), zG_t (by omega), zG_t (by omega), wadd_eq (by omega) (by omega)]
      refine ih (q + 1) m0 _ K0 K1 (by omega) (by omega) (by omega) (fun j j0 j1 => ?_) (fun r j hne => ?_)
      · by_cases u : j = q
        · subst u
          rw [mset_eq]
          exact e3 19 _ (by omega)
        · rw [mset_ne (by omega)]
          exact e2 j j0 (by omega)
      · rw [mset_ne (by omega)]
        exact e3 r j hne
theorem F292_0s {k : Int} : ∀ (n : Nat) (q : Int) (m0 m : zHM), 0 ≤ k → k < 2 → 0 ≤ q → q ≤ 2140 → 2140 - q < n → (∀ j, 0 ≤ j → j < q → m 16 (2140 * k + j) = m0 14 j) → (∀ r j, ¬ (r = 16 ∧ 2140 * k ≤ j ∧ j < 2140 * k + 2140) → m r j = m0 r j) → ∃ m', F292_0 n k q m = F292_1 zFu k 0 m' ∧ (∀ j, 0 ≤ j → j < 2140 → m' 16 (2140 * k + j) = m0 14 j) ∧ (∀ r j, ¬ (r = 16 ∧ 2140 * k ≤ j ∧ j < 2140 * k + 2140) → m' r j = m0 r j) := by
  intro n
  induction n with
  | zero => intro q m0 m K0 K1 q0 q1 g; omega
  | succ n ih =>
    intro q m0 m K0 K1 q0 q1 g e2 e3
    rw [F292_0]
    by_cases e : q = 2140
    · subst e
      rw [if_pos (by omega)]
      exact ⟨m, rfl, e2, e3⟩
    · rw [if_neg (by omega), wmul_eq (by omega) (by omega), wadd_eq (x := 2140 * k) (by omega) (by omega), zG_t (by omega), zG_t (by omega), wadd_eq (by omega) (by omega)]
      refine ih (q + 1) m0 _ K0 K1 (by omega) (by omega) (by omega) (fun j j0 j1 => ?_) (fun r j hne => ?_)
      · by_cases u : j = q
        · subst u
          rw [mset_eq]
          exact e3 14 _ (by omega)
        · rw [mset_ne (by omega)]
          exact e2 j j0 (by omega)
      · rw [mset_ne (by omega)]
        exact e3 r j hne
end
section
/-! image and restore, whole. -/
theorem C_image {hc : zHC} {hm : zHM} {v : Int} (h : RG hc hm) : ∃ r hc' hm', F160 v hc = some (r, hc') ∧ F292 v hm = some (r, hm') ∧ RG hc' hm' := by
  have big := zFu_big
  unfold F160 F292
  rw [E188]
  simp only [Option.bind_some]
  by_cases q0 : v < 0
  · rw [if_pos q0, if_neg (show ¬ (0 ≤ v ∧ v ≤ 1) by omega), zn00]
    exact ⟨_, _, _, rfl, rfl, RG_0 h⟩
  · rw [if_neg q0]
    by_cases q1 : v < 2
    · rw [if_pos q1, if_pos (show 0 ≤ v ∧ v ≤ 1 by omega), zn10, zG_t (by omega)]
      have b := h
      obtain ⟨b1, b2, b3, b4, b5, b6, b7, b8, b9⟩ := b
      obtain ⟨h1, c1, c2, c3, c4, c5, c6, c7⟩ := L52 (h := hc) (i := v + 2) (j := 0) (by omega)
      have hV1 : VR h1 (v + 2) (hm 14) (hm 19) := VR_cong c2 c3 c4 c5 c6 (fun _ _ _ => rfl) (fun _ _ _ => rfl) b2.1
      have hC1 : CR h1 0 (hm 14) := CR_keep (fun r j _ _ => c7 r 0 j (by omega)) (fun _ _ _ => rfl) rfl rfl (VR_n b2.1) b2.2
      obtain ⟨h2, d1, d2, d3⟩ := L71 (i := v + 10) (j := 0) (by omega) hC1 (VR_n b2.1)
      have hS2 : RSn h2 0 (hm 14) := RSn_cong (by rw [d3 384 0 0 (by omega), c7 384 0 0 (by omega)]) (by rw [d3 385 0 0 (by omega), c7 385 0 0 (by omega)]) (fun j _ _ => by rw [d3 386 0 j (by omega), c7 386 0 j (by omega)]) (fun _ _ _ => rfl) b5
      obtain ⟨h3, e1, e2, e3⟩ := L155 (i := v + 2) (j := 0) (by omega) hS2
      obtain ⟨m1, u1, u2, u3⟩ := F292_0s (k := v) zFu 0 (mset hm 0 0 0) (mset hm 0 0 0) (by omega) q1 (by decide) (by decide) (by omega) (fun j j0 j1 => by omega) (fun _ _ _ => rfl)
      obtain ⟨m2, w1, w2, w3, w4⟩ := F292_1s (k := v) zFu 0 m1 m1 (by omega) q1 (by decide) (by decide) (by omega) (fun j j0 j1 => by omega) (fun _ _ _ => rfl)
      rw [c1, Option.bind_some, zG_t (by omega), d1, Option.bind_some, zG_t (by omega), e1, Option.bind_some, zG_t (by omega), u1, w1]
      have f1 : ∀ r n j, ¬ ((576 ≤ r ∧ r ≤ 595 ∧ n = v + 2) ∨ (64 ≤ r ∧ r ≤ 72 ∧ n = v + 10) ∨ (384 ≤ r ∧ r ≤ 386 ∧ n = v + 2) ∨ (r = 192 ∧ n = v ∧ j = 0)) → (hset h3 192 v 0 1) r n j = hc r n j := fun r n j g => by rw [hset_ne (by omega), e3 r n j (by omega), d3 r n j (by omega), c7 r n j (by omega)]
      have f2 : ∀ r j, ¬ (r = 0 ∨ (r = 16 ∧ 2140 * v ≤ j ∧ j < 2140 * v + 2140) ∨ (r = 21 ∧ 12 * v ≤ j ∧ j < 12 * v + 12) ∨ (r = 22 ∧ j = v)) → m2 r j = hm r j := fun r j g => by rw [w4 r j (by omega), u3 r j (by omega), mset_ne (by omega)]
      refine ⟨_, _, _, rfl, rfl, RTp_keep (fun r j _ _ => f1 r 0 j (by omega)) (fun r j g => f2 r j (by omega)) b1, RVC_keep (fun r j g => f1 r 0 j (by omega)) (fun j _ _ => f2 14 j (by omega)) (fun j => f2 19 j (by omega)) b2, RUn_keep (fun r n j g => f1 r n j (by omega)) (fun j _ _ => f2 14 j (by omega)) (fun r j g => f2 r j (by omega)) (VR_n b2.1) b3, fun k k0 k1 => ?_, RSn_cong (f1 384 0 0 (by omega)) (f1 385 0 0 (by omega)) (fun j _ _ => f1 386 0 j (by omega)) (fun j _ _ => f2 14 j (by omega)) b5, RPc_keep (fun r j g => f1 r 0 j (by omega)) (fun r j g => f2 r j (by omega)) b6, RSt_keep (fun r j g => f1 r 0 j (by omega)) (fun j => f2 41 j (by omega)) b7, RWr_keep (fun r j g => f1 r 0 j (by omega)) (fun r j g => f2 r j (by omega)) b8, RKw_keep (fun j => f1 330 0 j (by omega)) b9⟩
      by_cases e : k = v
      · subst e
        rw [hset_eq, w2]
        refine ⟨rfl, Or.inr rfl, fun _ => ?_⟩
        have e16 : ∀ j, 0 ≤ j → j < 2140 → m2 16 (2140 * k + j) = hm 14 j := fun j j0 j1 => by rw [w4 16 _ (by omega), u2 j j0 j1, mset_ne (by omega)]
        have e21 : ∀ j, 0 ≤ j → j < 12 → m2 21 (12 * k + j) = hm 19 j := fun j j0 j1 => by rw [w3 j j0 j1, u3 19 j (by omega), mset_ne (by omega)]
        rw [show 2 + k = k + 2 by omega, show 10 + k = k + 10 by omega]
        refine ⟨VR_keep (fun r j g0 g1 => ?_) (fun j j0 j1 => e16 j j0 (by omega)) e21 hV1, CR_keep (fun r j g0 g1 => ?_) (fun j j0 j1 => e16 j (by omega) (by omega)) (e16 2 (by decide) (by decide)) (e16 3 (by decide) (by decide)) (VR_n b2.1) d2, RSn_cong (hset_ne (by omega)) (hset_ne (by omega)) (fun j _ _ => hset_ne (by omega)) (fun j j0 j1 => e16 j (by omega) j1) e2⟩
        · rw [hset_ne (by omega), e3 r _ j (by omega), d3 r _ j (by omega)]
        · rw [hset_ne (by omega), e3 r _ j (by omega)]
      · obtain ⟨a1, a2, a3⟩ := b4 k k0 k1
        rw [f1 192 k 0 (by omega), f2 22 k (by omega)]
        refine ⟨a1, a2, fun q => ?_⟩
        obtain ⟨x1, x2, x3⟩ := a3 q
        exact ⟨VR_keep (fun r j g0 g1 => f1 r _ j (by omega)) (fun j _ _ => f2 16 _ (by omega)) (fun j _ _ => f2 21 _ (by omega)) x1, CR_keep (fun r j g0 g1 => f1 r _ j (by omega)) (fun j _ _ => f2 16 _ (by omega)) (f2 16 _ (by omega)) (f2 16 _ (by omega)) (VR_n x1) x2, RSn_cong (f1 384 _ 0 (by omega)) (f1 385 _ 0 (by omega)) (fun j _ _ => f1 386 _ j (by omega)) (fun j _ _ => f2 16 _ (by omega)) x3⟩
    · rw [if_neg q1, if_neg (show ¬ (0 ≤ v ∧ v ≤ 1) by omega), zn00]
      exact ⟨_, _, _, rfl, rfl, RG_0 h⟩
theorem F293_1s {k : Int} : ∀ (n : Nat) (q : Int) (m0 m : zHM), 0 ≤ k → k < 2 → 0 ≤ q → q ≤ 12 → 12 - q < n → (∀ j, 0 ≤ j → j < q → m 19 j = m0 21 (12 * k + j)) → (∀ r j, ¬ (r = 19 ∧ 0 ≤ j ∧ j < 12) → m r j = m0 r j) → ∃ m', F293_1 n k q m = some (1, m') ∧ m' 23 0 = 0 ∧ (∀ j, 0 ≤ j → j < 12 → m' 19 j = m0 21 (12 * k + j)) ∧ (∀ r j, ¬ ((r = 19 ∧ 0 ≤ j ∧ j < 12) ∨ (r = 23 ∧ j = 0)) → m' r j = m0 r j) := by
  intro n
  induction n with
  | zero => intro q m0 m K0 K1 q0 q1 g; omega
  | succ n ih =>
    intro q m0 m K0 K1 q0 q1 g e2 e3
    rw [F293_1]
    by_cases e : q = 12
    · subst e
      rw [if_pos (by omega)]
      refine ⟨_, rfl, mset_eq, fun j j0 j1 => ?_, fun r j hne => ?_⟩
      · rw [mset_ne (by omega)]
        exact e2 j j0 j1
      · rw [mset_ne (by omega)]
        exact e3 r j (by omega)
    · rw [if_neg (by omega), wmul_eq (by omega) (by omega), wadd_eq (x := 12 * k) (by omega) (by omega), zG_t (by omega), zG_t (by omega), wadd_eq (by omega) (by omega)]
      refine ih (q + 1) m0 _ K0 K1 (by omega) (by omega) (by omega) (fun j j0 j1 => ?_) (fun r j hne => ?_)
      · by_cases u : j = q
        · subst u
          rw [mset_eq]
          exact e3 21 _ (by omega)
        · rw [mset_ne (by omega)]
          exact e2 j j0 (by omega)
      · rw [mset_ne (by omega)]
        exact e3 r j hne
theorem F293_0s {k : Int} : ∀ (n : Nat) (q : Int) (m0 m : zHM), 0 ≤ k → k < 2 → 0 ≤ q → q ≤ 2140 → 2140 - q < n → (∀ j, 0 ≤ j → j < q → m 14 j = m0 16 (2140 * k + j)) → (∀ r j, ¬ (r = 14 ∧ 0 ≤ j ∧ j < 2140) → m r j = m0 r j) → ∃ m', F293_0 n k q m = F293_1 zFu k 0 m' ∧ (∀ j, 0 ≤ j → j < 2140 → m' 14 j = m0 16 (2140 * k + j)) ∧ (∀ r j, ¬ (r = 14 ∧ 0 ≤ j ∧ j < 2140) → m' r j = m0 r j) := by
  intro n
  induction n with
  | zero => intro q m0 m K0 K1 q0 q1 g; omega
  | succ n ih =>
    intro q m0 m K0 K1 q0 q1 g e2 e3
    rw [F293_0]
    by_cases e : q = 2140
    · subst e
      rw [if_pos (by omega)]
      exact ⟨m, rfl, e2, e3⟩
    · rw [if_neg (by omega), wmul_eq (by omega) (by omega), wadd_eq (x := 2140 * k) (by omega) (by omega), zG_t (by omega), zG_t (by omega), wadd_eq (by omega) (by omega)]
      refine ih (q + 1) m0 _ K0 K1 (by omega) (by omega) (by omega) (fun j j0 j1 => ?_) (fun r j hne => ?_)
      · by_cases u : j = q
        · subst u
          rw [mset_eq]
          exact e3 16 _ (by omega)
        · rw [mset_ne (by omega)]
          exact e2 j j0 (by omega)
      · rw [mset_ne (by omega)]
        exact e3 r j hne
theorem C_restore {hc : zHC} {hm : zHM} {v : Int} (h : RG hc hm) : ∃ r hc' hm', F161 v hc = some (r, hc') ∧ F293 v hm = some (r, hm') ∧ RG hc' hm' := by
  have big := zFu_big
  unfold F161 F293 F55
  rw [E188]
  simp only [Option.bind_some]
  by_cases q0 : v < 0
  · rw [if_pos q0, if_neg (show ¬ (0 ≤ v ∧ v ≤ 1) by omega), z00]
    exact ⟨_, _, _, rfl, rfl, RG_0 h⟩
  · rw [if_neg q0]
    by_cases q1 : 2 ≤ v
    · rw [if_pos q1, if_neg (show ¬ (0 ≤ v ∧ v ≤ 1) by omega), z00]
      exact ⟨_, _, _, rfl, rfl, RG_0 h⟩
    · rw [if_neg q1, if_pos (show 0 ≤ v ∧ v ≤ 1 by omega), z10, zG_t (by omega), zG_t (by omega)]
      have b := h
      obtain ⟨b1, b2, b3, b4, b5, b6, b7, b8, b9⟩ := b
      obtain ⟨a1, a2, a3⟩ := b4 v (by omega) (by omega)
      rw [a1]
      by_cases q2 : hm 22 v = 0
      · simp (disch := omega) only [zG_t]
        rw [if_neg (show ¬ ¬ hm 22 v = 0 from fun z => z q2), if_neg (show ¬ ¬ hm 22 v = 0 from fun z => z q2)]
        exact ⟨_, _, _, rfl, rfl, RG_0 h⟩
      · rw [if_pos q2, if_pos q2, zG_t (by omega)]
        obtain ⟨x1, x2, x3⟩ := a3 (by omega)
        rw [show 2 + v = v + 2 by omega] at x1 x3
        rw [show 10 + v = v + 10 by omega] at x2
        obtain ⟨h1, c1, c2, c3, c4, c5, c6, c7⟩ := L52 (h := hc) (i := 0) (j := v + 2) (by omega)
        have hV1 := VR_cong c2 c3 c4 c5 c6 (fun _ _ _ => rfl) (fun _ _ _ => rfl) x1
        have hC1 := CR_keep (h' := h1) (fun r j _ _ => c7 r (v + 10) j (by omega)) (fun _ _ _ => rfl) rfl rfl (VR_n x1) x2
        obtain ⟨h2, d1, d2, d3⟩ := L71 (i := 0) (j := v + 10) (by omega) hC1 (VR_n x1)
        have hS2 := RSn_cong (h' := h2) (i' := v + 2) (by rw [d3 384 _ 0 (by omega), c7 384 _ 0 (by omega)]) (by rw [d3 385 _ 0 (by omega), c7 385 _ 0 (by omega)]) (fun j _ _ => by rw [d3 386 _ j (by omega), c7 386 _ j (by omega)]) (fun _ _ _ => rfl) x3
        obtain ⟨h3, e1, e2, e3⟩ := L155 (i := 0) (j := v + 2) (by omega) hS2
        obtain ⟨m1, u1, u2, u3⟩ := F293_0s (k := v) zFu 0 (mset hm 0 0 0) (mset hm 0 0 0) (by omega) (by omega) (by decide) (by decide) (by omega) (fun j j0 j1 => by omega) (fun _ _ _ => rfl)
        obtain ⟨m2, w1, w2, w3, w4⟩ := F293_1s (k := v) zFu 0 m1 m1 (by omega) (by omega) (by decide) (by decide) (by omega) (fun j j0 j1 => by omega) (fun _ _ _ => rfl)
        rw [c1, Option.bind_some, zG_t (by omega), d1, Option.bind_some, zG_t (by omega), e1, Option.bind_some, u1, w1]
        have f1 : ∀ r n j, ¬ ((576 ≤ r ∧ r ≤ 595 ∧ n = 0) ∨ (64 ≤ r ∧ r ≤ 72 ∧ n = 0) ∨ (384 ≤ r ∧ r ≤ 386 ∧ n = 0) ∨ (r = 512 ∧ n = 0 ∧ j = 0)) → (hset h3 512 0 0 0) r n j = hc r n j := fun r n j g => by rw [hset_ne (by omega), e3 r n j (by omega), d3 r n j (by omega), c7 r n j (by omega)]
        have f2 : ∀ r j, ¬ (r = 0 ∨ (r = 14 ∧ 0 ≤ j ∧ j < 2140) ∨ (r = 19 ∧ 0 ≤ j ∧ j < 12) ∨ (r = 23 ∧ j = 0)) → m2 r j = hm r j := fun r j g => by rw [w4 r j (by omega), u3 r j (by omega), mset_ne (by omega)]
        have e14 : ∀ j, 0 ≤ j → j < 2140 → m2 14 j = hm 16 (2140 * v + j) := fun j j0 j1 => by rw [w4 14 j (by omega), u2 j j0 j1, mset_ne (by omega)]
        have e19 : ∀ j, 0 ≤ j → j < 12 → m2 19 j = hm 21 (12 * v + j) := fun j j0 j1 => by rw [w3 j j0 j1, u3 21 _ (by omega), mset_ne (by omega)]
        refine ⟨_, _, _, rfl, rfl, RTp_keep (fun r j _ _ => f1 r 0 j (by omega)) (fun r j g => f2 r j (by omega)) b1, ⟨VR_keep (fun r j g0 g1 => ?_) (fun j j0 j1 => e14 j j0 (by omega)) e19 hV1, CR_keep (fun r j g0 g1 => ?_) (fun j j0 j1 => e14 j (by omega) (by omega)) (e14 2 (by decide) (by decide)) (e14 3 (by decide) (by decide)) (VR_n x1) d2⟩, ⟨by rw [hset_eq, w2], by rw [w2]; decide, by rw [w2]; decide, by rw [f1 513 0 0 (by omega)]; exact b3.2.2.2.1, by rw [f1 513 0 0 (by omega)]; exact b3.2.2.2.2.1, fun j j0 j1 => by rw [w2] at j1; omega⟩, RIm_keep (fun r n j g => f1 r n j (by omega)) (fun r j g => f2 r j (by omega)) b4, RSn_cong (hset_ne (by omega)) (hset_ne (by omega)) (fun j _ _ => hset_ne (by omega)) (fun j j0 j1 => e14 j (by omega) j1) e2, RPc_keep (fun r j g => f1 r 0 j (by omega)) (fun r j g => f2 r j (by omega)) b6, RSt_keep (fun r j g => f1 r 0 j (by omega)) (fun j => f2 41 j (by omega)) b7, RWr_keep (fun r j g => f1 r 0 j (by omega)) (fun r j g => f2 r j (by omega)) b8, RKw_keep (fun j => f1 330 0 j (by omega)) b9⟩
        · rw [hset_ne (by omega), e3 r _ j (by omega), d3 r _ j (by omega)]
        · rw [hset_ne (by omega), e3 r _ j (by omega)]
end
section
/-! said: what a sentence tells of a saying. -/
def zCc (r x y : Int) : Bool := if x = 60 then decide (r < y) else if x = 62 then decide (y < r) else decide (r = y)
def zCm (r x y : Int) : Bool := if x = 60 then decide (r < y) else if x = 61 then decide (r = y) else decide (y < r)
def zB (m : zHM) (s : Int) (c : Int → Int → Int → Bool) (w x y : Int) : Bool := if w = 13 then decide (F291 s m = some 1) else if w = 14 then decide (¬ (F215 (m 14 (217 + 8 * s + 5)) = some 0 ∨ F215 (m 14 (217 + 8 * s + 5)) = some 1)) else if w = 15 then decide (F65 (m 14 (217 + 8 * s + 5)) y = some 1) else if w = 16 then decide (m 14 (217 + 8 * s + 1) = y) else if w = 17 then c (m 14 (217 + 8 * s + 0)) x y else if w = 18 then c (m 14 (217 + 8 * s + 4)) x y else if w = 19 then c (m 14 (217 + 8 * s + 2)) x y else if w = 20 then c (m 14 (217 + 8 * s + 6)) x y else false
theorem zCm_cc {r x y : Int} (h0 : 60 ≤ x) (h1 : x ≤ 62) : zCm r x y = zCc r x y := by
  unfold zCm zCc
  by_cases a : x = 60
  · rw [if_pos a, if_pos a]
  · rw [if_neg a, if_neg a]
    by_cases b : x = 61
    · rw [if_pos b, if_neg (by omega)]
    · rw [if_neg b, if_pos (by omega)]
theorem F159_s {r x y : Int} : F159 r x y = some (if zCc r x y = true then 1 else 0) := by
  unfold F159 zCc
  by_cases a : x = 60
  · rw [if_neg (fun z => z a), if_pos a]
    by_cases b : y ≤ r
    · rw [if_pos b, if_neg (by rw [decide_eq_true_eq]; omega)]
    · rw [if_neg b, if_pos (by rw [decide_eq_true_eq]; omega)]
  · rw [if_pos a, if_neg a]
    by_cases e : x = 62
    · rw [if_neg (fun z => z e), if_pos e]
      by_cases b : r ≤ y
      · rw [if_pos b, if_neg (by rw [decide_eq_true_eq]; omega)]
      · rw [if_neg b, if_pos (by rw [decide_eq_true_eq]; omega)]
    · rw [if_pos e, if_neg e]
      by_cases b : r = y
      · rw [if_neg (fun z => z b), if_pos (by rw [decide_eq_true_eq]; exact b)]
      · rw [if_pos b, if_neg (by rw [decide_eq_true_eq]; exact b)]
theorem K_lost1 {m : zHM} {s H : Int} (s0 : 0 ≤ s) (s1 : s < 30) (n6 : m 14 2 ≤ 6) (hD : SD (m 14) s H 6) (hA : ∀ c, 0 ≤ c → c < 6 → m 14 (457 + 18 * s + 3 * c) ≤ H) : ∀ (n : Nat) (q : Int), 0 ≤ q → q ≤ 6 → 6 - q < n → F291_0 m n s q = some 1 := by
  intro n
  induction n with
  | zero => intro q q0 q1 g; omega
  | succ n ih =>
    intro q q0 q1 g
    rw [F291_0]
    unfold F291_1
    by_cases e : m 14 2 ≤ q
    · rw [if_pos e]
    · rw [if_neg e, F219_s s0 s1 q0 (by omega) (by decide) (by decide), F219_s s0 s1 q0 (by omega) (by decide) (by decide), Int.add_zero, wadd_eq (by omega) (by omega)]
      simp only [Option.bind_some]
      obtain ⟨d1, d2, d3, d4, d5⟩ := hD q q0 (by omega)
      have dA := hA q q0 (by omega)
      by_cases u : m 14 (457 + 18 * s + 3 * q) ≤ 0
      · rw [if_pos u]
        exact ih (q + 1) (by omega) (by omega) (by omega)
      · rw [if_neg u, d4, if_pos (show ¬ m 14 (457 + 18 * s + 3 * q) = 0 ∧ (m 14 (457 + 18 * s + 3 * q) < H ∨ m 14 (457 + 18 * s + 3 * q) = H ∧ q < 6) from ⟨by omega, by omega⟩), if_pos (by decide)]
        exact ih (q + 1) (by omega) (by omega) (by omega)
theorem K_lost0 {m : zHM} {s H c0 : Int} (s0 : 0 ≤ s) (s1 : s < 30) (n6 : m 14 2 ≤ 6) (hD : SD (m 14) s H 6) (c1 : c0 < m 14 2) (hA : H < m 14 (457 + 18 * s + 3 * c0)) (H0 : 0 ≤ H) : ∀ (n : Nat) (q : Int), 0 ≤ q → q ≤ c0 → 6 - q < n → F291_0 m n s q = some 0 := by
  intro n
  induction n with
  | zero => intro q q0 q1 g; omega
  | succ n ih =>
    intro q q0 q1 g
    rw [F291_0]
    unfold F291_1
    rw [if_neg (show ¬ m 14 2 ≤ q by omega), F219_s s0 s1 q0 (by omega) (by decide) (by decide), F219_s s0 s1 q0 (by omega) (by decide) (by decide), Int.add_zero, wadd_eq (by omega) (by omega)]
    simp only [Option.bind_some]
    obtain ⟨d1, d2, d3, d4, d5⟩ := hD q q0 (by omega)
    by_cases u : q = c0
    · subst u
      rw [if_neg (show ¬ m 14 (457 + 18 * s + 3 * q) ≤ 0 by omega), d4, if_neg (show ¬ (¬ m 14 (457 + 18 * s + 3 * q) = 0 ∧ (m 14 (457 + 18 * s + 3 * q) < H ∨ m 14 (457 + 18 * s + 3 * q) = H ∧ q < 6)) from fun z => by omega), if_neg (by decide)]
    · have nx := ih (q + 1) (by omega) (by omega) (by omega)
      by_cases v : m 14 (457 + 18 * s + 3 * q) ≤ 0
      · rw [if_pos v]
        exact nx
      · rw [if_neg v]
        by_cases w : ¬ m 14 (457 + 18 * s + 3 * q + 2) = 0
        · rw [if_pos w]
          exact nx
        · rw [if_neg w]
theorem L_lost {hc : zHC} {m : zHM} {s : Int} (h : RG hc m) (s0 : 0 ≤ s) (s1 : s < m 14 216) : F291 s m = some (if m 14 (217 + 8 * s + 6) = 0 ∧ hc 72 0 s = 1000000 then 1 else 0) ∧ F125 0 s hc = some (if hc 72 0 s = 1000000 then 0 else 1) := by
  have w6 := RG_WN h
  unfold WN at w6
  have big := zFu_big
  obtain ⟨⟨r1, r2, r3, r4, r5, r6, r7⟩, hL, ⟨⟨c1, c2⟩, ⟨c3, c4⟩, c5, -⟩⟩ := h.2.1.2
  obtain ⟨t1, t2, t3, t4⟩ := r7 s s0 (by omega)
  rw [show (0 : Int) + s = s by omega] at t1 t2
  obtain ⟨hD, hF⟩ := c5 s s0 s1
  have o6 := hF.2.2.2.2.2.2.1.1
  constructor
  · unfold F291
    rw [F213_s s0 (by omega) (by decide) (by decide), Option.bind_some]
    by_cases a : m 14 (217 + 8 * s + 6) = 0
    · rw [if_pos (show m 14 (217 + 8 * s + 6) ≤ 0 by omega)]
      by_cases b : hc 72 0 s = 1000000
      · rw [if_pos ⟨a, b⟩]
        refine K_lost1 s0 (by omega) (by omega) hD (fun c g0 g1 => ?_) zFu 0 (by decide) (by decide) (by omega)
        have u := t3 c g0 g1
        have v := (t2 c g0 g1).1
        have d := (hD c g0 g1).2.1
        by_cases z : m 14 (457 + 18 * s + 3 * c) = 0
        · omega
        · rw [if_neg z] at v
          omega
      · rw [if_neg (fun z => b z.2)]
        rcases t4 with t4 | ⟨c, g0, g1, g2, g3⟩
        · exact absurd t4 b
        · have v := (t2 c g0 g1).1
          by_cases z : m 14 (457 + 18 * s + 3 * c) = 0
          · rw [if_pos z] at v
            omega
          · rw [if_neg z] at v
            have d5 := (hD c g0 g1).2.2.2.2
            exact K_lost0 (c0 := c) s0 (by omega) (by omega) hD (by by_cases y : m 14 2 ≤ c; exact absurd (d5 y) z; omega) (by omega) c1 zFu 0 (by decide) g0 (by omega)
    · rw [if_neg (show ¬ m 14 (217 + 8 * s + 6) ≤ 0 by omega), if_neg (fun z => a z.1)]
  · unfold F125
    rw [zG_t (by omega)]
    by_cases b : hc 72 0 s = 1000000
    · rw [if_pos b, if_pos b]
    · rw [if_neg b, if_neg b]
theorem L158 {hc : zHC} {m : zHM} {s q : Int} (h : RG hc m) (s0 : 0 ≤ s) (s1 : s < m 14 216) (q0 : 0 ≤ q) (q1 : q + 2 < 120) : F158 0 0 s q hc = some (if zB m s zCc (hc 386 0 q) (hc 386 0 (q + 1)) (hc 386 0 (q + 2)) = true then 1 else 0) := by
  obtain ⟨l1, l2⟩ := L_lost h s0 s1
  obtain ⟨⟨r1, r2, r3, r4, r5, r6, r7⟩, hL, ⟨⟨c1, c2⟩, ⟨c3, c4⟩, c5, -⟩⟩ := h.2.1.2
  obtain ⟨t1, t2, t3, t4⟩ := r7 s s0 (by omega)
  rw [show (0 : Int) + s = s by omega] at t1 t2
  obtain ⟨hD, hF⟩ := c5 s s0 s1
  have o5 := hF.2.2.2.2.2.1
  unfold F158
  rw [wadd_eq (y := 1) (by omega) (by omega), wadd_eq (y := 2) (by omega) (by omega), zG_t (by omega), zG_t (by omega), zG_t (by omega), F63_s s0 (by omega) (by decide) (by decide), F63_s s0 (by omega) (by decide) (by decide), F63_s s0 (by omega) (by decide) (by decide), F63_s s0 (by omega) (by decide) (by decide), F63_s s0 (by omega) (by decide) (by decide), F63_s s0 (by omega) (by decide) (by decide), t1 6 (by decide) (by decide), t1 5 (by decide) (by decide), t1 1 (by decide) (by decide), t1 0 (by decide) (by decide), t1 4 (by decide) (by decide), t1 2 (by decide) (by decide), l2]
  generalize hc 386 0 q = w
  generalize hc 386 0 (q + 1) = x
  generalize hc 386 0 (q + 2) = y
  unfold zB
  simp only [Option.bind_some, F159_s]
  by_cases a : w = 13
  · rw [if_pos a, if_pos a, l1]
    by_cases b : m 14 (217 + 8 * s + 6) = 0
    · by_cases e : hc 72 0 s = 1000000
      · rw [if_neg (fun z => z b), show (if m 14 (217 + 8 * s + 6) = 0 ∧ hc 72 0 s = 1000000 then (1 : Int) else 0) = 1 from if_pos ⟨b, e⟩, if_pos e]
        rfl
      · rw [if_neg (fun z => z b), show (if m 14 (217 + 8 * s + 6) = 0 ∧ hc 72 0 s = 1000000 then (1 : Int) else 0) = 0 from if_neg (fun z => e z.2), if_neg e]
        rfl
    · rw [if_pos b, show (if m 14 (217 + 8 * s + 6) = 0 ∧ hc 72 0 s = 1000000 then (1 : Int) else 0) = 0 from if_neg (fun z => b z.1)]
      rfl
  · rw [if_neg a, if_neg a]
    by_cases a : w = 14
    · rw [if_pos a, if_pos a]
      obtain ⟨r, e1, e2, e3, e4, e5⟩ := F64_s (x := m 14 (217 + 8 * s + 5)) (by omega) o5.2
      rw [e1, e2, Option.bind_some]
      by_cases b : r ≤ 1
      · rw [if_pos b, if_neg]
        rw [decide_eq_true_eq]
        intro z
        refine z ?_
        by_cases y0 : r = 0
        · exact Or.inl (by rw [y0])
        · exact Or.inr (by rw [show r = 1 by omega])
      · rw [if_neg b, if_pos]
        rw [decide_eq_true_eq]
        intro z
        rcases z with z | z
        · exact b (by have := Option.some.inj z; omega)
        · exact b (by have := Option.some.inj z; omega)
    · rw [if_neg a, if_neg a]
      by_cases a : w = 15
      · rw [if_pos a, if_pos a]
        rcases F65_01 (x := m 14 (217 + 8 * s + 5)) (p := y) with u | u
        · rw [u]
          rfl
        · rw [u]
          rfl
      · rw [if_neg a, if_neg a]
        by_cases a : w = 16
        · rw [if_pos a, if_pos a]
          by_cases b : m 14 (217 + 8 * s + 1) = y
          · rw [if_neg (fun z => z b), if_pos (by rw [decide_eq_true_eq]; exact b)]
          · rw [if_pos b, if_neg (by rw [decide_eq_true_eq]; exact b)]
        · rw [if_neg a, if_neg a]
          have cc : ∀ b : Bool, zG ((if b = true then (1 : Int) else 0) = 0 ∨ (if b = true then (1 : Int) else 0) = 1) (some (if b = true then (1 : Int) else 0)) = some (if b = true then (1 : Int) else 0) := fun b => by cases b <;> rfl
          rw [cc, cc, cc, cc]
          by_cases a : w = 17
          · rw [if_pos a, if_pos a]
          · rw [if_neg a, if_neg a]
            by_cases a : w = 18
            · rw [if_pos a, if_pos a]
            · rw [if_neg a, if_neg a]
              by_cases a : w = 19
              · rw [if_pos a, if_pos a]
              · rw [if_neg a, if_neg a]
                by_cases a : w = 20
                · rw [if_pos a, if_pos a]
                · rw [if_neg a, if_neg a, zG_t (by omega), if_neg (by decide)]
end
section
/-! said, whole. -/
theorem zEv_f {nd : Int → Int} {f f' : Int → Int → Int → Bool} (hf : ∀ w x y, 13 ≤ w → w ≤ 20 → (17 ≤ w → 60 ≤ x ∧ x ≤ 62) → f' w x y = f w x y) : ∀ (n : Nat) (k : Int), zEv nd f' n k = zEv nd f n k := by
  intro n
  induction n with
  | zero => intro k; rfl
  | succ n ih =>
    intro k
    rw [zEv, zEv]
    simp only [ih]
    by_cases q : 63 ≤ nd (4 * k) ∧ nd (4 * k) ≤ 70 ∧ (nd (4 * k) ≤ 66 → nd (4 * k + 2) = 0) ∧ (67 ≤ nd (4 * k) → nd (4 * k + 1) = 0 ∧ 60 ≤ nd (4 * k + 3) ∧ nd (4 * k + 3) ≤ 62)
    · simp only [if_pos q]
      rw [hf (nd (4 * k) - 50) (nd (4 * k + 3)) (nd (4 * k + 1) + nd (4 * k + 2)) (by omega) (by omega) (fun g => ⟨(q.2.2.2 (by omega)).2.1, (q.2.2.2 (by omega)).2.2⟩)]
    · simp only [if_neg q]
theorem L290a {kR : Int → Int → zHM → Option Int} {m : zHM} {s a x y w : Int} (s0 : 0 ≤ s) (s1 : s < m 14 216) (s2 : m 14 216 ≤ 30) (a0 : 0 ≤ a) (a1 : a + 3 < 2140) (hx : m 14 (a + 3) = x) (x0 : 60 ≤ x) (x1 : x ≤ 62) (w0 : 0 ≤ w) (w1 : w < 8) : F290_1 kR m a y w s = some (if zCm (m 14 (217 + 8 * s + w)) x y = true then 1 else 0) := by
  unfold F290_1 zCm
  rw [F213_s s0 (by omega) w0 w1, Option.bind_some, wadd_eq (by omega) (by omega), zG_t (by omega), hx]
  by_cases a : x = 60
  · rw [if_neg (fun z => z a), if_pos a]
    by_cases b : y ≤ m 14 (217 + 8 * s + w)
    · rw [if_pos b, if_neg (by rw [decide_eq_true_eq]; omega)]
    · rw [if_neg b, if_pos (by rw [decide_eq_true_eq]; omega)]
  · rw [if_pos a, if_neg a, zG_t (by omega)]
    by_cases e : x = 61
    · rw [if_neg (fun z => z e), if_pos e]
      by_cases b : m 14 (217 + 8 * s + w) = y
      · rw [if_neg (fun z => z b), if_pos (by rw [decide_eq_true_eq]; exact b)]
      · rw [if_pos b, if_neg (by rw [decide_eq_true_eq]; exact b)]
    · rw [if_pos e, if_neg e]
      by_cases b : m 14 (217 + 8 * s + w) ≤ y
      · rw [if_pos b, if_neg (by rw [decide_eq_true_eq]; omega)]
      · rw [if_neg b, if_pos (by rw [decide_eq_true_eq]; omega)]
theorem L290 {hc : zHC} {m : zHM} {s : Int} (h : RG hc m) (s0 : 0 ≤ s) (s1 : s < m 14 216) : ∀ (n : Nat) (k : Int) (b : Bool), zEv (fun j => m 14 (1900 + j)) (zB m s zCm) n k = some b → F290r n k s m = some (if b = true then 1 else 0) := by
  obtain ⟨l1, l2⟩ := L_lost h s0 s1
  obtain ⟨⟨r1, r2, r3, r4, r5, r6, r7⟩, hL, ⟨⟨c1, c2⟩, ⟨c3, c4⟩, c5, -⟩⟩ := h.2.1.2
  obtain ⟨hD, hF⟩ := c5 s s0 s1
  have o5 := hF.2.2.2.2.2.1
  intro n
  induction n with
  | zero => intro k b e; cases e
  | succ n ih =>
    intro k b e
    rw [zEv] at e
    by_cases q : 0 ≤ k ∧ k < 60
    · rw [if_pos q] at e
      rw [F290r]
      unfold F290 F290_0
      rw [wmul_eq (by omega) (by omega), wadd_eq (x := 1900) (by omega) (by omega), wadd_eq (x := 1900 + 4 * k) (by omega) (by omega), wadd_eq (x := 1900 + 4 * k) (by omega) (by omega), zG_t (by omega), zG_t (by omega), zG_t (by omega)]
      have x1 : m 14 (1900 + (4 * k + 1)) = m 14 (1900 + 4 * k + 1) := by rw [Int.add_assoc]
      have x2 : m 14 (1900 + (4 * k + 2)) = m 14 (1900 + 4 * k + 2) := by rw [Int.add_assoc]
      have x3 : m 14 (1900 + (4 * k + 3)) = m 14 (1900 + 4 * k + 3) := by rw [Int.add_assoc]
      rw [x1, x2, x3] at e
      by_cases a : m 14 (1900 + 4 * k) = 1
      · rw [if_pos a] at e ⊢
        obtain ⟨b1, y1, y2⟩ := Option.bind_eq_some_iff.mp e
        rw [ih _ _ y1, Option.bind_some, ← Option.some.inj y2]
        cases b1 <;> rfl
      · rw [if_neg a] at e ⊢
        by_cases a : m 14 (1900 + 4 * k) = 2
        · rw [if_pos a] at e ⊢
          obtain ⟨b1, y1, y2⟩ := Option.bind_eq_some_iff.mp e
          obtain ⟨b2, y3, y4⟩ := Option.bind_eq_some_iff.mp y2
          rw [ih _ _ y1, Option.bind_some, ih _ _ y3, Option.bind_some, ← Option.some.inj y4]
          cases b1 <;> cases b2 <;> rfl
        · rw [if_neg a] at e ⊢
          by_cases a : m 14 (1900 + 4 * k) = 3
          · rw [if_pos a] at e ⊢
            obtain ⟨b1, y1, y2⟩ := Option.bind_eq_some_iff.mp e
            obtain ⟨b2, y3, y4⟩ := Option.bind_eq_some_iff.mp y2
            rw [ih _ _ y1, Option.bind_some, ih _ _ y3, Option.bind_some, ← Option.some.inj y4]
            cases b1 <;> cases b2 <;> rfl
          · rw [if_neg a] at e ⊢
            by_cases g : 63 ≤ m 14 (1900 + 4 * k) ∧ m 14 (1900 + 4 * k) ≤ 70 ∧ (m 14 (1900 + 4 * k) ≤ 66 → m 14 (1900 + 4 * k + 2) = 0) ∧ (67 ≤ m 14 (1900 + 4 * k) → m 14 (1900 + 4 * k + 1) = 0 ∧ 60 ≤ m 14 (1900 + 4 * k + 3) ∧ m 14 (1900 + 4 * k + 3) ≤ 62)
            · rw [if_pos g] at e
              obtain ⟨g1, g2, g3, g4⟩ := g
              rw [← Option.some.inj e]
              unfold zB
              by_cases a : m 14 (1900 + 4 * k) = 63
              · rw [if_pos a, if_pos (show m 14 (1900 + 4 * k) - 50 = 13 by omega), l1, Option.bind_some]
                by_cases z : m 14 (217 + 8 * s + 6) = 0 ∧ hc 72 0 s = 1000000
                · rw [show (if m 14 (217 + 8 * s + 6) = 0 ∧ hc 72 0 s = 1000000 then (1 : Int) else 0) = 1 from if_pos z]
                  rfl
                · rw [show (if m 14 (217 + 8 * s + 6) = 0 ∧ hc 72 0 s = 1000000 then (1 : Int) else 0) = 0 from if_neg z]
                  rfl
              · rw [if_neg a, if_neg (show ¬ m 14 (1900 + 4 * k) - 50 = 13 by omega)]
                by_cases a : m 14 (1900 + 4 * k) = 64
                · rw [if_pos a, if_pos (show m 14 (1900 + 4 * k) - 50 = 14 by omega), F213_s s0 (by omega) (by decide) (by decide), Option.bind_some]
                  obtain ⟨r, e1, e2, e3, e4, e5⟩ := F64_s (x := m 14 (217 + 8 * s + 5)) (by omega) o5.2
                  rw [e2, Option.bind_some]
                  by_cases b : r ≤ 1
                  · rw [if_pos b, if_neg]
                    rw [decide_eq_true_eq]
                    intro z
                    refine z ?_
                    by_cases y0 : r = 0
                    · exact Or.inl (by rw [y0])
                    · exact Or.inr (by rw [show r = 1 by omega])
                  · rw [if_neg b, if_pos]
                    rw [decide_eq_true_eq]
                    intro z
                    rcases z with z | z
                    · exact b (by have := Option.some.inj z; omega)
                    · exact b (by have := Option.some.inj z; omega)
                · rw [if_neg a, if_neg (show ¬ m 14 (1900 + 4 * k) - 50 = 14 by omega)]
                  by_cases a : m 14 (1900 + 4 * k) = 65
                  · rw [if_pos a, if_pos (show m 14 (1900 + 4 * k) - 50 = 15 by omega), F213_s s0 (by omega) (by decide) (by decide), Option.bind_some, E214, g3 (by omega), Int.add_zero]
                    rcases F65_01 (x := m 14 (217 + 8 * s + 5)) (p := m 14 (1900 + 4 * k + 1)) with u | u
                    · rw [u]
                      rfl
                    · rw [u]
                      rfl
                  · rw [if_neg a, if_neg (show ¬ m 14 (1900 + 4 * k) - 50 = 15 by omega)]
                    by_cases a : m 14 (1900 + 4 * k) = 66
                    · rw [if_pos a, if_pos (show m 14 (1900 + 4 * k) - 50 = 16 by omega), F213_s s0 (by omega) (by decide) (by decide), Option.bind_some, g3 (by omega), Int.add_zero]
                      by_cases b : m 14 (217 + 8 * s + 1) = m 14 (1900 + 4 * k + 1)
                      · rw [if_neg (fun z => z b), if_pos (by rw [decide_eq_true_eq]; exact b)]
                      · rw [if_pos b, if_neg (by rw [decide_eq_true_eq]; exact b)]
                    · obtain ⟨g5, g6, g7⟩ := g4 (by omega)
                      rw [if_neg a, if_neg (show ¬ m 14 (1900 + 4 * k) - 50 = 16 by omega), zG_t (by omega), wsub_eq (by omega) (by omega), g5, Int.zero_add]
                      have la := fun w w0 w1 => L290a (kR := F290r n) (m := m) (s := s) (a := 1900 + 4 * k) (y := m 14 (1900 + 4 * k + 2)) (w := w) s0 s1 c4 (by omega) (by omega) rfl g6 g7 w0 w1
                      by_cases a : m 14 (1900 + 4 * k) - 50 = 17
                      · rw [if_neg (fun z => z a), if_pos a]
                        exact la 0 (by decide) (by decide)
                      · rw [if_pos a, if_neg a]
                        by_cases a : m 14 (1900 + 4 * k) - 50 = 18
                        · rw [if_neg (fun z => z a), if_pos a]
                          exact la 4 (by decide) (by decide)
                        · rw [if_pos a, if_neg a]
                          by_cases a : m 14 (1900 + 4 * k) - 50 = 19
                          · rw [if_neg (fun z => z a), if_pos a]
                            exact la 2 (by decide) (by decide)
                          · rw [if_pos a, if_neg a, if_pos (show m 14 (1900 + 4 * k) - 50 = 20 by omega)]
                            exact la 6 (by decide) (by decide)
            · rw [if_neg g] at e
              cases e
    · rw [if_neg q] at e
      cases e
end
section
/-! said, the class's steps. -/
def zSk (h : zHC) : List Bool → Prop
  | [] => True
  | b :: r => h 387 0 (r.length : Int) = (if b = true then 1 else 0) ∧ zSk h r
theorem zSk_ne {h h' : zHC} : ∀ (stk : List Bool), (∀ j : Int, 0 ≤ j → j < (stk.length : Int) → h' 387 0 j = h 387 0 j) → zSk h stk → zSk h' stk := by
  intro stk
  induction stk with
  | nil => intro _ _; trivial
  | cons b r ih =>
    intro hj hS
    have e : ((b :: r).length : Int) = (r.length : Int) + 1 := by rw [List.length_cons]; omega
    exact ⟨by rw [hj _ (by omega) (by omega)]; exact hS.1, ih (fun j j0 j1 => hj j j0 (by omega)) hS.2⟩
theorem K157_push {k0 : Int → Int → Int → Int → Int → zHC → Option (Int × zHC)} {h : zHC} {m : zHM} {s k v : Int} (hR : RG h m) (s0 : 0 ≤ s) (s1 : s < m 14 216) (k0' : 0 ≤ k) (k1 : k < 40) (v0 : 0 ≤ v) (v1 : v < 40) : F157_7 k0 0 0 s v k h = k0 0 0 s (v + 1) (k + 1) (hset h 387 0 v (if zB m s zCc (h 386 0 (k * 3)) (h 386 0 (k * 3 + 1)) (h 386 0 (k * 3 + 2)) = true then 1 else 0)) := by
  unfold F157_7 F157_3
  rw [if_neg (by omega), wmul_eq (by omega) (by omega), L158 hR s0 s1 (by omega) (by omega), Option.bind_some, zG_t (by omega), wadd_eq (by omega) (by omega), wadd_eq (by omega) (by omega)]
  cases zB m s zCc (h 386 0 (k * 3)) (h 386 0 (k * 3 + 1)) (h 386 0 (k * 3 + 2)) <;> rfl
theorem zEx_s {f : Int → Int → Int → Bool} {c : Int → Int} {k : Nat} : zEx f (zCl c (k + 1)) [] = zEx1 f (c (k * 3), c (k * 3 + 1), c (k * 3 + 2)) (zEx f (zCl c k) []) := by
  unfold zEx
  rw [zCl, List.foldl_append]
  rfl
theorem zb01 {b : Bool} : (if b = true then (1 : Int) else 0) = 0 ↔ b = false := by cases b <;> decide
theorem L157 {m : zHM} {s : Int} {b : Bool} {N : Nat} (s0 : 0 ≤ s) (s1 : s < m 14 216) (hN : N ≤ 40) : ∀ (n k : Nat) (h : zHC) (stk : List Bool), RG h m → h 385 0 0 = (N : Int) → k ≤ N → N - k < n → stk = zEx (zB m s zCc) (zCl (h 386 0) k) [] → stk.length ≤ k → zSk h stk → zEx (zB m s zCc) (zCl (h 386 0) N) [] = [b] → ∃ h', F157_0 n 0 0 s (stk.length : Int) (k : Int) h = some ((if b = true then 1 else 0), h') ∧ (∀ r n j, ¬ r = 387 → h' r n j = h r n j) := by
  intro n
  induction n with
  | zero => intro k h stk _ _ _ g; omega
  | succ n ih =>
    intro k h stk hR h5 k1 g1 hs hl hS hE
    rw [F157_0, h5]
    by_cases q : k = N
    · rw [if_pos (by omega)]
      have e : stk = [b] := by rw [hs, q]; exact hE
      subst e
      have e1 : h 387 0 0 = (if b = true then 1 else 0) := hS.1
      rw [show ((([b] : List Bool).length : Nat) : Int) = 1 from rfl, if_neg (by decide), show wsub 1 1 = 0 by decide, zG_t (by decide), e1]
      refine ⟨h, ?_, fun _ _ _ _ => rfl⟩
      cases b <;> rfl
    · rw [if_neg (by omega), wmul_eq (by omega) (by omega), zG_t (by omega)]
      have fin : ∀ (S : List Bool) (h1 : zHC) (v v' : Int), (∀ r n j, ¬ r = 387 → h1 r n j = h r n j) → S = zEx1 (zB m s zCc) (h 386 0 (k * 3), h 386 0 (k * 3 + 1), h 386 0 (k * 3 + 2)) stk → (S.length : Int) = v → v ≤ (k : Int) + 1 → v' = (k : Int) + 1 → zSk h1 S → ∃ h', F157_0 n 0 0 s v v' h1 = some ((if b = true then 1 else 0), h') ∧ (∀ r n j, ¬ r = 387 → h' r n j = h r n j) := by
        intro S h1 v v' f1 eS e1 e2 e3 hS1
        have e386 : h1 386 0 = h 386 0 := funext fun j => f1 386 0 j (by decide)
        obtain ⟨h', a1, a2⟩ := ih (k + 1) h1 S (RG_sc hR (fun r n j g => f1 r n j (by omega)) scM_refl) (by rw [f1 385 0 0 (by decide)]; exact h5) (by omega) (by omega) (by rw [e386, zEx_s, ← hs]; exact eS) (by omega) hS1 (by rw [e386]; exact hE)
        rw [e1, show ((k + 1 : Nat) : Int) = v' by omega] at a1
        exact ⟨h', a1, fun r n j g => by rw [a2 r n j g, f1 r n j g]⟩
      have push : zEx1 (zB m s zCc) (h 386 0 (k * 3), h 386 0 (k * 3 + 1), h 386 0 (k * 3 + 2)) stk = zB m s zCc (h 386 0 (k * 3)) (h 386 0 (k * 3 + 1)) (h 386 0 (k * 3 + 2)) :: stk → ∃ h', F157_7 (F157_0 n) 0 0 s (stk.length : Int) (k : Int) h = some ((if b = true then 1 else 0), h') ∧ (∀ r n j, ¬ r = 387 → h' r n j = h r n j) := by
        intro e
        rw [K157_push hR s0 s1 (by omega) (by omega) (by omega) (by omega)]
        refine fin _ _ _ _ (fun r n j g => hset_ne (by omega)) e.symm (by rw [List.length_cons]; omega) (by omega) rfl ⟨hset_eq, zSk_ne stk (fun j j0 j1 => hset_ne (by omega)) hS⟩
      by_cases w12 : h 386 0 (k * 3) = 12
      · rw [if_neg (fun z => z w12)]
        cases stk with
        | nil =>
          rw [if_pos (by decide), w12]
          unfold F157_1 F157_4
          rw [if_pos (by decide), if_pos (by decide)]
          refine push ?_
          unfold zEx1
          rw [if_pos w12]
        | cons c r =>
          have el : ((c :: r).length : Int) = (r.length : Int) + 1 := by rw [List.length_cons]; omega
          rw [el]
          rw [if_neg (by omega), wsub_eq (by omega) (by omega), Int.add_sub_cancel, zG_t (by omega), hS.1]
          unfold F157_2 F157_3
          rw [wadd_eq (by omega) (by omega)]
          have st : ∀ x : Int, x = (if (!c) = true then 1 else 0) → ∃ h', F157_0 n 0 0 s ((r.length : Int) + 1) ((k : Int) + 1) (hset h 387 0 (r.length : Int) x) = some ((if b = true then 1 else 0), h') ∧ (∀ r n j, ¬ r = 387 → h' r n j = h r n j) := by
            intro x hx
            refine fin ((!c) :: r) _ _ _ (fun r n j g => hset_ne (by omega)) ?_ (by rw [List.length_cons]; omega) (by omega) rfl ⟨by rw [hset_eq]; exact hx, zSk_ne r (fun j j0 j1 => hset_ne (by omega)) hS.2⟩
            unfold zEx1
            rw [if_pos w12]
          by_cases u : c = true
          · rw [if_pos u, if_pos (by decide), zG_t (by omega), zG_t (by omega)]
            exact st 0 (by rw [u]; rfl)
          · rw [if_neg u, if_neg (by decide), zG_t (by omega), zG_t (by omega)]
            exact st 1 (by rw [Bool.not_eq_true] at u; rw [u]; rfl)
      · rw [if_pos w12]
        unfold F157_1 F157_4
        by_cases w11 : h 386 0 (k * 3) = 11
        · rw [if_neg (fun z => z w11)]
          have go10 : ¬ h 386 0 (k * 3) = 10 := by omega
          match stk, hs, hl, hS, fin, push with
          | [], hs, hl, hS, fin, push =>
            rw [if_pos (by decide), if_pos go10]
            refine push ?_
            unfold zEx1
            rw [if_neg w12, if_pos w11]
          | [c], hs, hl, hS, fin, push =>
            rw [if_pos (show ((([c] : List Bool).length : Nat) : Int) ≤ 1 from Int.le_refl 1), if_pos go10]
            refine push ?_
            unfold zEx1
            rw [if_neg w12, if_pos w11]
          | c :: d :: r, hs, hl, hS, fin, push =>
            have el : ((c :: d :: r).length : Int) = (r.length : Int) + 2 := by rw [List.length_cons, List.length_cons]; omega
            have el2 : ((d :: r).length : Int) = (r.length : Int) + 1 := by rw [List.length_cons]; omega
            have hl2 : (r.length : Int) + 2 ≤ k := by omega
            have c1 := hS.1
            have c2 := hS.2.1
            rw [el2] at c1
            rw [el]
            rw [if_neg (by omega), wadd_eq (x := (r.length : Int) + 2) (by omega) (by omega), show (r.length : Int) + 2 + -1 = (r.length : Int) + 1 by omega, wsub_eq (by omega) (by omega), Int.add_sub_cancel, zG_t (by omega), zG_t (by omega), c1, c2]
            unfold F157_5 F157_6 F157_3
            rw [wadd_eq (by omega) (by omega)]
            have st : ∀ x : Int, x = (if (d && c) = true then 1 else 0) → ∃ h', F157_0 n 0 0 s ((r.length : Int) + 1) ((k : Int) + 1) (hset h 387 0 (r.length : Int) x) = some ((if b = true then 1 else 0), h') ∧ (∀ r n j, ¬ r = 387 → h' r n j = h r n j) := by
              intro x hx
              refine fin ((d && c) :: r) _ _ _ (fun r n j g => hset_ne (by omega)) ?_ (by rw [List.length_cons]; omega) (by omega) rfl ⟨by rw [hset_eq]; exact hx, zSk_ne r (fun j j0 j1 => hset_ne (by omega)) hS.2.2⟩
              unfold zEx1
              rw [if_neg w12, if_pos w11]
            simp (disch := first | omega | decide) only [zG_t]
            cases d <;> cases c
            · exact st 0 rfl
            · exact st 0 rfl
            · exact st 0 rfl
            · exact st 1 rfl
        · rw [if_pos w11]
          by_cases w10 : h 386 0 (k * 3) = 10
          · rw [if_neg (fun z => z w10)]
            match stk, hs, hl, hS, fin, push with
            | [], hs, hl, hS, fin, push =>
              rw [if_pos (by decide)]
              refine push ?_
              unfold zEx1
              rw [if_neg w12, if_neg w11, if_pos w10]
            | [c], hs, hl, hS, fin, push =>
              rw [if_pos (show ((([c] : List Bool).length : Nat) : Int) ≤ 1 from Int.le_refl 1)]
              refine push ?_
              unfold zEx1
              rw [if_neg w12, if_neg w11, if_pos w10]
            | c :: d :: r, hs, hl, hS, fin, push =>
              have el : ((c :: d :: r).length : Int) = (r.length : Int) + 2 := by rw [List.length_cons, List.length_cons]; omega
              have el2 : ((d :: r).length : Int) = (r.length : Int) + 1 := by rw [List.length_cons]; omega
              have hl2 : (r.length : Int) + 2 ≤ k := by omega
              have c1 := hS.1
              have c2 := hS.2.1
              rw [el2] at c1
              rw [el]
              rw [if_neg (by omega), wadd_eq (x := (r.length : Int) + 2) (by omega) (by omega), show (r.length : Int) + 2 + -1 = (r.length : Int) + 1 by omega, wsub_eq (by omega) (by omega), Int.add_sub_cancel, zG_t (by omega), zG_t (by omega), c1, c2]
              unfold F157_8 F157_9 F157_3
              rw [wadd_eq (by omega) (by omega)]
              have st : ∀ x : Int, x = (if (d || c) = true then 1 else 0) → ∃ h', F157_0 n 0 0 s ((r.length : Int) + 1) ((k : Int) + 1) (hset h 387 0 (r.length : Int) x) = some ((if b = true then 1 else 0), h') ∧ (∀ r n j, ¬ r = 387 → h' r n j = h r n j) := by
                intro x hx
                refine fin ((d || c) :: r) _ _ _ (fun r n j g => hset_ne (by omega)) ?_ (by rw [List.length_cons]; omega) (by omega) rfl ⟨by rw [hset_eq]; exact hx, zSk_ne r (fun j j0 j1 => hset_ne (by omega)) hS.2.2⟩
                unfold zEx1
                rw [if_neg w12, if_neg w11, if_pos w10]
              simp (disch := first | omega | decide) only [zG_t]
              cases d <;> cases c
              · exact st 0 rfl
              · exact st 1 rfl
              · exact st 1 rfl
              · exact st 1 rfl
          · rw [if_pos w10]
            refine push ?_
            unfold zEx1
            rw [if_neg w12, if_neg w11, if_neg w10]
end
section
/-! said, whole. -/
theorem zB_f {m : zHM} {s w x y : Int} (w0 : 13 ≤ w) (w1 : w ≤ 20) (hx : 17 ≤ w → 60 ≤ x ∧ x ≤ 62) : zB m s zCm w x y = zB m s zCc w x y := by
  by_cases g : 17 ≤ w
  · have cc : ∀ r y, zCm r x y = zCc r x y := fun r y => zCm_cc (hx g).1 (hx g).2
    unfold zB
    simp only [cc]
  · have e : w = 13 ∨ w = 14 ∨ w = 15 ∨ w = 16 := by omega
    rcases e with e | e | e | e <;> subst e <;> rfl
theorem K_said {v : Int} : ∀ (n n' : Nat) (q d : Int) (h : zHC) (m : zHM), RG h m → ¬ h 384 0 0 = 0 → 0 ≤ q → q ≤ m 14 216 → 0 ≤ d → d ≤ q → m 14 216 - q < n → m 14 216 - q < n' → ∃ r h', F156_0 n v d q h = some (r, h') ∧ F289_0 n' v d q m = some (r, m) ∧ (∀ r n j, ¬ r = 387 → h' r n j = h r n j) ∧ (v < -1 → r = -1) := by
  have big := zFu_big
  intro n
  induction n with
  | zero => intro n' q d h m _ _ _ _ _ _ g; omega
  | succ n ih =>
    intro n' q d h m hR h4 q0 q1 d0 d1 g1 g2
    cases n' with
    | zero => omega
    | succ n' =>
      have e65 : h 65 0 0 = m 14 216 := by have := hR.2.1.2.1.2.1; omega
      have c4 : m 14 216 ≤ 30 := hR.2.1.2.2.2.2.1.2
      rw [F156_0, F289_0, e65]
      by_cases e : m 14 216 ≤ q
      · rw [if_pos e, if_pos e]
        by_cases u : v = -1
        · rw [if_neg (fun z => z u), if_neg (fun z => z u)]
          exact ⟨_, _, rfl, rfl, fun _ _ _ _ => rfl, fun z => by omega⟩
        · rw [if_pos u, if_pos u]
          exact ⟨_, _, rfl, rfl, fun _ _ _ _ => rfl, fun _ => rfl⟩
      · rw [if_neg e, if_neg e]
        obtain ⟨s1, s2, s3, s4, s5⟩ := hR.2.2.2.2.1
        obtain ⟨b, b1, b2⟩ := s5 h4 (zB m q zCc)
        have b3 : zEv (fun k => m 14 (1900 + k)) (zB m q zCm) 64 (m 14 1899) = some b := by
          rw [zEv_f (fun w x y w0 w1 hx => zB_f w0 w1 hx)]
          exact b2
        have a1 := L290 hR q0 (by omega) 64 _ _ b3
        have eN : h 385 0 0 = ((h 385 0 0).toNat : Int) := by omega
        obtain ⟨h1, a2, a3⟩ := L157 (m := m) (s := q) (b := b) (N := (h 385 0 0).toNat) q0 (by omega) (by omega) zFu 0 h [] hR eN (by omega) (by omega) rfl (by decide) trivial b1
        have a2' : F157 0 0 q h = some ((if b = true then 1 else 0), h1) := a2
        have hR1 : RG h1 m := RG_sc hR (fun r n j g => a3 r n j (by omega)) scM_refl
        rw [a2', a1, Option.bind_some, Option.bind_some]
        dsimp only
        unfold F156_1 F289_1
        rw [wadd_eq (x := q) (by omega) (by omega), wadd_eq (x := d) (by omega) (by omega)]
        have nx : ∀ d', 0 ≤ d' → d' ≤ q + 1 → ∃ r h', F156_0 n v d' (q + 1) h1 = some (r, h') ∧ F289_0 n' v d' (q + 1) m = some (r, m) ∧ (∀ r n j, ¬ r = 387 → h' r n j = h r n j) ∧ (v < -1 → r = -1) := by
          intro d' e0 e1
          obtain ⟨r, h', x1, x2, x3, x4⟩ := ih n' (q + 1) d' h1 m hR1 (by rw [a3 384 0 0 (by decide)]; exact h4) (by omega) (by omega) e0 e1 (by omega) (by omega)
          exact ⟨r, h', x1, x2, fun r n j g => by rw [x3 r n j g, a3 r n j g], x4⟩
        cases b with
        | false =>
          rw [show (if (false = true) then (1 : Int) else 0) = 0 from rfl, if_pos (rfl : (0 : Int) = 0), if_neg (show ¬ ¬ (0 : Int) = 0 by decide)]
          exact nx d d0 (by omega)
        | true =>
          rw [show (if (true = true) then (1 : Int) else 0) = 1 from rfl, if_neg (show ¬ (1 : Int) = 0 by decide), if_pos (show ¬ (1 : Int) = 0 by decide)]
          by_cases u : d = v
          · rw [if_neg (fun z => z u), if_neg (fun z => z u)]
            exact ⟨_, _, rfl, rfl, a3, fun z => by omega⟩
          · rw [if_pos u, if_pos u]
            exact nx (d + 1) (by omega) (by omega)
theorem C_said {hc : zHC} {hm : zHM} {v : Int} (h : RG hc hm) : ∃ r hc' hm', F156 v hc = some (r, hc') ∧ F289 v hm = some (r, hm') ∧ RG hc' hm' := by
  have big := zFu_big
  have h0 := RG_0 (x := 0) h
  have c3 : 0 ≤ hm 14 216 := h.2.1.2.2.2.2.1.1
  have c4 : hm 14 216 ≤ 30 := h.2.1.2.2.2.2.1.2
  have m14 : ∀ j, (mset hm 0 0 0) 14 j = hm 14 j := fun j => m0_ne (by decide)
  obtain ⟨s1, s2, s3, s4, s5⟩ := h.2.2.2.2.1
  unfold F156 F289
  by_cases q : hc 384 0 0 = 0
  · rw [if_pos q, if_neg (show ¬ ¬ hm 14 1898 = 0 from fun z => z (s2.mp q))]
    exact ⟨_, _, _, rfl, rfl, h0⟩
  · rw [if_neg q, if_pos (show ¬ hm 14 1898 = 0 from fun z => q (s2.mpr z))]
    obtain ⟨r, h', a1, a2, a3, a4⟩ := K_said (v := v) zFu zFu 0 0 hc (mset hm 0 0 0) h0 q (by decide) (by rw [m14]; exact c3) (by decide) (by decide) (by rw [m14]; omega) (by rw [m14]; omega)
    by_cases u : -1 ≤ v
    · rw [if_pos u, a1, a2]
      exact ⟨_, _, _, rfl, rfl, RG_sc h0 (fun r n j g => a3 r n j (by omega)) scM_refl⟩
    · rw [if_neg u, a2, a4 (by omega)]
      exact ⟨_, _, _, rfl, rfl, h0⟩
end
section
/-! letters of a word. -/
theorem wand31' {z : Int} : wand z 31 = z % 32 := by
  have e : ((Int32.ofInt z &&& Int32.ofInt 31).toBitVec).toNat = (Int32.ofInt z).toBitVec.toNat &&& (Int32.ofInt 31).toBitVec.toNat := rfl
  have e1 : (Int32.ofInt z).toBitVec.toNat = (z % (2 ^ 32 : Nat)).toNat := BitVec.toNat_ofInt z
  have e2 : (Int32.ofInt 31).toBitVec.toNat = 2 ^ 5 - 1 := by decide
  rw [e1, e2, Nat.and_two_pow_sub_one_eq_mod] at e
  have e3 : ((Int32.ofInt z &&& Int32.ofInt 31).toBitVec).toInt = (((Int32.ofInt z &&& Int32.ofInt 31).toBitVec).toNat : Int) := BitVec.toInt_eq_toNat_of_lt (by rw [e]; omega)
  show ((Int32.ofInt z &&& Int32.ofInt 31).toBitVec).toInt = z % 32
  rw [e3, e]
  omega
theorem qshr_c {x c : Int} {k : Nat} (e : (((Int32.ofInt c).toInt64 &&& 63).toBitVec.smod 64).toNat = k) (x0 : 0 ≤ x) (x1 : x < 9223372036854775808) : qshr x c = x / (2 ^ k : Nat) := by
  have e1 : qshr x c = ((Int64.ofInt x).toBitVec.sshiftRight (((Int32.ofInt c).toInt64 &&& 63).toBitVec.smod 64).toNat).toInt := rfl
  have e2 : (Int64.ofInt x).toBitVec.toInt = x := Int64.toInt_ofInt_of_le (by omega) (by omega)
  rw [e1, e, BitVec.toInt_sshiftRight, e2, Int.shiftRight_eq_div_pow]
theorem wl2i_m {x : Int} : wl2i x % 32 = x % 32 := by
  unfold wl2i
  rw [Int64.toInt_toInt32, Int64.toInt_ofInt]
  have a : ∀ y : Int, (Int.bmod y (2 ^ 32)) % 32 = y % 32 := fun y => by rw [Int.bmod_def]; split <;> omega
  have b : ∀ y : Int, (Int.bmod y (2 ^ 64)) % 32 = y % 32 := fun y => by rw [Int.bmod_def]; split <;> omega
  rw [a]
  exact b x
theorem q_dig {x i : Int} (x0 : 0 ≤ x) (x1 : x < 9223372036854775808) (i0 : 0 ≤ i) (i1 : i ≤ 6) : wand (wl2i (qshr x (wmul i 5))) 31 = x / (32 ^ i.toNat : Nat) % 32 := by
  rw [wand31', wl2i_m]
  have e : i = 0 ∨ i = 1 ∨ i = 2 ∨ i = 3 ∨ i = 4 ∨ i = 5 ∨ i = 6 := by omega
  rcases e with e | e | e | e | e | e | e <;> subst e
  · rw [qshr_c (k := 0) (by decide) x0 x1]; rfl
  · rw [qshr_c (k := 5) (by decide) x0 x1]; rfl
  · rw [qshr_c (k := 10) (by decide) x0 x1]; rfl
  · rw [qshr_c (k := 15) (by decide) x0 x1]; rfl
  · rw [qshr_c (k := 20) (by decide) x0 x1]; rfl
  · rw [qshr_c (k := 25) (by decide) x0 x1]; rfl
  · rw [qshr_c (k := 30) (by decide) x0 x1]; rfl
end
section
/-! bytes put by both. -/
theorem qcmp_le {x : Int} (x0 : 0 ≤ x) : qcmp x 0 ≤ 0 ↔ x = 0 := by
  unfold qcmp
  split
  · omega
  · split
    · omega
    · omega
theorem zPk_dig : ∀ (l : List Int) (i : Nat), zOkL l → zPk 32 l / (32 ^ i : Nat) % 32 = l.getD i 0 := by
  intro l
  induction l with
  | nil =>
    intro i _
    show 0 / _ % 32 = (0 : Int)
    rw [Int.zero_ediv]
    rfl
  | cons d r ih =>
    intro i h
    have hd := h d (List.mem_cons_self ..)
    have hr : zOkL r := fun x hx => h x (List.mem_cons_of_mem _ hx)
    cases i with
    | zero =>
      show (d + 32 * zPk 32 r) / (1 : Int) % 32 = d
      omega
    | succ i =>
      show (d + 32 * zPk 32 r) / ((32 ^ (i + 1) : Nat) : Int) % 32 = r.getD i 0
      rw [← ih i hr, Nat.pow_succ, Nat.mul_comm, Int.natCast_mul, ← Int.ediv_ediv_of_nonneg (by decide)]
      rw [show (d + 32 * zPk 32 r) / ((32 : Nat) : Int) = zPk 32 r by omega]
def zWr (h : zHC) (m : zHM) : Prop := h 718 0 0 = m 44 0 ∧ 0 ≤ m 44 0 ∧ ∀ j, 0 ≤ j → j < m 44 0 → h 717 0 j = m 42 j
def wfC (h h' : zHC) : Prop := ∀ r n j, ¬ (r = 717 ∨ r = 718) → h' r n j = h r n j
def wfM (m m' : zHM) : Prop := ∀ r j, ¬ (r = 42 ∨ r = 44) → m' r j = m r j
theorem W_put {h : zHC} {m : zHM} {v : Int} (hW : zWr h m) (g : m 44 0 < 96) : ∃ h' m', F144 v h = some h' ∧ F277 v m = some m' ∧ zWr h' m' ∧ m' 44 0 = m 44 0 + 1 ∧ wfC h h' ∧ wfM m m' := by
  obtain ⟨w1, w2, w3⟩ := hW
  unfold F144 F277
  rw [w1, if_neg (by omega), zG_t (by omega), zG_t (by omega), wadd_eq (by omega) (by omega)]
  refine ⟨_, _, rfl, rfl, ⟨by rw [hset_eq, mset_eq], by rw [mset_eq]; omega, fun j j0 j1 => ?_⟩, mset_eq, fun r n j q => by rw [hset_ne (by omega), hset_ne (by omega)], fun r j q => by rw [mset_ne (by omega), mset_ne (by omega)]⟩
  rw [mset_eq] at j1
  rw [hset_ne (by omega), mset_ne (by omega)]
  by_cases u : j = m 44 0
  · rw [u, hset_eq, mset_eq]
  · rw [hset_ne (by omega), mset_ne (by omega)]
    exact w3 j j0 (by omega)
theorem W_num1 {h : zHC} {m : zHM} {v : Int} (hW : zWr h m) (g : m 44 0 < 95) (v0 : 0 ≤ v) (v1 : v < 1000) : ∃ h' m', F145_0 v h = some h' ∧ F278_0 v m = some m' ∧ zWr h' m' ∧ m' 44 0 ≤ m 44 0 + 2 ∧ (v < 10 → m' 44 0 ≤ m 44 0 + 1) ∧ wfC h h' ∧ wfM m m' := by
  unfold F145_0 F278_0 F145_1 F278_1
  by_cases q : v < 10
  · rw [if_pos q, if_pos (show v ≤ 9 by omega)]
    obtain ⟨h1, m1, a1, a2, a3, a4, a5, a6⟩ := W_put (v := wadd 48 (wrem v 10)) hW (by omega)
    rw [a1, a2]
    exact ⟨_, _, rfl, rfl, a3, by omega, fun _ => by omega, a5, a6⟩
  · rw [if_neg q, if_neg (show ¬ v ≤ 9 by omega)]
    obtain ⟨h1, m1, a1, a2, a3, a4, a5, a6⟩ := W_put (v := wadd 48 (wrem (wdiv v 10) 10)) hW (by omega)
    obtain ⟨h2, m2, b1, b2, b3, b4, b5, b6⟩ := W_put (v := wadd 48 (wrem v 10)) a3 (by omega)
    rw [a1, a2, Option.bind_some, Option.bind_some, b1, b2]
    exact ⟨_, _, rfl, rfl, b3, by omega, fun z => absurd z q, fun r n j g => by rw [b5 r n j g, a5 r n j g], fun r j g => by rw [b6 r j g, a6 r j g]⟩
theorem W_num {h : zHC} {m : zHM} {v : Int} (hW : zWr h m) (g : m 44 0 < 92) (v0 : 0 ≤ v) (v1 : v < 1000) : ∃ h0 h' m', F144 32 h = some h0 ∧ F145 v h0 = some h' ∧ F278 v m = some m' ∧ wfC h h0 ∧ zWr h' m' ∧ m' 44 0 ≤ m 44 0 + 4 ∧ (v < 10 → m' 44 0 ≤ m 44 0 + 2) ∧ wfC h h' ∧ wfM m m' := by
  obtain ⟨h0, m0, a1, a2, a3, a4, a5, a6⟩ := W_put (v := 32) hW (by omega)
  unfold F145 F278
  rw [a2, Option.bind_some]
  by_cases q : v < 100
  · obtain ⟨h1, m1, b1, b2, b3, b4, b5, b6, b7⟩ := W_num1 (v := v) a3 (by omega) v0 v1
    refine ⟨h0, h1, m1, a1, ?_, ?_, a5, b3, by omega, fun z => by have := b5 z; omega, fun r n j g => by rw [b6 r n j g, a5 r n j g], fun r j g => by rw [b7 r j g, a6 r j g]⟩
    · rw [if_pos q, b1]
    · rw [if_pos (show v ≤ 99 by omega), b2]
  · obtain ⟨h1, m1, b1, b2, b3, b4, b5, b6⟩ := W_put (v := wadd 48 (wdiv v 100)) a3 (by omega)
    obtain ⟨h2, m2, c1, c2, c3, c4, c5, c6, c7⟩ := W_num1 (v := v) b3 (by omega) v0 v1
    refine ⟨h0, h2, m2, a1, ?_, ?_, a5, c3, by omega, fun z => by omega, fun r n j g => by rw [c6 r n j g, b5 r n j g, a5 r n j g], fun r j g => by rw [c7 r j g, b6 r j g, a6 r j g]⟩
    · rw [if_neg q, b1, Option.bind_some, c1]
    · rw [if_neg (show ¬ v ≤ 99 by omega), b2, Option.bind_some, c2]
end
section
/-! a name put by both. -/
theorem W_take {k0 : Int → Int → zHM → Option (Int × zHM)} {v1 v2 v3 : Int} : ∀ (r : List Int) (n : Nat) (v4 : Int) (m : zHM), zOkL r → 0 ≤ v4 → v4 + (r.length : Int) ≤ 7 → r.length < n → ∃ m', F276_1 k0 n v1 v2 v3 v4 (zPk 27 r) m = F276_3 k0 zFu v1 v2 v3 (v4 + (r.length : Int) - 1) m' ∧ (∀ j : Nat, j < r.length → m' 43 (v4 + (j : Int)) = r.getD j 0 + 96) ∧ (∀ r j, ¬ (r = 43 ∧ v4 ≤ j) → m' r j = m r j) := by
  intro r
  induction r with
  | nil =>
    intro n v4 m hr v0 vl g
    cases n with
    | zero => exact absurd g (by decide)
    | succ n =>
      rw [F276_1]
      have e : zPk 27 [] = 0 := rfl
      have vl' : v4 ≤ 7 := by have : (([] : List Int).length : Int) = 0 := rfl; omega
      rw [e, if_pos ((qcmp_le (by decide)).mpr rfl), wsub_eq (by omega) (by omega), show v4 + (([] : List Int).length : Int) - 1 = v4 - 1 by show v4 + 0 - 1 = v4 - 1; omega]
      exact ⟨m, rfl, fun j hj => absurd hj (by simp), fun _ _ _ => rfl⟩
  | cons d r ih =>
    intro n v4 m hr v0 vl g
    have el : ((d :: r).length : Int) = (r.length : Int) + 1 := by rw [List.length_cons]; omega
    have hd := hr d (List.mem_cons_self ..)
    have hr2 : zOkL r := fun x hx => hr x (List.mem_cons_of_mem _ hx)
    cases n with
    | zero => exact absurd g (by omega)
    | succ n =>
      have p0 := zPk_pos (b := 27) (Or.inl rfl) hr2
      have p1 := (zPk_lt (n := 7) hr2 (by omega)).2
      have p2 : (27 : Int) ^ 7 = 10460353203 := by decide
      rw [p2] at p1
      have ez : zPk 27 (d :: r) = d + 27 * zPk 27 r := rfl
      rw [F276_1, ez, if_neg (fun z => by have := (qcmp_le (by omega)).mp z; omega), zG_t (by omega), wadd_eq (x := v4) (by omega) (by omega), qdiv_eq (by omega) (by omega) (by decide) (by decide), qrem_eq (by omega) (by omega) (by decide) (by decide), show (d + 27 * zPk 27 r) / 27 = zPk 27 r by omega, show (d + 27 * zPk 27 r) % 27 = d by omega, wl2i_eq (by omega) (by omega), wadd_eq (x := d) (by omega) (by omega)]
      obtain ⟨m', a1, a2, a3⟩ := ih n (v4 + 1) (mset m 43 v4 (d + 96)) hr2 (by omega) (by omega) (by rw [List.length_cons] at g; omega)
      refine ⟨m', ?_, fun j hj => ?_, fun r j q => ?_⟩
      · rw [a1, show v4 + 1 + (r.length : Int) - 1 = v4 + ((d :: r).length : Int) - 1 by omega]
      · cases j with
        | zero =>
          rw [a3 43 _ (by omega), show v4 + ((0 : Nat) : Int) = v4 by omega, mset_eq]
          rfl
        | succ j =>
          rw [show v4 + ((j + 1 : Nat) : Int) = v4 + 1 + (j : Int) by omega, a2 j (by rw [List.length_cons] at hj; omega)]
          rfl
      · rw [a3 r j (by omega), mset_ne (by omega)]
theorem W_dig {l : List Int} {i : Int} (hl : zOkL l) (h7 : l.length ≤ 7) (i0 : 0 ≤ i) (i1 : i ≤ 6) : wand (wl2i (qshr (zPk 32 l) (wmul i 5))) 31 = l.getD i.toNat 0 := by
  have p0 := zPk_pos (b := 32) (Or.inr rfl) hl
  have p1 := (zPk_lt hl h7).1
  have p2 : (32 : Int) ^ 7 = 34359738368 := by decide
  rw [p2] at p1
  rw [q_dig p0 (by omega) i0 i1]
  exact zPk_dig l i.toNat hl
theorem W_skip {l : List Int} {h : zHC} (hl : zOkL l) (h7 : l.length ≤ 7) : ∀ (n : Nat) (i : Int), (l.length : Int) - 1 ≤ i → i ≤ 6 → i + 1 < n → ∃ n' : Nat, (l.length : Int) < n' ∧ F143_0 n (zPk 32 l) i h = F143_0 n' (zPk 32 l) ((l.length : Int) - 1) h := by
  intro n
  induction n with
  | zero => intro i i0 i1 g; omega
  | succ n ih =>
    intro i i0 i1 g
    by_cases q : i = (l.length : Int) - 1
    · exact ⟨n + 1, by omega, by rw [q]⟩
    · rw [F143_0, if_neg (by omega), W_dig hl h7 (by omega) i1]
      have e : l.getD i.toNat 0 = 0 := by rw [List.getD_eq_getElem?_getD, List.getElem?_eq_none (by omega)]; rfl
      unfold F143_1
      rw [e, if_pos (by decide), wadd_eq (by omega) (by omega)]
      exact ih (i + -1) (by omega) (by omega) (by omega)
theorem W_both {k0 : Int → Int → zHM → Option (Int × zHM)} {v1 v2 v3 : Int} {l : List Int} (hl : zOkL l) (h7 : l.length ≤ 7) : ∀ (n n' : Nat) (i : Int) (h : zHC) (m : zHM), zWr h m → -1 ≤ i → i < (l.length : Int) → (∀ j : Int, 0 ≤ j → j ≤ i → m 43 j = l.getD j.toNat 0 + 96) → m 44 0 + i + 1 ≤ 96 → i + 1 < n → i + 1 < n' → ∃ n'' h' m', 0 < n'' ∧ F143_0 n (zPk 32 l) i h = some h' ∧ F276_3 k0 n' v1 v2 v3 i m = F276_3 k0 n'' v1 v2 v3 (-1) m' ∧ zWr h' m' ∧ m' 44 0 = m 44 0 + i + 1 ∧ wfC h h' ∧ wfM m m' := by
  intro n
  induction n with
  | zero => intro n' i h m _ i0 _ _ _ g; omega
  | succ n ih =>
    intro n' i h m hW i0 i1 hm g g1 g2
    cases n' with
    | zero => omega
    | succ n' =>
      by_cases q : i = -1
      · subst q
        rw [F143_0, if_pos (by decide)]
        exact ⟨n' + 1, h, m, by omega, rfl, rfl, hW, by omega, fun _ _ _ _ => rfl, fun _ _ _ => rfl⟩
      · have hi : i.toNat < l.length := by omega
        have hd := hl (l.getD i.toNat 0) (by rw [List.getD_eq_getElem?_getD, List.getElem?_eq_getElem hi]; exact List.getElem_mem hi)
        rw [F143_0, F276_3, if_neg (show ¬ i < 0 by omega), if_neg (show ¬ i < 0 by omega), W_dig hl h7 (by omega) (by omega), if_neg (by omega), wadd_eq (x := 97) (by omega) (by omega), wsub_eq (by omega) (by omega), zG_t (by omega), hm i (by omega) (Int.le_refl _), show 97 + l.getD i.toNat 0 - 1 = l.getD i.toNat 0 + 96 by omega]
        obtain ⟨h1, m1, a1, a2, a3, a4, a5, a6⟩ := W_put (v := l.getD i.toNat 0 + 96) hW (by omega)
        rw [a1, a2, Option.bind_some, Option.bind_some]
        unfold F143_1
        rw [wadd_eq (x := i) (by omega) (by omega)]
        obtain ⟨n'', h2, m2, b0, b1, b2, b3, b4, b5, b6⟩ := ih n' (i + -1) h1 m1 a3 (by omega) (by omega) (fun j j0 j1 => by rw [a6 43 j (by decide)]; exact hm j j0 (by omega)) (by omega) (by omega) (by omega)
        exact ⟨n'', h2, m2, b0, b1, b2, b3, by omega, fun r n j g => by rw [b5 r n j g, a5 r n j g], fun r j g => by rw [b6 r j g, a6 r j g]⟩
end
section
/-! write, whole. -/
theorem zcnt_le {f : Int → Int} {s : Int} {q : Nat} : ∀ N : Nat, q ≤ N → zcnt f s q ≤ zcnt f s N := by
  intro N
  induction N with
  | zero => intro h; rw [show q = 0 by omega]; exact Int.le_refl _
  | succ N ih =>
    intro h
    by_cases e : q = N + 1
    · rw [e]; exact Int.le_refl _
    · have := ih (by omega)
      rw [zcnt]
      split <;> omega
theorem K_write {hc : zHC} {hm : zHM} {s : Int} (hR : RG hc hm) (s0 : 0 ≤ s) (s1 : s < hm 14 216) : ∀ (n n' q : Nat) (h : zHC) (m : zHM), wfC hc h → (∀ r j, ¬ (r = 0 ∨ r = 42 ∨ r = 43 ∨ r = 44) → m r j = hm r j) → zWr h m → (q : Int) ≤ hm 14 997 → m 44 0 ≤ 14 * zcnt (fun j => hm 14 (998 + 5 * j)) s q → hm 14 997 - q < n → hm 14 997 - q < n' → ∃ h' m', F142_0 n s (q : Int) h = some (m' 44 0, h') ∧ F276_0 n' s (q : Int) m = some (m' 44 0, m') ∧ wfC hc h' ∧ (∀ r j, ¬ (r = 0 ∨ r = 42 ∨ r = 43 ∨ r = 44) → m' r j = hm r j) ∧ zWr h' m' ∧ m' 44 0 ≤ 84 := by
  have big := zFu_big
  have w6 := RG_WN hR
  unfold WN at w6
  have hCW := hR.2.1.2.2.2
  have hN := CW_n hCW
  have hL := hR.2.1.2.2.1
  have hQ := hR.2.1.1.2.2.2.2.2.2.1.1
  have hLW := hCW.2.2.2.2.1
  have hT := hCW.2.2.2.2.2 s s0 s1
  obtain ⟨hD, hF⟩ := hCW.2.2.1 s s0 s1
  have six : hm 14 (217 + 8 * s + 6) ≤ 6 := by
    have o6 := hF.2.2.2.2.2.2.1.2
    have fl : ∀ c, 0 ≤ c → c < 6 → hm 14 (457 + 18 * s + 3 * c + 2) ≤ 1 := by
      intro c c0 c1
      rw [(hD c c0 c1).2.2.2.1]
      split <;> omega
    have a0 := fl 0 (by decide) (by decide)
    have a1 := fl 1 (by decide) (by decide)
    have a2 := fl 2 (by decide) (by decide)
    have a3 := fl 3 (by decide) (by decide)
    have a4 := fl 4 (by decide) (by decide)
    have a5 := fl 5 (by decide) (by decide)
    omega
  intro n
  induction n with
  | zero => intro n' q h m _ _ _ _ _ g; omega
  | succ n ih =>
    intro n' q h m f1 f2 hW q1 cn g1 g2
    cases n' with
    | zero => omega
    | succ n' =>
      rw [F142_0, F276_0, f1 66 0 0 (by decide), hL.1, f2 14 997 (by decide)]
      by_cases e : hm 14 997 ≤ q
      · have eq : q = (hm 14 997).toNat := by omega
        rw [if_pos e, if_pos e, hW.1]
        refine ⟨h, m, rfl, rfl, f1, f2, hW, ?_⟩
        rw [eq, hT] at cn
        omega
      · have l0 := hL.2 q (by omega) (by omega) 0 (by decide) (by decide)
        have l1 := hL.2 q (by omega) (by omega) 1 (by decide) (by decide)
        have l2 := hL.2 q (by omega) (by omega) 2 (by decide) (by decide)
        have l3 := hL.2 q (by omega) (by omega) 3 (by decide) (by decide)
        obtain ⟨r0, r1, r2, r3, r4⟩ := hLW q (by omega) (by omega)
        have cq : zcnt (fun j => hm 14 (998 + 5 * j)) s (q + 1) = zcnt (fun j => hm 14 (998 + 5 * j)) s q + (if hm 14 (998 + 5 * (q : Int)) = s then 1 else 0) := rfl
        have ct := zcnt_le (f := fun j => hm 14 (998 + 5 * j)) (s := s) (q := q + 1) (hm 14 997).toNat (by omega)
        rw [hT] at ct
        have p5 : wmul 5 (q : Int) = 5 * q := wmul_eq (by omega) (by omega)
        have p8 : wadd 998 (5 * (q : Int)) = 998 + 5 * q := wadd_eq (by omega) (by omega)
        rw [Int.add_zero] at l0
        rw [if_neg e, if_neg e, F67_s (by omega) (by omega) (by decide) (by decide), Option.bind_some, Int.add_zero, f1 71 0 _ (by decide), show hc 71 0 ((q : Int) * 5) = hm 14 (998 + 5 * q) by rw [← Int.add_zero ((q : Int) * 5)]; exact l0, p5, p8, zG_t (by omega), f2 14 (998 + 5 * q) (by decide)]
        unfold F142_1 F276_2
        have pq : wadd (q : Int) 1 = ((q + 1 : Nat) : Int) := by rw [wadd_eq (by omega) (by omega)]; omega
        rw [pq]
        by_cases u : hm 14 (998 + 5 * (q : Int)) = s
        · rw [if_neg (fun z => z u), if_pos u, F67_s (by omega) (by omega) (by decide) (by decide), Option.bind_some, f1 71 0 _ (by decide), l1, zG_t (by omega), f1 583 0 _ (by decide), wadd_eq (x := 998 + 5 * (q : Int)) (by omega) (by omega), f2 14 (998 + 5 * q + 1) (by decide), zG_t (by omega), zG_t (by omega), f2 19 _ (by decide)]
          obtain ⟨l, h7, h1', hl, ex, ey⟩ := hQ _ r1.1 r1.2
          rw [if_pos u] at cq
          rw [ex, ey]
          obtain ⟨m1, a1, a2, a3⟩ := W_take (k0 := F276_0 n') (v1 := s) (v2 := (q : Int)) (v3 := 998 + 5 * (q : Int)) l zFu 0 m hl (by decide) (by omega) (by omega)
          obtain ⟨k1, b1, b2⟩ := W_skip (h := h) hl h7 zFu 6 (by omega) (by decide) (by omega)
          have hW1 : zWr h m1 := ⟨by rw [a3 44 0 (by decide)]; exact hW.1, by rw [a3 44 0 (by decide)]; exact hW.2.1, fun j j0 j1 => by rw [a3 44 0 (by decide)] at j1; rw [a3 42 j (by omega)]; exact hW.2.2 j j0 j1⟩
          have e44 : m1 44 0 = m 44 0 := a3 44 0 (by decide)
          obtain ⟨k2, h2, m2, c0, c1, c2, c3, c4, c5, c6⟩ := W_both (k0 := F276_0 n') (v1 := s) (v2 := (q : Int)) (v3 := 998 + 5 * (q : Int)) hl h7 k1 zFu ((l.length : Int) - 1) h m1 hW1 (by omega) (by omega) (fun j j0 j1 => by
            have := a2 j.toNat (by omega)
            rw [show (0 : Int) + (j.toNat : Int) = j by omega] at this
            exact this) (by omega) (by omega) (by omega)
          obtain ⟨h3, h4, m4, d1, d2, d3, d4, d5, d6, d7, d8, d9⟩ := W_num (v := hm 14 (998 + 5 * (q : Int) + 2)) c3 (by omega) (by omega) (by omega)
          obtain ⟨h5, h6, m6, e1, e2, e3, e4, e5, e6, e7, e8, e9⟩ := W_num (v := hm 14 (998 + 5 * (q : Int) + 3)) d5 (by omega) (by omega) (by omega)
          obtain ⟨h7', m7, g3, g4, g5, g6, g7, g8⟩ := W_put (v := 59) e5 (by omega)
          have t71_4 : h3 71 0 ((q : Int) * 5 + 2) = hm 14 (998 + 5 * (q : Int) + 2) := by rw [d4 71 0 _ (by decide), c5 71 0 _ (by decide), f1 71 0 _ (by decide)]; exact l2
          have t71_7 : h5 71 0 ((q : Int) * 5 + 3) = hm 14 (998 + 5 * (q : Int) + 3) := by rw [e4 71 0 _ (by decide), d8 71 0 _ (by decide), c5 71 0 _ (by decide), f1 71 0 _ (by decide)]; exact l3
          have t2 : m2 14 (998 + 5 * (q : Int) + 2) = hm 14 (998 + 5 * (q : Int) + 2) := by rw [c6 14 _ (by decide), a3 14 _ (by omega), f2 14 _ (by decide)]
          have t3 : m4 14 (998 + 5 * (q : Int) + 3) = hm 14 (998 + 5 * (q : Int) + 3) := by rw [d9 14 _ (by decide), c6 14 _ (by decide), a3 14 _ (by omega), f2 14 _ (by decide)]
          have em : F276_1 (F276_0 n') zFu s (q : Int) (998 + 5 * (q : Int)) 0 (zPk 27 l) m = F276_0 n' s ((q + 1 : Nat) : Int) m7 := by
            rw [a1, show (0 : Int) + (l.length : Int) - 1 = (l.length : Int) - 1 by omega, c2]
            cases k2 with
            | zero => omega
            | succ k2 =>
              rw [F276_3, if_pos (by decide)]
              unfold F276_2
              rw [wadd_eq (x := 998 + 5 * (q : Int)) (by omega) (by omega), wadd_eq (x := 998 + 5 * (q : Int)) (by omega) (by omega), zG_t (by omega), t2, d3, Option.bind_some, zG_t (by omega), t3, e3, Option.bind_some, g4, Option.bind_some, pq]
          have ec : F143 (zPk 32 l) h = some h2 := by
            unfold F143
            rw [b2]
            exact c1
          rw [em, ec, Option.bind_some, d1, Option.bind_some, F67_s (by omega) (by omega) (by decide) (by decide), Option.bind_some, t71_4, d2, Option.bind_some, e1, Option.bind_some, F67_s (by omega) (by omega) (by decide) (by decide), Option.bind_some, t71_7, e2, Option.bind_some, g3, Option.bind_some]
          exact ih n' (q + 1) h7' m7 (fun r n j g => by rw [g7 r n j g, e8 r n j g, d8 r n j g, c5 r n j g, f1 r n j g]) (fun r j g => by rw [g8 r j (by omega), e9 r j (by omega), d9 r j (by omega), c6 r j (by omega), a3 r j (by omega), f2 r j g]) g5 (by omega) (by rw [cq]; have := e7 (by omega); omega) (by omega) (by omega)
        · rw [if_pos u, if_neg u]
          rw [if_neg u] at cq
          exact ih n' (q + 1) h m f1 f2 hW (by omega) (by rw [cq]; omega) (by omega) (by omega)
theorem C_write {hc : zHC} {hm : zHM} {s : Int} (h : RG hc hm) : ∃ r hc' hm', F142 s hc = some (r, hc') ∧ F276 s hm = some (r, hm') ∧ RG hc' hm' := by
  have big := zFu_big
  have e65 : hc 65 0 0 = hm 14 216 := by have := h.2.1.2.1.2.1; omega
  have hN := CW_n h.2.1.2.2.2
  unfold F142 F276
  rw [E58 e65, E217 (m := mset hm 0 0 0) (b := hm 14 216) (m0_ne (by decide)), Option.bind_some, Option.bind_some]
  by_cases q : 0 ≤ s ∧ s < hm 14 216
  · rw [if_pos q, zn10, zn10]
    obtain ⟨h1, m1, a1, a2, a3, a4, a5, a6⟩ := K_write h q.1 q.2 zFu zFu 0 (hset hc 718 0 0 0) (mset (mset hm 0 0 0) 44 0 0) (fun r n j g => hset_ne (by omega)) (fun r j g => by rw [mset_ne (by omega), mset_ne (by omega)]) ⟨by rw [hset_eq, mset_eq], by rw [mset_eq]; decide, fun j j0 j1 => by rw [mset_eq] at j1; omega⟩ (by omega) (by rw [mset_eq]; show (0 : Int) ≤ 14 * 0; decide) (by omega) (by omega)
    rw [show (0 : Int) = ((0 : Nat) : Int) from rfl] 
    obtain ⟨b1, b2, b3, b4, b5, b6, b7, b8, b9⟩ := h
    exact ⟨_, _, _, a1, a2, RTp_keep (fun r j _ _ => a3 r 0 j (by omega)) (fun r j g => a4 r j (by omega)) b1, RVC_keep (fun r j g => a3 r 0 j (by omega)) (fun j _ _ => a4 14 j (by omega)) (fun j => a4 19 j (by omega)) b2, RUn_keep (fun r n j g => a3 r n j (by omega)) (fun j _ _ => a4 14 j (by omega)) (fun r j g => a4 r j (by omega)) (VR_n b2.1) b3, RIm_keep (fun r n j g => a3 r n j (by omega)) (fun r j g => a4 r j (by omega)) b4, RSn_cong (a3 384 0 0 (by omega)) (a3 385 0 0 (by omega)) (fun j _ _ => a3 386 0 j (by omega)) (fun j _ _ => a4 14 j (by omega)) b5, RPc_keep (fun r j g => a3 r 0 j (by omega)) (fun r j g => a4 r j (by omega)) b6, RSt_keep (fun r j g => a3 r 0 j (by omega)) (fun j => a4 41 j (by omega)) b7, ⟨a5.1, a5.2.1, by omega, a5.2.2⟩, RKw_keep (fun j => a3 330 0 j (by omega)) b9⟩
  · rw [if_neg q, zn00, zn00]
    exact ⟨_, _, _, rfl, rfl, RG_0 h⟩
end
section
/-! A sentence's code and its tree, grown together. -/
theorem zEv_up {nd : Int → Int} {f : Int → Int → Int → Bool} : ∀ (n : Nat) (k : Int) (b : Bool), zEv nd f n k = some b → zEv nd f (n + 1) k = some b := by
  intro n
  induction n with
  | zero => intro k b e; cases e
  | succ n ih =>
    intro k b e
    rw [zEv] at e
    rw [zEv]
    by_cases q : 0 ≤ k ∧ k < 60
    · rw [if_pos q] at e ⊢
      by_cases a : nd (4 * k) = 1
      · rw [if_pos a] at e ⊢
        obtain ⟨b1, y1, y2⟩ := Option.bind_eq_some_iff.mp e
        rw [ih _ _ y1, Option.bind_some]
        exact y2
      · rw [if_neg a] at e ⊢
        by_cases a : nd (4 * k) = 2
        · rw [if_pos a] at e ⊢
          obtain ⟨b1, y1, y2⟩ := Option.bind_eq_some_iff.mp e
          obtain ⟨b2, y3, y4⟩ := Option.bind_eq_some_iff.mp y2
          rw [ih _ _ y1, Option.bind_some, ih _ _ y3, Option.bind_some]
          exact y4
        · rw [if_neg a] at e ⊢
          by_cases a : nd (4 * k) = 3
          · rw [if_pos a] at e ⊢
            obtain ⟨b1, y1, y2⟩ := Option.bind_eq_some_iff.mp e
            obtain ⟨b2, y3, y4⟩ := Option.bind_eq_some_iff.mp y2
            rw [ih _ _ y1, Option.bind_some, ih _ _ y3, Option.bind_some]
            exact y4
          · rw [if_neg a] at e ⊢
            exact e
    · rw [if_neg q] at e
      cases e
theorem zEv_le {nd : Int → Int} {f : Int → Int → Int → Bool} {n : Nat} {k : Int} {b : Bool} (e : zEv nd f n k = some b) : ∀ n' : Nat, n ≤ n' → zEv nd f n' k = some b := by
  intro n'
  induction n' with
  | zero => intro h; rw [show n = 0 by omega] at e; exact e
  | succ n' ih =>
    intro h
    by_cases q : n = n' + 1
    · rw [← q]; exact e
    · exact zEv_up _ _ _ (ih (by omega))
theorem zEx_app {f : Int → Int → Int → Bool} {P Q : List (Int × Int × Int)} {stk : List Bool} : zEx f (P ++ Q) stk = zEx f Q (zEx f P stk) := by
  unfold zEx
  exact List.foldl_append
/-- code that puts one answer on top, and the node that answers alike, whatever the nodes from N on are -/
def zPT (P : List (Int × Int × Int)) (nd : Int → Int) (N : Nat) (k : Int) : Prop := ∀ f, ∃ b, (∀ stk, zEx f P stk = b :: stk) ∧ ∀ nd' : Int → Int, (∀ j, 0 ≤ j → j < 4 * (N : Int) → nd' j = nd j) → zEv nd' f N k = some b
theorem zPT_keep {P : List (Int × Int × Int)} {nd nd2 : Int → Int} {N N2 : Nat} {k : Int} (h : zPT P nd N k) (hN : N ≤ N2) (hn : ∀ j, 0 ≤ j → j < 4 * (N : Int) → nd2 j = nd j) : zPT P nd2 N2 k := by
  intro f
  obtain ⟨b, b1, b2⟩ := h f
  exact ⟨b, b1, fun nd' e => zEv_le (b2 nd' (fun j j0 j1 => by rw [e j j0 (by omega), hn j j0 j1])) N2 hN⟩
theorem zPT_leaf {nd : Int → Int} {N : Nat} {w x y : Int} (hN : N < 60) (w0 : 13 ≤ w) (w1 : w ≤ 20) (n0 : nd (4 * N) = 50 + w) (n3 : nd (4 * N + 3) = x) (ny : nd (4 * N + 1) + nd (4 * N + 2) = y) (g0 : w ≤ 16 → nd (4 * N + 2) = 0) (g1 : 17 ≤ w → nd (4 * N + 1) = 0 ∧ 60 ≤ x ∧ x ≤ 62) : zPT [(w, x, y)] nd (N + 1) N := by
  intro f
  refine ⟨f w x y, fun stk => ?_, fun nd' e => ?_⟩
  · show zEx1 f (w, x, y) stk = _
    unfold zEx1
    dsimp only
    rw [if_neg (by omega), if_neg (by omega), if_neg (by omega)]
  · have e0 : nd' (4 * N) = 50 + w := by rw [e _ (by omega) (by omega)]; exact n0
    have e1 : nd' (4 * N + 1) = nd (4 * N + 1) := e _ (by omega) (by omega)
    have e2 : nd' (4 * N + 2) = nd (4 * N + 2) := e _ (by omega) (by omega)
    have e3 : nd' (4 * N + 3) = x := by rw [e _ (by omega) (by omega)]; exact n3
    rw [zEv, if_pos (by omega), e0, if_neg (by omega), if_neg (by omega), if_neg (by omega), e1, e2, e3, ny, if_pos ⟨by omega, by omega, fun z => g0 (by omega), fun z => g1 (by omega)⟩, show 50 + w - 50 = w by omega]
theorem zPT_not {P : List (Int × Int × Int)} {nd nd2 : Int → Int} {N : Nat} {k : Int} (h : zPT P nd N k) (hN : N < 60) (hn : ∀ j, 0 ≤ j → j < 4 * (N : Int) → nd2 j = nd j) (n0 : nd2 (4 * N) = 1) (n1 : nd2 (4 * N + 1) = k) : zPT (P ++ [(12, 0, 0)]) nd2 (N + 1) N := by
  intro f
  obtain ⟨b, b1, b2⟩ := h f
  refine ⟨!b, fun stk => ?_, fun nd' e => ?_⟩
  · rw [zEx_app, b1]
    rfl
  · have e0 : nd' (4 * N) = 1 := by rw [e _ (by omega) (by omega)]; exact n0
    have e1 : nd' (4 * N + 1) = k := by rw [e _ (by omega) (by omega)]; exact n1
    rw [zEv, if_pos (by omega), if_pos e0, e1, b2 nd' (fun j j0 j1 => by rw [e j j0 (by omega), hn j j0 j1])]
    rfl
theorem zPT_and {P Q : List (Int × Int × Int)} {nd nd2 : Int → Int} {N : Nat} {k k2 : Int} (h : zPT P nd N k) (h2 : zPT Q nd N k2) (hN : N < 60) (hn : ∀ j, 0 ≤ j → j < 4 * (N : Int) → nd2 j = nd j) (n0 : nd2 (4 * N) = 2) (n1 : nd2 (4 * N + 1) = k) (n2 : nd2 (4 * N + 2) = k2) : zPT (P ++ Q ++ [(11, 0, 0)]) nd2 (N + 1) N := by
  intro f
  obtain ⟨b, b1, b2⟩ := h f
  obtain ⟨c, c1, c2⟩ := h2 f
  refine ⟨b && c, fun stk => ?_, fun nd' e => ?_⟩
  · rw [zEx_app, zEx_app, b1, c1]
    rfl
  · have e0 : nd' (4 * N) = 2 := by rw [e _ (by omega) (by omega)]; exact n0
    have e1 : nd' (4 * N + 1) = k := by rw [e _ (by omega) (by omega)]; exact n1
    have e2 : nd' (4 * N + 2) = k2 := by rw [e _ (by omega) (by omega)]; exact n2
    have ag : ∀ j, 0 ≤ j → j < 4 * (N : Int) → nd' j = nd j := fun j j0 j1 => by rw [e j j0 (by omega), hn j j0 j1]
    rw [zEv, if_pos (by omega), if_neg (by omega), if_pos e0, e1, e2, b2 nd' ag, c2 nd' ag]
    rfl
theorem zPT_or {P Q : List (Int × Int × Int)} {nd nd2 : Int → Int} {N : Nat} {k k2 : Int} (h : zPT P nd N k) (h2 : zPT Q nd N k2) (hN : N < 60) (hn : ∀ j, 0 ≤ j → j < 4 * (N : Int) → nd2 j = nd j) (n0 : nd2 (4 * N) = 3) (n1 : nd2 (4 * N + 1) = k) (n2 : nd2 (4 * N + 2) = k2) : zPT (P ++ Q ++ [(10, 0, 0)]) nd2 (N + 1) N := by
  intro f
  obtain ⟨b, b1, b2⟩ := h f
  obtain ⟨c, c1, c2⟩ := h2 f
  refine ⟨b || c, fun stk => ?_, fun nd' e => ?_⟩
  · rw [zEx_app, zEx_app, b1, c1]
    rfl
  · have e0 : nd' (4 * N) = 3 := by rw [e _ (by omega) (by omega)]; exact n0
    have e1 : nd' (4 * N + 1) = k := by rw [e _ (by omega) (by omega)]; exact n1
    have e2 : nd' (4 * N + 2) = k2 := by rw [e _ (by omega) (by omega)]; exact n2
    have ag : ∀ j, 0 ≤ j → j < 4 * (N : Int) → nd' j = nd j := fun j j0 j1 => by rw [e j j0 (by omega), hn j j0 j1]
    rw [zEv, if_pos (by omega), if_neg (by omega), if_neg (by omega), if_pos e0, e1, e2, b2 nd' ag, c2 nd' ag]
    rfl
end
section
/-! One step more of the code, one node more of the tree. -/
theorem E153 {h : zHC} {v1 v2 v3 : Int} {n : Nat} (e : h 385 1 0 = (n : Int)) (n1 : n < 40) : ∃ h', F153 1 v1 v2 v3 h = some h' ∧ h' 385 1 0 = ((n + 1 : Nat) : Int) ∧ zCl (h' 386 1) (n + 1) = zCl (h 386 1) n ++ [(v1, v2, v3)] ∧ (∀ r k j, ¬ ((r = 385 ∨ r = 386) ∧ k = 1) → h' r k j = h r k j) := by
  unfold F153
  rw [e, if_neg (by omega), wmul_eq (by omega) (by omega), wadd_eq (x := (n : Int) * 3) (by omega) (by omega), wadd_eq (x := (n : Int) * 3) (by omega) (by omega), zG_t (by omega), zG_t (by omega), zG_t (by omega)]
  refine ⟨_, rfl, ?_, ?_, fun r k j g => ?_⟩
  · rw [hset_eq, wadd_eq (by omega) (by omega)]
    omega
  · rw [zCl]
    congr 1
    · refine zCl_cong (fun j j0 j1 => ?_)
      rw [hset_ne (by omega), hset_ne (by omega), hset_ne (by omega), hset_ne (by omega)]
    · rw [hset_ne (by omega), hset_ne (by omega), hset_ne (by omega), hset_eq, hset_ne (by omega), hset_ne (by omega), hset_eq, hset_ne (by omega), hset_eq]
  · rw [hset_ne (by omega), hset_ne (by omega), hset_ne (by omega), hset_ne (by omega)]
theorem E286 {m : zHM} {v1 v2 v3 v4 : Int} {N : Nat} (e : m 46 0 = (N : Int)) (n1 : N < 60) : ∃ m', F286 v1 v2 v3 v4 m = some ((N : Int), m') ∧ m' 46 0 = ((N + 1 : Nat) : Int) ∧ m' 45 (4 * (N : Int)) = v1 ∧ m' 45 (4 * (N : Int) + 1) = v2 ∧ m' 45 (4 * (N : Int) + 2) = v3 ∧ m' 45 (4 * (N : Int) + 3) = v4 ∧ (∀ j, 0 ≤ j → j < 4 * (N : Int) → m' 45 j = m 45 j) ∧ (∀ r j, ¬ (r = 45 ∨ r = 46) → m' r j = m r j) := by
  unfold F286
  rw [e, wmul_eq (by omega) (by omega), wadd_eq (x := 4 * (N : Int)) (by omega) (by omega), wadd_eq (x := 4 * (N : Int)) (by omega) (by omega), wadd_eq (x := 4 * (N : Int)) (by omega) (by omega), wadd_eq (x := (N : Int)) (by omega) (by omega), wsub_eq (by omega) (by omega), zG_t (by omega), zG_t (by omega), zG_t (by omega), zG_t (by omega), Int.add_sub_cancel]
  refine ⟨_, rfl, by rw [mset_eq]; omega, ?_, ?_, ?_, ?_, fun j j0 j1 => ?_, fun r j g => ?_⟩
  · rw [mset_ne (by omega), mset_ne (by omega), mset_ne (by omega), mset_ne (by omega), mset_eq]
  · rw [mset_ne (by omega), mset_ne (by omega), mset_ne (by omega), mset_eq]
  · rw [mset_ne (by omega), mset_ne (by omega), mset_eq]
  · rw [mset_ne (by omega), mset_eq]
  · rw [mset_ne (by omega), mset_ne (by omega), mset_ne (by omega), mset_ne (by omega), mset_ne (by omega)]
  · rw [mset_ne (by omega), mset_ne (by omega), mset_ne (by omega), mset_ne (by omega), mset_ne (by omega)]
end
section
/-! The tree copied into the model's own row. -/
theorem F280_0s : ∀ (n : Nat) (q : Int) (m0 m : zHM), 0 ≤ q → q ≤ 240 → 240 - q < n → (∀ j, 0 ≤ j → j < q → m 14 (1900 + j) = m0 45 j) → (∀ r j, ¬ (r = 14 ∧ 1900 ≤ j ∧ j < 2140) → m r j = m0 r j) → ∃ m', F280_0 n q m = some (m0 47 0, m') ∧ (∀ j, 0 ≤ j → j < 240 → m' 14 (1900 + j) = m0 45 j) ∧ (∀ r j, ¬ (r = 14 ∧ 1900 ≤ j ∧ j < 2140) → m' r j = m0 r j) := by
  intro n
  induction n with
  | zero => intro q m0 m q0 q1 g; omega
  | succ n ih =>
    intro q m0 m q0 q1 g e2 e3
    rw [F280_0]
    by_cases e : q = 240
    · subst e
      rw [if_pos (by omega), e3 47 0 (by omega)]
      exact ⟨m, rfl, e2, e3⟩
    · rw [if_neg (by omega), wadd_eq (x := 1900) (by omega) (by omega), zG_t (by omega), zG_t (by omega), wadd_eq (by omega) (by omega)]
      refine ih (q + 1) m0 _ (by omega) (by omega) (by omega) (fun j j0 j1 => ?_) (fun r j hne => ?_)
      · by_cases u : j = q
        · subst u
          rw [mset_eq]
          exact e3 45 _ (by omega)
        · rw [mset_ne (by omega)]
          exact e2 j j0 (by omega)
      · rw [mset_ne (by omega)]
        exact e3 r j hne
/-- code and tree that agree are a sentence told -/
theorem RSn_new {h : zHC} {i : Int} {a nd : Int → Int} {n N : Nat} (e1 : ¬ h 384 i 0 = 0) (e0 : 0 ≤ h 384 i 0) (e2 : h 385 i 0 = (n : Int)) (n1 : n ≤ 40) (a1 : ¬ a 1898 = 0) (hP : zPT (zCl (h 386 i) n) nd N (a 1899)) (hN : N ≤ 60) (ha : ∀ j, 0 ≤ j → j < 240 → a (1900 + j) = nd j) : RSn h i a := by
  refine ⟨e0, ⟨fun z => absurd z e1, fun z => absurd z a1⟩, by omega, by omega, fun _ f => ?_⟩
  obtain ⟨b, b1, b2⟩ := hP f
  refine ⟨b, ?_, ?_⟩
  · rw [e2, show ((n : Int)).toNat = n by omega]
    exact b1 []
  · exact zEv_le (b2 (fun k => a (1900 + k)) (fun j j0 j1 => ha j j0 (by omega))) 64 (by omega)
end
section
/-! A leaf, not, and, or: added by both. -/
theorem L_leaf {h : zHC} {m : zHM} {w x y p v : Int} {n N : Nat} (e : h 385 1 0 = (n : Int)) (n1 : n < 40) (eN : m 46 0 = (N : Int)) (N1 : N < 60) (w0 : 13 ≤ w) (w1 : w ≤ 20) (hy : p + v = y) (g0 : w ≤ 16 → v = 0) (g1 : 17 ≤ w → p = 0 ∧ 60 ≤ x ∧ x ≤ 62) : ∃ h' m', F153 1 w x y h = some h' ∧ F286 (50 + w) p v x m = some ((N : Int), m') ∧ h' 385 1 0 = ((n + 1 : Nat) : Int) ∧ m' 46 0 = ((N + 1 : Nat) : Int) ∧ zCl (h' 386 1) (n + 1) = zCl (h 386 1) n ++ [(w, x, y)] ∧ zPT [(w, x, y)] (m' 45) (N + 1) N ∧ (∀ j, 0 ≤ j → j < 4 * (N : Int) → m' 45 j = m 45 j) ∧ (∀ r k j, ¬ ((r = 385 ∨ r = 386) ∧ k = 1) → h' r k j = h r k j) ∧ (∀ r j, ¬ (r = 45 ∨ r = 46) → m' r j = m r j) := by
  obtain ⟨h', a1, a2, a3, a4⟩ := E153 (v1 := w) (v2 := x) (v3 := y) e n1
  obtain ⟨m', b1, b2, b3, b4, b5, b6, b7, b8⟩ := E286 (v1 := 50 + w) (v2 := p) (v3 := v) (v4 := x) eN N1
  exact ⟨h', m', a1, b1, a2, b2, a3, zPT_leaf N1 w0 w1 b3 b6 (by rw [b4, b5]; exact hy) (fun z => by rw [b5]; exact g0 z) (fun z => by rw [b4]; exact g1 z), b7, a4, b8⟩
theorem L_not {h : zHC} {m : zHM} {k : Int} {n N : Nat} {C P : List (Int × Int × Int)} (e : h 385 1 0 = (n : Int)) (n1 : n < 40) (eN : m 46 0 = (N : Int)) (N1 : N < 60) (hC : zCl (h 386 1) n = C ++ P) (hP : zPT P (m 45) N k) : ∃ h' m', F153 1 12 0 0 h = some h' ∧ F286 1 k 0 0 m = some ((N : Int), m') ∧ h' 385 1 0 = ((n + 1 : Nat) : Int) ∧ m' 46 0 = ((N + 1 : Nat) : Int) ∧ zCl (h' 386 1) (n + 1) = C ++ (P ++ [(12, 0, 0)]) ∧ zPT (P ++ [(12, 0, 0)]) (m' 45) (N + 1) N ∧ (∀ j, 0 ≤ j → j < 4 * (N : Int) → m' 45 j = m 45 j) ∧ (∀ r k j, ¬ ((r = 385 ∨ r = 386) ∧ k = 1) → h' r k j = h r k j) ∧ (∀ r j, ¬ (r = 45 ∨ r = 46) → m' r j = m r j) := by
  obtain ⟨h', a1, a2, a3, a4⟩ := E153 (v1 := 12) (v2 := 0) (v3 := 0) e n1
  obtain ⟨m', b1, b2, b3, b4, b5, b6, b7, b8⟩ := E286 (v1 := 1) (v2 := k) (v3 := 0) (v4 := 0) eN N1
  exact ⟨h', m', a1, b1, a2, b2, by rw [a3, hC, List.append_assoc], zPT_not hP N1 b7 b3 b4, b7, a4, b8⟩
theorem L_and {h : zHC} {m : zHM} {k k2 : Int} {n N : Nat} {C P Q : List (Int × Int × Int)} (e : h 385 1 0 = (n : Int)) (n1 : n < 40) (eN : m 46 0 = (N : Int)) (N1 : N < 60) (hC : zCl (h 386 1) n = C ++ P ++ Q) (hP : zPT P (m 45) N k) (hQ : zPT Q (m 45) N k2) : ∃ h' m', F153 1 11 0 0 h = some h' ∧ F286 2 k k2 0 m = some ((N : Int), m') ∧ h' 385 1 0 = ((n + 1 : Nat) : Int) ∧ m' 46 0 = ((N + 1 : Nat) : Int) ∧ zCl (h' 386 1) (n + 1) = C ++ (P ++ Q ++ [(11, 0, 0)]) ∧ zPT (P ++ Q ++ [(11, 0, 0)]) (m' 45) (N + 1) N ∧ (∀ j, 0 ≤ j → j < 4 * (N : Int) → m' 45 j = m 45 j) ∧ (∀ r k j, ¬ ((r = 385 ∨ r = 386) ∧ k = 1) → h' r k j = h r k j) ∧ (∀ r j, ¬ (r = 45 ∨ r = 46) → m' r j = m r j) := by
  obtain ⟨h', a1, a2, a3, a4⟩ := E153 (v1 := 11) (v2 := 0) (v3 := 0) e n1
  obtain ⟨m', b1, b2, b3, b4, b5, b6, b7, b8⟩ := E286 (v1 := 2) (v2 := k) (v3 := k2) (v4 := 0) eN N1
  exact ⟨h', m', a1, b1, a2, b2, by rw [a3, hC]; simp only [List.append_assoc], zPT_and hP hQ N1 b7 b3 b4 b5, b7, a4, b8⟩
theorem L_or {h : zHC} {m : zHM} {k k2 : Int} {n N : Nat} {C P Q : List (Int × Int × Int)} (e : h 385 1 0 = (n : Int)) (n1 : n < 40) (eN : m 46 0 = (N : Int)) (N1 : N < 60) (hC : zCl (h 386 1) n = C ++ P ++ Q) (hP : zPT P (m 45) N k) (hQ : zPT Q (m 45) N k2) : ∃ h' m', F153 1 10 0 0 h = some h' ∧ F286 3 k k2 0 m = some ((N : Int), m') ∧ h' 385 1 0 = ((n + 1 : Nat) : Int) ∧ m' 46 0 = ((N + 1 : Nat) : Int) ∧ zCl (h' 386 1) (n + 1) = C ++ (P ++ Q ++ [(10, 0, 0)]) ∧ zPT (P ++ Q ++ [(10, 0, 0)]) (m' 45) (N + 1) N ∧ (∀ j, 0 ≤ j → j < 4 * (N : Int) → m' 45 j = m 45 j) ∧ (∀ r k j, ¬ ((r = 385 ∨ r = 386) ∧ k = 1) → h' r k j = h r k j) ∧ (∀ r j, ¬ (r = 45 ∨ r = 46) → m' r j = m r j) := by
  obtain ⟨h', a1, a2, a3, a4⟩ := E153 (v1 := 10) (v2 := 0) (v3 := 0) e n1
  obtain ⟨m', b1, b2, b3, b4, b5, b6, b7, b8⟩ := E286 (v1 := 3) (v2 := k) (v3 := k2) (v4 := 0) eN N1
  exact ⟨h', m', a1, b1, a2, b2, by rw [a3, hC]; simp only [List.append_assoc], zPT_or hP hQ N1 b7 b3 b4 b5, b7, a4, b8⟩
end
