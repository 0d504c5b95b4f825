/-! cliff, person, saying: what is thrown and what is not. -/
theorem C_saying {hc : zHC} {hm : zHM} {s w : Int} (h : RG hc hm) : ((0 ≤ s ∧ s < hm 14 216 ∧ 0 ≤ w ∧ w ≤ 7) → ∃ r hm', F167 s w hc = some r ∧ F216 s w hm = some (r, hm') ∧ hm' 0 0 = 0 ∧ RG hc hm') ∧ (¬ (0 ≤ s ∧ s < hm 14 216 ∧ 0 ≤ w ∧ w ≤ 7) → ∃ r hm', F216 s w hm = some (r, hm') ∧ hm' 0 0 = 1 ∧ RG hc hm') := by
  have e65 : hc 65 0 0 = hm 14 216 := by have := h.2.1.2.1.2.1; omega
  have hW := h.2.1.2.2.2
  obtain ⟨⟨c1, c2⟩, ⟨c3, c4⟩, c5, -⟩ := hW
  have r7 := h.2.1.2.1.2.2.2.2.2.2
  unfold F167 F216 F216_0 F206
  rw [E58 e65, E217 rfl, E188]
  simp only [Option.bind_some]
  constructor
  · intro g
    have g1 : 0 ≤ s ∧ s < hm 14 216 := ⟨g.1, g.2.1⟩
    have g2 : 0 ≤ w ∧ w ≤ 7 := g.2.2
    simp only [if_pos g1, if_pos g2, z10, zn10]
    rw [if_neg (show ¬ w < 0 by omega), if_pos (show w < 8 by omega), F63_s (by omega) (by omega) (by omega) (by omega), F213_s (by omega) (by omega) (by omega) (by omega), mset_ne (by omega)]
    obtain ⟨t1, -⟩ := r7 s g1.1 (by omega)
    rw [show (0 : Int) + s = s by omega] at t1
    rw [t1 w (by omega) (by omega)]
    exact ⟨_, _, rfl, rfl, mset_eq, RG_0 h⟩
  · intro g
    by_cases g1 : 0 ≤ s ∧ s < hm 14 216
    · have g2 : ¬ (0 ≤ w ∧ w ≤ 7) := fun z => g ⟨g1.1, g1.2, z⟩
      simp only [if_pos g1, if_neg g2, z10, zn00]
      exact ⟨_, _, rfl, mset_eq, RG_0 h⟩
    · simp only [if_neg g1, z00]
      exact ⟨_, _, rfl, mset_eq, RG_0 h⟩
theorem C_cliff {hc : zHC} {hm : zHM} {c w : Int} (h : RG hc hm) : ((0 ≤ c ∧ c < hm 14 2 ∧ 0 ≤ w ∧ w ≤ 3) → ∃ r hm', F163 c w hc = some r ∧ F204 c w hm = some (r, hm') ∧ hm' 0 0 = 0 ∧ RG hc hm') ∧ (¬ (0 ≤ c ∧ c < hm 14 2 ∧ 0 ≤ w ∧ w ≤ 3) → ∃ r hm', F204 c w hm = some (r, hm') ∧ hm' 0 0 = 1 ∧ RG hc hm') := by
  have w6 := RG_WN h
  unfold WN at w6
  obtain ⟨hN, hC, hP, hM, hF, hS, hQ, hW⟩ := h.2.1.1
  have e64 : hc 64 0 0 = hm 14 209 := h.2.1.2.1.1
  unfold F163 F204 F204_0 F206
  rw [E59 hN.2.2.1, E205 rfl, E188]
  simp only [Option.bind_some]
  constructor
  · intro g
    have g1 : 0 ≤ c ∧ c < hm 14 2 := ⟨g.1, g.2.1⟩
    have g2 : 0 ≤ w ∧ w ≤ 3 := g.2.2
    simp only [if_pos g1, if_pos g2, z10, zn10]
    obtain ⟨v1, v2, v3⟩ := hC c g1.1 g1.2
    obtain ⟨u1, u2, u3, u4, u5, u6⟩ := hW.2.1 c g1.1 g1.2
    have m14 : (mset hm 0 0 0) 14 = hm 14 := funext fun j => m0_ne (by decide)
    obtain ⟨sn, a1, a2', a3, a4⟩ := L91 (h := hc) (m := mset hm 0 0 0) (v := 0) (H := hm 14 209) (by rw [m14]; exact hN.2.2.2.2.2.2) (by rw [m14]; omega) (by rw [m14]; omega) (by rw [m14]; exact hS) (by rw [m14]; exact hW.2.2.2.2)
    rw [if_neg (show ¬ w < 0 by omega), if_pos (show w ≤ 3 by omega), e64, a1, a2']
    unfold F207
    rw [wmul_eq (by omega) (by omega), wadd_eq (x := 7) (by omega) (by omega), wadd_eq (x := 7 + 3 * c) (by omega) (by omega), wadd_eq (x := 7 + 3 * c) (by omega) (by omega), v1, v2, v3]
    simp (disch := omega) only [zG_t, Option.bind_some]
    rw [wsub_eq (x := hm 14 (7 + 3 * c + 2)) (by omega) (by omega)]
    by_cases q0 : w = 0
    · rw [if_pos q0, if_neg (show ¬ 3 ≤ w by omega), q0, Int.add_zero]
      exact ⟨_, _, rfl, rfl, mset_eq, RG_0 h⟩
    · rw [if_neg q0]
      by_cases q1 : w = 1
      · rw [if_pos q1, if_neg (show ¬ 3 ≤ w by omega), q1]
        exact ⟨_, _, rfl, rfl, mset_eq, RG_0 h⟩
      · rw [if_neg q1]
        by_cases q2 : w = 2
        · rw [if_pos q2, if_neg (show ¬ 3 ≤ w by omega), q2]
          exact ⟨_, _, rfl, rfl, mset_eq, RG_0 h⟩
        · rw [if_neg q2, if_pos (show 3 ≤ w by omega), mset_ne (by omega), wsub_eq (x := hm 14 (7 + 3 * c + 2)) (by omega) (by omega)]
          by_cases q3 : 0 < hm 14 (7 + 3 * c + 2) - sn
          · rw [if_pos q3, if_pos (show 0 ≤ hm 14 (7 + 3 * c + 2) - sn by omega)]
            exact ⟨_, _, rfl, rfl, mset_eq, RG_0 h⟩
          · rw [if_neg q3]
            by_cases q4 : 0 ≤ hm 14 (7 + 3 * c + 2) - sn
            · rw [if_pos q4, show hm 14 (7 + 3 * c + 2) - sn = 0 by omega]
              exact ⟨_, _, rfl, rfl, mset_eq, RG_0 h⟩
            · rw [if_neg q4]
              exact ⟨_, _, rfl, rfl, mset_eq, RG_0 h⟩
  · intro g
    by_cases g1 : 0 ≤ c ∧ c < hm 14 2
    · have g2 : ¬ (0 ≤ w ∧ w ≤ 3) := fun z => g ⟨g1.1, g1.2, z⟩
      simp only [if_pos g1, if_neg g2, z10, zn00]
      exact ⟨_, _, rfl, mset_eq, RG_0 h⟩
    · simp only [if_neg g1, z00]
      exact ⟨_, _, rfl, mset_eq, RG_0 h⟩

theorem E214 {x p : Int} : F214 x p = F65 x p := rfl
/-- the counts over the sayings -/
theorem K_with {hc : zHC} {m : zHM} {p w v : Int} (e65 : hc 65 0 0 = m 14 216) (c0 : 0 ≤ m 14 216) (c1 : m 14 216 ≤ 30) (hF : ∀ s, 0 ≤ s → s < m 14 216 → CF hc 0 s (m 14) s) (hw : w = 2 ∧ v = 5 ∨ w = 4 ∧ v = 7) : ∀ (n n' : Nat) (k acc : Int), 0 ≤ k → k ≤ m 14 216 → m 14 216 - k < n → m 14 216 - k < n' → 0 ≤ acc → acc ≤ k → ∃ r, F165_0 hc n 0 v p acc k = some r ∧ F209_1 n' p w acc k m = some (r, m) := by
  intro n
  induction n with
  | zero => intro n' k acc k0 k1 g1 g2; omega
  | succ n ih =>
    intro n' k acc k0 k1 g1 g2 a0 a1
    cases n' with
    | zero => omega
    | succ n' =>
      rw [F165_0, F209_1, e65]
      unfold F165_1 F209_3 F209_2
      by_cases q : m 14 216 ≤ k
      · rw [if_pos q, if_pos q]
        exact ⟨_, rfl, rfl⟩
      · rw [if_neg q, if_neg q, F63_s (by omega) (by omega) (by omega) (by omega), hF k k0 (by omega) v (by omega) (by omega), wadd_eq (x := k) (by omega) (by omega), wadd_eq (x := acc) (by omega) (by omega)]
        have fin : ∀ x, ((F65 x p = some 0 → ∃ r, F165_0 hc n 0 v p acc (k + 1) = some r ∧ F209_1 n' p w acc (k + 1) m = some (r, m)) ∧ (F65 x p = some 1 → ∃ r, F165_0 hc n 0 v p (acc + 1) (k + 1) = some r ∧ F209_1 n' p w (acc + 1) (k + 1) m = some (r, m))) := fun x => ⟨fun _ => ih n' (k + 1) acc (by omega) (by omega) (by omega) (by omega) a0 (by omega), fun _ => ih n' (k + 1) (acc + 1) (by omega) (by omega) (by omega) (by omega) (by omega) (by omega)⟩
        rcases hw with ⟨w2, v5⟩ | ⟨w4, v7⟩
        · rw [if_neg (show ¬ ¬ w = 2 from fun z => z w2), F213_s (by omega) (by omega) (by decide) (by decide), v5]
          simp only [Option.bind_some, E214]
          rcases F65_01 (x := m 14 (217 + 8 * k + 5)) (p := p) with u | u
          · rw [u]
            simp only [Option.bind_some, z00]
            rw [← v5]
            exact (fin _).1 u
          · rw [u]
            simp only [Option.bind_some, z10]
            rw [← v5]
            exact (fin _).2 u
        · rw [if_pos (show ¬ w = 2 by omega), if_pos (show ¬ w = 3 by omega), F213_s (by omega) (by omega) (by decide) (by decide), v7]
          simp only [Option.bind_some, E214]
          rcases F65_01 (x := m 14 (217 + 8 * k + 7)) (p := p) with u | u
          · rw [u]
            simp only [Option.bind_some, z00]
            rw [← v7]
            exact (fin _).1 u
          · rw [u]
            simp only [Option.bind_some, z10]
            rw [← v7]
            exact (fin _).2 u
theorem K_by {hc : zHC} {m : zHM} {p : Int} (e65 : hc 65 0 0 = m 14 216) (c0 : 0 ≤ m 14 216) (c1 : m 14 216 ≤ 30) (hF : ∀ s, 0 ≤ s → s < m 14 216 → CF hc 0 s (m 14) s) : ∀ (n n' : Nat) (k acc : Int), 0 ≤ k → k ≤ m 14 216 → m 14 216 - k < n → m 14 216 - k < n' → 0 ≤ acc → acc ≤ k → ∃ r, F166_0 hc n 0 p acc k = some r ∧ F209_1 n' p 3 acc k m = some (r, m) := by
  intro n
  induction n with
  | zero => intro n' k acc k0 k1 g1 g2; omega
  | succ n ih =>
    intro n' k acc k0 k1 g1 g2 a0 a1
    cases n' with
    | zero => omega
    | succ n' =>
      rw [F166_0, F209_1, e65]
      unfold F166_1 F209_3 F209_2
      by_cases q : m 14 216 ≤ k
      · rw [if_pos q, if_pos q]
        exact ⟨_, rfl, rfl⟩
      · rw [if_neg q, if_neg q, F63_s (by omega) (by omega) (by decide) (by decide), hF k k0 (by omega) 1 (by decide) (by decide), wadd_eq (x := k) (by omega) (by omega), wadd_eq (x := acc) (by omega) (by omega), if_pos (show ¬ (3 : Int) = 2 by decide), if_neg (show ¬ ¬ (3 : Int) = 3 by decide), F213_s (by omega) (by omega) (by decide) (by decide)]
        simp only [Option.bind_some]
        by_cases u : m 14 (217 + 8 * k + 1) = p
        · rw [if_neg (show ¬ ¬ m 14 (217 + 8 * k + 1) = p from fun z => z u), if_neg (show ¬ ¬ m 14 (217 + 8 * k + 1) = p from fun z => z u)]
          exact ih n' (k + 1) (acc + 1) (by omega) (by omega) (by omega) (by omega) (by omega) (by omega)
        · rw [if_pos u, if_pos u]
          exact ih n' (k + 1) acc (by omega) (by omega) (by omega) (by omega) a0 (by omega)
theorem C_person {hc : zHC} {hm : zHM} {p w : Int} (h : RG hc hm) : ((0 ≤ p ∧ p < hm 14 3 ∧ 0 ≤ w ∧ w ≤ 5) → ∃ r hm', F164 p w hc = some r ∧ F209 p w hm = some (r, hm') ∧ hm' 0 0 = 0 ∧ RG hc hm') ∧ (¬ (0 ≤ p ∧ p < hm 14 3 ∧ 0 ≤ w ∧ w ≤ 5) → ∃ r hm', F209 p w hm = some (r, hm') ∧ hm' 0 0 = 1 ∧ RG hc hm') := by
  have w6 := RG_WN h
  unfold WN at w6
  have big := zFu_big
  obtain ⟨hN, hC, hP, hM, hF, hS, hQ, hW⟩ := h.2.1.1
  have e65 : hc 65 0 0 = hm 14 216 := by have := h.2.1.2.1.2.1; omega
  have m14 : (mset hm 0 0 0) 14 = hm 14 := funext fun j => m0_ne (by decide)
  obtain ⟨⟨c1, c2⟩, ⟨c3, c4⟩, c5, -⟩ := h.2.1.2.2.2
  have rp := h.2.1.2.1.2.2.2.2.2.1
  have r7 := h.2.1.2.1.2.2.2.2.2.2
  have cf : ∀ s, 0 ≤ s → s < (mset hm 0 0 0) 14 216 → CF hc 0 s ((mset hm 0 0 0) 14) s := by
    intro s s0 s1
    rw [m14] at s1 ⊢
    obtain ⟨t1, -⟩ := r7 s s0 (by omega)
    rw [show (0 : Int) + s = s by omega] at t1
    exact t1
  have e65' : hc 65 0 0 = (mset hm 0 0 0) 14 216 := by rw [m14]; exact e65
  have c3' : 0 ≤ (mset hm 0 0 0) 14 216 := by rw [m14]; exact c3
  have c4' : (mset hm 0 0 0) 14 216 ≤ 30 := by rw [m14]; exact c4
  unfold F164 F209 F209_0 F206
  rw [E61 hN.2.2.2.1, E210 rfl, E188]
  simp only [Option.bind_some]
  constructor
  · intro g
    have g1 : 0 ≤ p ∧ p < hm 14 3 := ⟨g.1, g.2.1⟩
    have g2 : 0 ≤ w ∧ w ≤ 5 := g.2.2
    simp only [if_pos g1, if_pos g2, z10, zn10]
    rw [if_neg (show ¬ w < 0 by omega), if_pos (show w ≤ 5 by omega)]
    by_cases q0 : w = 0
    · rw [if_pos q0, if_neg (show ¬ ¬ w = 0 from fun z => z q0), zG_t (by omega), wadd_eq (by omega) (by omega), zG_t (by omega), (rp p g1.1 g1.2).1]
      exact ⟨_, _, rfl, rfl, mset_eq, RG_0 h⟩
    · rw [if_neg q0, if_pos q0]
      by_cases q1 : w = 1
      · rw [if_pos q1, if_neg (show ¬ ¬ w = 1 from fun z => z q1)]
        obtain ⟨r, a1, a2, -, -⟩ := L101 (h := hc) (m := mset hm 0 0 0) (i := 0) (p := p) (by omega) (by omega) (by rw [m14]; exact h.2.1.2)
        rw [a1, a2]
        exact ⟨_, _, rfl, rfl, mset_eq, RG_0 h⟩
      · rw [if_neg q1, if_pos q1]
        by_cases q5 : w = 5
        · rw [if_neg (show ¬ w = 2 by omega), if_neg (show ¬ w = 3 by omega), if_neg (show ¬ w = 4 by omega), if_neg (show ¬ ¬ w = 5 from fun z => z q5), zG_t (by omega), zG_t (by omega), wmul_eq (by omega) (by omega), wadd_eq (x := 25) (by omega) (by omega), wadd_eq (x := 25 + 2 * p) (by omega) (by omega), zG_t (by omega), (hP p g1.1 g1.2).2]
          exact ⟨_, _, rfl, rfl, mset_eq, RG_0 h⟩
        · rw [if_pos q5]
          by_cases q2 : w = 2
          · rw [if_pos q2]
            obtain ⟨r, a1, a2⟩ := K_with (p := p) (w := w) (v := 5) e65' c3' c4' cf (Or.inl ⟨q2, rfl⟩) zFu zFu 0 0 (by decide) c3' (by omega) (by omega) (by decide) (by decide)
            unfold F165
            rw [a1, a2]
            exact ⟨_, _, rfl, rfl, mset_eq, RG_0 h⟩
          · rw [if_neg q2]
            by_cases q3 : w = 3
            · rw [if_pos q3]
              obtain ⟨r, a1, a2⟩ := K_by (p := p) e65' c3' c4' cf zFu zFu 0 0 (by decide) c3' (by omega) (by omega) (by decide) (by decide)
              unfold F166
              rw [q3, a1, a2]
              exact ⟨_, _, rfl, rfl, mset_eq, RG_0 h⟩
            · rw [if_neg q3, if_pos (show w = 4 by omega)]
              obtain ⟨r, a1, a2⟩ := K_with (p := p) (w := w) (v := 7) e65' c3' c4' cf (Or.inr ⟨by omega, rfl⟩) zFu zFu 0 0 (by decide) c3' (by omega) (by omega) (by decide) (by decide)
              unfold F165
              rw [a1, a2]
              exact ⟨_, _, rfl, rfl, mset_eq, RG_0 h⟩
  · intro g
    by_cases g1 : 0 ≤ p ∧ p < hm 14 3
    · have g2 : ¬ (0 ≤ w ∧ w ≤ 5) := fun z => g ⟨g1.1, g1.2, z⟩
      simp only [if_pos g1, if_neg g2, z10, zn00]
      exact ⟨_, _, rfl, mset_eq, RG_0 h⟩
    · simp only [if_neg g1, z00]
      exact ⟨_, _, rfl, mset_eq, RG_0 h⟩
