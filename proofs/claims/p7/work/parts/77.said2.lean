/-! said, whole. -/
theorem zEv_f {nd : Int → Int} {f f' : Int → Int → Int → Bool} (hf : ∀ w x y, 13 ≤ w → w ≤ 20 → (17 ≤ w → 60 ≤ x ∧ x ≤ 62) → f' w x y = f w x y) : ∀ (n : Nat) (k : Int), zEv nd f' n k = zEv nd f n k := by
  intro n
  induction n with
  | zero => intro k; rfl
  | succ n ih =>
    intro k
    rw [zEv, zEv]
    simp only [ih]
    by_cases q : 63 ≤ nd (4 * k) ∧ nd (4 * k) ≤ 70 ∧ (nd (4 * k) ≤ 66 → nd (4 * k + 2) = 0) ∧ (67 ≤ nd (4 * k) → nd (4 * k + 1) = 0 ∧ 60 ≤ nd (4 * k + 3) ∧ nd (4 * k + 3) ≤ 62)
    · simp only [if_pos q]
      rw [hf (nd (4 * k) - 50) (nd (4 * k + 3)) (nd (4 * k + 1) + nd (4 * k + 2)) (by omega) (by omega) (fun g => ⟨(q.2.2.2 (by omega)).2.1, (q.2.2.2 (by omega)).2.2⟩)]
    · simp only [if_neg q]
theorem L290a {kR : Int → Int → zHM → Option Int} {m : zHM} {s a x y w : Int} (s0 : 0 ≤ s) (s1 : s < m 14 216) (s2 : m 14 216 ≤ 30) (a0 : 0 ≤ a) (a1 : a + 3 < 2140) (hx : m 14 (a + 3) = x) (x0 : 60 ≤ x) (x1 : x ≤ 62) (w0 : 0 ≤ w) (w1 : w < 8) : F290_1 kR m a y w s = some (if zCm (m 14 (217 + 8 * s + w)) x y = true then 1 else 0) := by
  unfold F290_1 zCm
  rw [F213_s s0 (by omega) w0 w1, Option.bind_some, wadd_eq (by omega) (by omega), zG_t (by omega), hx]
  by_cases a : x = 60
  · rw [if_neg (fun z => z a), if_pos a]
    by_cases b : y ≤ m 14 (217 + 8 * s + w)
    · rw [if_pos b, if_neg (by rw [decide_eq_true_eq]; omega)]
    · rw [if_neg b, if_pos (by rw [decide_eq_true_eq]; omega)]
  · rw [if_pos a, if_neg a, zG_t (by omega)]
    by_cases e : x = 61
    · rw [if_neg (fun z => z e), if_pos e]
      by_cases b : m 14 (217 + 8 * s + w) = y
      · rw [if_neg (fun z => z b), if_pos (by rw [decide_eq_true_eq]; exact b)]
      · rw [if_pos b, if_neg (by rw [decide_eq_true_eq]; exact b)]
    · rw [if_pos e, if_neg e]
      by_cases b : m 14 (217 + 8 * s + w) ≤ y
      · rw [if_pos b, if_neg (by rw [decide_eq_true_eq]; omega)]
      · rw [if_neg b, if_pos (by rw [decide_eq_true_eq]; omega)]
theorem L290 {hc : zHC} {m : zHM} {s : Int} (h : RG hc m) (s0 : 0 ≤ s) (s1 : s < m 14 216) : ∀ (n : Nat) (k : Int) (b : Bool), zEv (fun j => m 14 (1900 + j)) (zB m s zCm) n k = some b → F290r n k s m = some (if b = true then 1 else 0) := by
  obtain ⟨l1, l2⟩ := L_lost h s0 s1
  obtain ⟨⟨r1, r2, r3, r4, r5, r6, r7⟩, hL, ⟨⟨c1, c2⟩, ⟨c3, c4⟩, c5, -⟩⟩ := h.2.1.2
  obtain ⟨hD, hF⟩ := c5 s s0 s1
  have o5 := hF.2.2.2.2.2.1
  intro n
  induction n with
  | zero => intro k b e; cases e
  | succ n ih =>
    intro k b e
    rw [zEv] at e
    by_cases q : 0 ≤ k ∧ k < 60
    · rw [if_pos q] at e
      rw [F290r]
      unfold F290 F290_0
      rw [wmul_eq (by omega) (by omega), wadd_eq (x := 1900) (by omega) (by omega), wadd_eq (x := 1900 + 4 * k) (by omega) (by omega), wadd_eq (x := 1900 + 4 * k) (by omega) (by omega), zG_t (by omega), zG_t (by omega), zG_t (by omega)]
      have x1 : m 14 (1900 + (4 * k + 1)) = m 14 (1900 + 4 * k + 1) := by rw [Int.add_assoc]
      have x2 : m 14 (1900 + (4 * k + 2)) = m 14 (1900 + 4 * k + 2) := by rw [Int.add_assoc]
      have x3 : m 14 (1900 + (4 * k + 3)) = m 14 (1900 + 4 * k + 3) := by rw [Int.add_assoc]
      rw [x1, x2, x3] at e
      by_cases a : m 14 (1900 + 4 * k) = 1
      · rw [if_pos a] at e ⊢
        obtain ⟨b1, y1, y2⟩ := Option.bind_eq_some_iff.mp e
        rw [ih _ _ y1, Option.bind_some, ← Option.some.inj y2]
        cases b1 <;> rfl
      · rw [if_neg a] at e ⊢
        by_cases a : m 14 (1900 + 4 * k) = 2
        · rw [if_pos a] at e ⊢
          obtain ⟨b1, y1, y2⟩ := Option.bind_eq_some_iff.mp e
          obtain ⟨b2, y3, y4⟩ := Option.bind_eq_some_iff.mp y2
          rw [ih _ _ y1, Option.bind_some, ih _ _ y3, Option.bind_some, ← Option.some.inj y4]
          cases b1 <;> cases b2 <;> rfl
        · rw [if_neg a] at e ⊢
          by_cases a : m 14 (1900 + 4 * k) = 3
          · rw [if_pos a] at e ⊢
            obtain ⟨b1, y1, y2⟩ := Option.bind_eq_some_iff.mp e
            obtain ⟨b2, y3, y4⟩ := Option.bind_eq_some_iff.mp y2
            rw [ih _ _ y1, Option.bind_some, ih _ _ y3, Option.bind_some, ← Option.some.inj y4]
            cases b1 <;> cases b2 <;> rfl
          · rw [if_neg a] at e ⊢
            by_cases g : 63 ≤ m 14 (1900 + 4 * k) ∧ m 14 (1900 + 4 * k) ≤ 70 ∧ (m 14 (1900 + 4 * k) ≤ 66 → m 14 (1900 + 4 * k + 2) = 0) ∧ (67 ≤ m 14 (1900 + 4 * k) → m 14 (1900 + 4 * k + 1) = 0 ∧ 60 ≤ m 14 (1900 + 4 * k + 3) ∧ m 14 (1900 + 4 * k + 3) ≤ 62)
            · rw [if_pos g] at e
              obtain ⟨g1, g2, g3, g4⟩ := g
              rw [← Option.some.inj e]
              unfold zB
              by_cases a : m 14 (1900 + 4 * k) = 63
              · rw [if_pos a, if_pos (show m 14 (1900 + 4 * k) - 50 = 13 by omega), l1, Option.bind_some]
                by_cases z : m 14 (217 + 8 * s + 6) = 0 ∧ hc 72 0 s = 1000000
                · rw [show (if m 14 (217 + 8 * s + 6) = 0 ∧ hc 72 0 s = 1000000 then (1 : Int) else 0) = 1 from if_pos z]
                  rfl
                · rw [show (if m 14 (217 + 8 * s + 6) = 0 ∧ hc 72 0 s = 1000000 then (1 : Int) else 0) = 0 from if_neg z]
                  rfl
              · rw [if_neg a, if_neg (show ¬ m 14 (1900 + 4 * k) - 50 = 13 by omega)]
                by_cases a : m 14 (1900 + 4 * k) = 64
                · rw [if_pos a, if_pos (show m 14 (1900 + 4 * k) - 50 = 14 by omega), F213_s s0 (by omega) (by decide) (by decide), Option.bind_some]
                  obtain ⟨r, e1, e2, e3, e4, e5⟩ := F64_s (x := m 14 (217 + 8 * s + 5)) (by omega) o5.2
                  rw [e2, Option.bind_some]
                  by_cases b : r ≤ 1
                  · rw [if_pos b, if_neg]
                    rw [decide_eq_true_eq]
                    intro z
                    refine z ?_
                    by_cases y0 : r = 0
                    · exact Or.inl (by rw [y0])
                    · exact Or.inr (by rw [show r = 1 by omega])
                  · rw [if_neg b, if_pos]
                    rw [decide_eq_true_eq]
                    intro z
                    rcases z with z | z
                    · exact b (by have := Option.some.inj z; omega)
                    · exact b (by have := Option.some.inj z; omega)
                · rw [if_neg a, if_neg (show ¬ m 14 (1900 + 4 * k) - 50 = 14 by omega)]
                  by_cases a : m 14 (1900 + 4 * k) = 65
                  · rw [if_pos a, if_pos (show m 14 (1900 + 4 * k) - 50 = 15 by omega), F213_s s0 (by omega) (by decide) (by decide), Option.bind_some, E214, g3 (by omega), Int.add_zero]
                    rcases F65_01 (x := m 14 (217 + 8 * s + 5)) (p := m 14 (1900 + 4 * k + 1)) with u | u
                    · rw [u]
                      rfl
                    · rw [u]
                      rfl
                  · rw [if_neg a, if_neg (show ¬ m 14 (1900 + 4 * k) - 50 = 15 by omega)]
                    by_cases a : m 14 (1900 + 4 * k) = 66
                    · rw [if_pos a, if_pos (show m 14 (1900 + 4 * k) - 50 = 16 by omega), F213_s s0 (by omega) (by decide) (by decide), Option.bind_some, g3 (by omega), Int.add_zero]
                      by_cases b : m 14 (217 + 8 * s + 1) = m 14 (1900 + 4 * k + 1)
                      · rw [if_neg (fun z => z b), if_pos (by rw [decide_eq_true_eq]; exact b)]
                      · rw [if_pos b, if_neg (by rw [decide_eq_true_eq]; exact b)]
                    · obtain ⟨g5, g6, g7⟩ := g4 (by omega)
                      rw [if_neg a, if_neg (show ¬ m 14 (1900 + 4 * k) - 50 = 16 by omega), zG_t (by omega), wsub_eq (by omega) (by omega), g5, Int.zero_add]
                      have la := fun w w0 w1 => L290a (kR := F290r n) (m := m) (s := s) (a := 1900 + 4 * k) (y := m 14 (1900 + 4 * k + 2)) (w := w) s0 s1 c4 (by omega) (by omega) rfl g6 g7 w0 w1
                      by_cases a : m 14 (1900 + 4 * k) - 50 = 17
                      · rw [if_neg (fun z => z a), if_pos a]
                        exact la 0 (by decide) (by decide)
                      · rw [if_pos a, if_neg a]
                        by_cases a : m 14 (1900 + 4 * k) - 50 = 18
                        · rw [if_neg (fun z => z a), if_pos a]
                          exact la 4 (by decide) (by decide)
                        · rw [if_pos a, if_neg a]
                          by_cases a : m 14 (1900 + 4 * k) - 50 = 19
                          · rw [if_neg (fun z => z a), if_pos a]
                            exact la 2 (by decide) (by decide)
                          · rw [if_pos a, if_neg a, if_pos (show m 14 (1900 + 4 * k) - 50 = 20 by omega)]
                            exact la 6 (by decide) (by decide)
            · rw [if_neg g] at e
              cases e
    · rw [if_neg q] at e
      cases e
