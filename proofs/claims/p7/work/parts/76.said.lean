/-! said: what a sentence tells of a saying. -/
def zCc (r x y : Int) : Bool := if x = 60 then decide (r < y) else if x = 62 then decide (y < r) else decide (r = y)
def zCm (r x y : Int) : Bool := if x = 60 then decide (r < y) else if x = 61 then decide (r = y) else decide (y < r)
def zB (m : zHM) (s : Int) (c : Int → Int → Int → Bool) (w x y : Int) : Bool := if w = 13 then decide (F291 s m = some 1) else if w = 14 then decide (¬ (F215 (m 14 (217 + 8 * s + 5)) = some 0 ∨ F215 (m 14 (217 + 8 * s + 5)) = some 1)) else if w = 15 then decide (F65 (m 14 (217 + 8 * s + 5)) y = some 1) else if w = 16 then decide (m 14 (217 + 8 * s + 1) = y) else if w = 17 then c (m 14 (217 + 8 * s + 0)) x y else if w = 18 then c (m 14 (217 + 8 * s + 4)) x y else if w = 19 then c (m 14 (217 + 8 * s + 2)) x y else if w = 20 then c (m 14 (217 + 8 * s + 6)) x y else false
theorem zCm_cc {r x y : Int} (h0 : 60 ≤ x) (h1 : x ≤ 62) : zCm r x y = zCc r x y := by
  unfold zCm zCc
  by_cases a : x = 60
  · rw [if_pos a, if_pos a]
  · rw [if_neg a, if_neg a]
    by_cases b : x = 61
    · rw [if_pos b, if_neg (by omega)]
    · rw [if_neg b, if_pos (by omega)]
theorem F159_s {r x y : Int} : F159 r x y = some (if zCc r x y = true then 1 else 0) := by
  unfold F159 zCc
  by_cases a : x = 60
  · rw [if_neg (fun z => z a), if_pos a]
    by_cases b : y ≤ r
    · rw [if_pos b, if_neg (by rw [decide_eq_true_eq]; omega)]
    · rw [if_neg b, if_pos (by rw [decide_eq_true_eq]; omega)]
  · rw [if_pos a, if_neg a]
    by_cases e : x = 62
    · rw [if_neg (fun z => z e), if_pos e]
      by_cases b : r ≤ y
      · rw [if_pos b, if_neg (by rw [decide_eq_true_eq]; omega)]
      · rw [if_neg b, if_pos (by rw [decide_eq_true_eq]; omega)]
    · rw [if_pos e, if_neg e]
      by_cases b : r = y
      · rw [if_neg (fun z => z b), if_pos (by rw [decide_eq_true_eq]; exact b)]
      · rw [if_pos b, if_neg (by rw [decide_eq_true_eq]; exact b)]
theorem K_lost1 {m : zHM} {s H : Int} (s0 : 0 ≤ s) (s1 : s < 30) (n6 : m 14 2 ≤ 6) (hD : SD (m 14) s H 6) (hA : ∀ c, 0 ≤ c → c < 6 → m 14 (457 + 18 * s + 3 * c) ≤ H) : ∀ (n : Nat) (q : Int), 0 ≤ q → q ≤ 6 → 6 - q < n → F291_0 m n s q = some 1 := by
  intro n
  induction n with
  | zero => intro q q0 q1 g; omega
  | succ n ih =>
    intro q q0 q1 g
    rw [F291_0]
    unfold F291_1
    by_cases e : m 14 2 ≤ q
    · rw [if_pos e]
    · rw [if_neg e, F219_s s0 s1 q0 (by omega) (by decide) (by decide), F219_s s0 s1 q0 (by omega) (by decide) (by decide), Int.add_zero, wadd_eq (by omega) (by omega)]
      simp only [Option.bind_some]
      obtain ⟨d1, d2, d3, d4, d5⟩ := hD q q0 (by omega)
      have dA := hA q q0 (by omega)
      by_cases u : m 14 (457 + 18 * s + 3 * q) ≤ 0
      · rw [if_pos u]
        exact ih (q + 1) (by omega) (by omega) (by omega)
      · rw [if_neg u, d4, if_pos (show ¬ m 14 (457 + 18 * s + 3 * q) = 0 ∧ (m 14 (457 + 18 * s + 3 * q) < H ∨ m 14 (457 + 18 * s + 3 * q) = H ∧ q < 6) from ⟨by omega, by omega⟩), if_pos (by decide)]
        exact ih (q + 1) (by omega) (by omega) (by omega)
theorem K_lost0 {m : zHM} {s H c0 : Int} (s0 : 0 ≤ s) (s1 : s < 30) (n6 : m 14 2 ≤ 6) (hD : SD (m 14) s H 6) (c1 : c0 < m 14 2) (hA : H < m 14 (457 + 18 * s + 3 * c0)) (H0 : 0 ≤ H) : ∀ (n : Nat) (q : Int), 0 ≤ q → q ≤ c0 → 6 - q < n → F291_0 m n s q = some 0 := by
  intro n
  induction n with
  | zero => intro q q0 q1 g; omega
  | succ n ih =>
    intro q q0 q1 g
    rw [F291_0]
    unfold F291_1
    rw [if_neg (show ¬ m 14 2 ≤ q by omega), F219_s s0 s1 q0 (by omega) (by decide) (by decide), F219_s s0 s1 q0 (by omega) (by decide) (by decide), Int.add_zero, wadd_eq (by omega) (by omega)]
    simp only [Option.bind_some]
    obtain ⟨d1, d2, d3, d4, d5⟩ := hD q q0 (by omega)
    by_cases u : q = c0
    · subst u
      rw [if_neg (show ¬ m 14 (457 + 18 * s + 3 * q) ≤ 0 by omega), d4, if_neg (show ¬ (¬ m 14 (457 + 18 * s + 3 * q) = 0 ∧ (m 14 (457 + 18 * s + 3 * q) < H ∨ m 14 (457 + 18 * s + 3 * q) = H ∧ q < 6)) from fun z => by omega), if_neg (by decide)]
    · have nx := ih (q + 1) (by omega) (by omega) (by omega)
      by_cases v : m 14 (457 + 18 * s + 3 * q) ≤ 0
      · rw [if_pos v]
        exact nx
      · rw [if_neg v]
        by_cases w : ¬ m 14 (457 + 18 * s + 3 * q + 2) = 0
        · rw [if_pos w]
          exact nx
        · rw [if_neg w]
theorem L_lost {hc : zHC} {m : zHM} {s : Int} (h : RG hc m) (s0 : 0 ≤ s) (s1 : s < m 14 216) : F291 s m = some (if m 14 (217 + 8 * s + 6) = 0 ∧ hc 72 0 s = 1000000 then 1 else 0) ∧ F125 0 s hc = some (if hc 72 0 s = 1000000 then 0 else 1) := by
  have w6 := RG_WN h
  unfold WN at w6
  have big := zFu_big
  obtain ⟨⟨r1, r2, r3, r4, r5, r6, r7⟩, hL, ⟨⟨c1, c2⟩, ⟨c3, c4⟩, c5, -⟩⟩ := h.2.1.2
  obtain ⟨t1, t2, t3, t4⟩ := r7 s s0 (by omega)
  rw [show (0 : Int) + s = s by omega] at t1 t2
  obtain ⟨hD, hF⟩ := c5 s s0 s1
  have o6 := hF.2.2.2.2.2.2.1.1
  constructor
  · unfold F291
    rw [F213_s s0 (by omega) (by decide) (by decide), Option.bind_some]
    by_cases a : m 14 (217 + 8 * s + 6) = 0
    · rw [if_pos (show m 14 (217 + 8 * s + 6) ≤ 0 by omega)]
      by_cases b : hc 72 0 s = 1000000
      · rw [if_pos ⟨a, b⟩]
        refine K_lost1 s0 (by omega) (by omega) hD (fun c g0 g1 => ?_) zFu 0 (by decide) (by decide) (by omega)
        have u := t3 c g0 g1
        have v := (t2 c g0 g1).1
        have d := (hD c g0 g1).2.1
        by_cases z : m 14 (457 + 18 * s + 3 * c) = 0
        · omega
        · rw [if_neg z] at v
          omega
      · rw [if_neg (fun z => b z.2)]
        rcases t4 with t4 | ⟨c, g0, g1, g2, g3⟩
        · exact absurd t4 b
        · have v := (t2 c g0 g1).1
          by_cases z : m 14 (457 + 18 * s + 3 * c) = 0
          · rw [if_pos z] at v
            omega
          · rw [if_neg z] at v
            have d5 := (hD c g0 g1).2.2.2.2
            exact K_lost0 (c0 := c) s0 (by omega) (by omega) hD (by by_cases y : m 14 2 ≤ c; exact absurd (d5 y) z; omega) (by omega) c1 zFu 0 (by decide) g0 (by omega)
    · rw [if_neg (show ¬ m 14 (217 + 8 * s + 6) ≤ 0 by omega), if_neg (fun z => a z.1)]
  · unfold F125
    rw [zG_t (by omega)]
    by_cases b : hc 72 0 s = 1000000
    · rw [if_pos b, if_pos b]
    · rw [if_neg b, if_neg b]
theorem L158 {hc : zHC} {m : zHM} {s q : Int} (h : RG hc m) (s0 : 0 ≤ s) (s1 : s < m 14 216) (q0 : 0 ≤ q) (q1 : q + 2 < 120) : F158 0 0 s q hc = some (if zB m s zCc (hc 386 0 q) (hc 386 0 (q + 1)) (hc 386 0 (q + 2)) = true then 1 else 0) := by
  obtain ⟨l1, l2⟩ := L_lost h s0 s1
  obtain ⟨⟨r1, r2, r3, r4, r5, r6, r7⟩, hL, ⟨⟨c1, c2⟩, ⟨c3, c4⟩, c5, -⟩⟩ := h.2.1.2
  obtain ⟨t1, t2, t3, t4⟩ := r7 s s0 (by omega)
  rw [show (0 : Int) + s = s by omega] at t1 t2
  obtain ⟨hD, hF⟩ := c5 s s0 s1
  have o5 := hF.2.2.2.2.2.1
  unfold F158
  rw [wadd_eq (y := 1) (by omega) (by omega), wadd_eq (y := 2) (by omega) (by omega), zG_t (by omega), zG_t (by omega), zG_t (by omega), F63_s s0 (by omega) (by decide) (by decide), F63_s s0 (by omega) (by decide) (by decide), F63_s s0 (by omega) (by decide) (by decide), F63_s s0 (by omega) (by decide) (by decide), F63_s s0 (by omega) (by decide) (by decide), F63_s s0 (by omega) (by decide) (by decide), t1 6 (by decide) (by decide), t1 5 (by decide) (by decide), t1 1 (by decide) (by decide), t1 0 (by decide) (by decide), t1 4 (by decide) (by decide), t1 2 (by decide) (by decide), l2]
  generalize hc 386 0 q = w
  generalize hc 386 0 (q + 1) = x
  generalize hc 386 0 (q + 2) = y
  unfold zB
  simp only [Option.bind_some, F159_s]
  by_cases a : w = 13
  · rw [if_pos a, if_pos a, l1]
    by_cases b : m 14 (217 + 8 * s + 6) = 0
    · by_cases e : hc 72 0 s = 1000000
      · rw [if_neg (fun z => z b), show (if m 14 (217 + 8 * s + 6) = 0 ∧ hc 72 0 s = 1000000 then (1 : Int) else 0) = 1 from if_pos ⟨b, e⟩, if_pos e]
        rfl
      · rw [if_neg (fun z => z b), show (if m 14 (217 + 8 * s + 6) = 0 ∧ hc 72 0 s = 1000000 then (1 : Int) else 0) = 0 from if_neg (fun z => e z.2), if_neg e]
        rfl
    · rw [if_pos b, show (if m 14 (217 + 8 * s + 6) = 0 ∧ hc 72 0 s = 1000000 then (1 : Int) else 0) = 0 from if_neg (fun z => b z.1)]
      rfl
  · rw [if_neg a, if_neg a]
    by_cases a : w = 14
    · rw [if_pos a, if_pos a]
      obtain ⟨r, e1, e2, e3, e4, e5⟩ := F64_s (x := m 14 (217 + 8 * s + 5)) (by omega) o5.2
      rw [e1, e2, Option.bind_some]
      by_cases b : r ≤ 1
      · rw [if_pos b, if_neg]
        rw [decide_eq_true_eq]
        intro z
        refine z ?_
        by_cases y0 : r = 0
        · exact Or.inl (by rw [y0])
        · exact Or.inr (by rw [show r = 1 by omega])
      · rw [if_neg b, if_pos]
        rw [decide_eq_true_eq]
        intro z
        rcases z with z | z
        · exact b (by have := Option.some.inj z; omega)
        · exact b (by have := Option.some.inj z; omega)
    · rw [if_neg a, if_neg a]
      by_cases a : w = 15
      · rw [if_pos a, if_pos a]
        rcases F65_01 (x := m 14 (217 + 8 * s + 5)) (p := y) with u | u
        · rw [u]
          rfl
        · rw [u]
          rfl
      · rw [if_neg a, if_neg a]
        by_cases a : w = 16
        · rw [if_pos a, if_pos a]
          by_cases b : m 14 (217 + 8 * s + 1) = y
          · rw [if_neg (fun z => z b), if_pos (by rw [decide_eq_true_eq]; exact b)]
          · rw [if_pos b, if_neg (by rw [decide_eq_true_eq]; exact b)]
        · rw [if_neg a, if_neg a]
          have cc : ∀ b : Bool, zG ((if b = true then (1 : Int) else 0) = 0 ∨ (if b = true then (1 : Int) else 0) = 1) (some (if b = true then (1 : Int) else 0)) = some (if b = true then (1 : Int) else 0) := fun b => by cases b <;> rfl
          rw [cc, cc, cc, cc]
          by_cases a : w = 17
          · rw [if_pos a, if_pos a]
          · rw [if_neg a, if_neg a]
            by_cases a : w = 18
            · rw [if_pos a, if_pos a]
            · rw [if_neg a, if_neg a]
              by_cases a : w = 19
              · rw [if_pos a, if_pos a]
              · rw [if_neg a, if_neg a]
                by_cases a : w = 20
                · rw [if_pos a, if_pos a]
                · rw [if_neg a, if_neg a, zG_t (by omega), if_neg (by decide)]
