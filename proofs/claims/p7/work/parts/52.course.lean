/-! The course: what sounds, class and model side by side. -/
theorem F229_s {c : Int} {m : zHM} (h0 : 0 ≤ c) (h1 : c < 6) : F229 c m = some (m 14 (7 + 3 * c)) := by
  unfold F229
  rw [wmul_eq (by omega) (by omega), wadd_eq (by omega) (by omega), zG_t (by omega)]
theorem F232_s {c : Int} {m : zHM} (h0 : 0 ≤ c) (h1 : c < 6) : F232 c m = some (m 14 (7 + 3 * c + 1)) := by
  unfold F232
  rw [wmul_eq (by omega) (by omega), wadd_eq (x := 7) (by omega) (by omega), wadd_eq (by omega) (by omega), zG_t (by omega)]
theorem F207_s {c : Int} {m : zHM} (h0 : 0 ≤ c) (h1 : c < 6) : F207 c m = some (m 14 (7 + 3 * c + 2)) := by
  unfold F207
  rw [wmul_eq (by omega) (by omega), wadd_eq (x := 7) (by omega) (by omega), wadd_eq (by omega) (by omega), zG_t (by omega)]
theorem wor_rng {x y : Int} (h0 : 0 ≤ x) (h1 : x < 64) (h2 : 0 ≤ y) (h3 : y < 64) : 0 ≤ wor x y ∧ wor x y < 64 := by
  have e : ((Int32.ofInt x ||| Int32.ofInt y).toBitVec).toNat = (Int32.ofInt x).toBitVec.toNat ||| (Int32.ofInt y).toBitVec.toNat := rfl
  rw [i32_of h0 (by omega), i32_of h2 (by omega)] at e
  have e2 : x.toNat ||| y.toNat < 64 := Nat.or_lt_two_pow (n := 6) (show x.toNat < 64 by omega) (show y.toNat < 64 by omega)
  unfold wor
  rw [i32_nat e (by omega)]
  omega
theorem wor_shl {x p : Int} (h0 : 0 ≤ x) (h1 : x < 64) (h2 : 0 ≤ p) (h3 : p < 6) : 0 ≤ wor x (wshl 1 p) ∧ wor x (wshl 1 p) < 64 := by
  have k : (List.range 6).all (fun q => decide (0 ≤ wshl 1 (q : Int) ∧ wshl 1 (q : Int) < 64)) = true := by decide +kernel
  have e := of_decide_eq_true (z_all k (x := p) h2 (by omega))
  have e1 : ((p.toNat : Nat) : Int) = p := by omega
  rw [e1] at e
  exact wor_rng h0 h1 e.1 e.2
theorem L93 {h : zHC} {m : zHM} {v i c f : Int} (hn : h 579 v 0 = m 14 3) (hn0 : 0 ≤ m 14 3) (hn1 : m 14 3 ≤ 6) (c0 : 0 ≤ c) (c1 : c < 6) (hc : h 584 v c = m 14 (7 + 3 * c)) (hc0 : 0 ≤ m 14 (7 + 3 * c)) (hc1 : m 14 (7 + 3 * c) < 100) (hp : RP h i (m 14)) : ∀ (n k : Nat) (acc p : Int), 0 ≤ p → p ≤ m 14 3 → m 14 3 - p < n → m 14 3 - p < k → 0 ≤ acc → acc < 64 → ∃ r, F93_0 h n v c f i acc p = some r ∧ F240_0 m k c f acc p = some r ∧ 0 ≤ r ∧ r < 64 := by
  intro n
  induction n with
  | zero => intro k acc p p0 p1 g1 g2 a0 a1; omega
  | succ n ih =>
    intro k acc p p0 p1 g1 g2 a0 a1
    cases k with
    | zero => omega
    | succ k =>
      rw [F93_0, F240_0]
      by_cases e : p = m 14 3
      · rw [if_pos (by omega), if_pos (by omega)]
        exact ⟨acc, rfl, rfl, a0, a1⟩
      · obtain ⟨w1, w2, w3⟩ := hp p p0 (by omega)
        rw [if_neg (by omega), if_neg (by omega), if_neg (by omega), zG_t (by omega), zG_t (by omega), wadd_eq (x := 210) (by omega) (by omega), zG_t (by omega), F229_s c0 c1, hc, w1]
        rw [F83_s hc0 hc1 w2 w3]
        show ∃ r, (if f < zD _ _ then _ else _) = some r ∧ Option.bind (F230 _ _) _ = some r ∧ _
        rw [F230_s w2 w3 hc0 hc1]
        show ∃ r, (if f < zD _ _ then _ else _) = some r ∧ (if f < zD _ _ then _ else _) = some r ∧ _
        rw [zD_comm (a := m 14 (210 + p))]
        have e1 : wadd p 1 = p + 1 := wadd_eq (by omega) (by omega)
        have e2 := wor_shl a0 a1 p0 (by omega : p < 6)
        split
        · unfold F93_1 F240_1
          rw [e1]
          exact ih k acc (p + 1) (by omega) (by omega) (by omega) (by omega) a0 a1
        · unfold F93_1 F240_1
          rw [e1]
          exact ih k _ (p + 1) (by omega) (by omega) (by omega) (by omega) e2.1 e2.2
theorem S_set {h : zHC} {m : zHM} {i k s H C c d f : Int} (k0 : 0 ≤ k) (k1 : k < 30) (s0 : 0 ≤ s) (s1 : s < 30) (c0 : 0 ≤ c) (c1 : c < 6) (d0 : 1 ≤ d) (d1 : d ≤ 40) (H0 : 0 ≤ H) (f0 : 1 ≤ f) (f1 : f ≤ 9) (hD : CD h i k (m 14) s) (hS : SD (m 14) s H C) (hf : m 14 (457 + 18 * s + 3 * c + 2) = 0) (hcN : c < m 14 2) : ∃ h' m', F85_2 i f (k * 6 + c) (H + d) h = some h' ∧ F233_2 (H + d) f (457 + 18 * s + 3 * c) 1 m = some m' ∧ CD h' i k (m' 14) s ∧ SD (m' 14) s H C ∧ (∀ r n j, ¬ (n = i ∧ (r = 68 ∨ r = 69) ∧ j = k * 6 + c) → h' r n j = h r n j) ∧ (∀ r j, ¬ (r = 14 ∧ (j = 457 + 18 * s + 3 * c ∨ j = 457 + 18 * s + 3 * c + 1)) → m' r j = m r j) := by
  refine ⟨hset (hset h 68 i (k * 6 + c) (H + d)) 69 i (k * 6 + c) f, mset (mset m 14 (457 + 18 * s + 3 * c) (H + d)) 14 (457 + 18 * s + 3 * c + 1) f, ?_, ?_, ?_, ?_, ?_, ?_⟩
  · unfold F85_2
    rw [zG_t (by omega), zG_t (by omega)]
  · unfold F233_2
    rw [if_pos (by decide), wadd_eq (by omega) (by omega), zG_t (by omega), zG_t (by omega)]
  · intro c' g0 g1
    by_cases e : c' = c
    · subst e
      rw [mset_ne (i' := 457 + 18 * s + 3 * c') (by omega), mset_eq, mset_eq, hset_ne (by omega), hset_eq, hset_eq]
      exact ⟨by rw [if_neg (by omega)], fun _ => rfl⟩
    · rw [mset_ne (by omega), mset_ne (by omega), mset_ne (by omega), mset_ne (by omega), hset_ne (by omega), hset_ne (by omega), hset_ne (by omega), hset_ne (by omega)]
      exact hD c' g0 g1
  · intro c' g0 g1
    obtain ⟨w1, w2, w3, w4, w5⟩ := hS c' g0 g1
    rw [mset_ne (i' := 2) (by omega), mset_ne (i' := 2) (by omega)]
    by_cases e : c' = c
    · subst e
      rw [mset_ne (i' := 457 + 18 * s + 3 * c') (by omega), mset_eq, mset_eq, mset_ne (by omega), mset_ne (by omega)]
      refine ⟨by omega, by omega, fun _ => ⟨f0, f1⟩, ?_, fun q => by omega⟩
      rw [if_neg (by omega)]
      exact hf
    · rw [mset_ne (by omega), mset_ne (by omega), mset_ne (by omega), mset_ne (by omega), mset_ne (by omega), mset_ne (by omega)]
      exact ⟨w1, w2, w3, w4, w5⟩
  · intro r n j hne
    rw [hset_ne (by omega), hset_ne (by omega)]
  · intro r j hne
    rw [mset_ne (by omega), mset_ne (by omega)]
theorem S_offer {h : zHC} {m : zHM} {i v k s H C c d f : Int} (k0 : 0 ≤ k) (k1 : k < 30) (s0 : 0 ≤ s) (s1 : s < 30) (c0 : 0 ≤ c) (c1 : c < 6) (hd : h 585 v c = d) (d0 : 1 ≤ d) (d1 : d ≤ 40) (hH : h 64 i 0 = H) (H0 : 0 ≤ H) (H1 : H ≤ 1000) (f0 : 1 ≤ f) (f1 : f ≤ 9) (hD : CD h i k (m 14) s) (hS : SD (m 14) s H C) (hcN : c < m 14 2) : ∃ h' m', F85 i v k c f h = some h' ∧ F233 s c (H + d) f m = some m' ∧ CD h' i k (m' 14) s ∧ SD (m' 14) s H C ∧ (∀ r n j, ¬ (n = i ∧ (r = 68 ∨ r = 69) ∧ j = k * 6 + c) → h' r n j = h r n j) ∧ (∀ r j, ¬ (r = 14 ∧ (j = 457 + 18 * s + 3 * c ∨ j = 457 + 18 * s + 3 * c + 1)) → m' r j = m r j) := by
  have hset' := S_set k0 k1 s0 s1 c0 c1 d0 d1 H0 f0 f1 hD hS
  obtain ⟨w1, w2, w3, w4, w5⟩ := hS c c0 c1
  obtain ⟨e1, e2⟩ := hD c c0 c1
  have stay : ∃ h' m', some h = some h' ∧ some m = some m' ∧ CD h' i k (m' 14) s ∧ SD (m' 14) s H C ∧ (∀ r n j, ¬ (n = i ∧ (r = 68 ∨ r = 69) ∧ j = k * 6 + c) → h' r n j = h r n j) ∧ (∀ r j, ¬ (r = 14 ∧ (j = 457 + 18 * s + 3 * c ∨ j = 457 + 18 * s + 3 * c + 1)) → m' r j = m r j) := ⟨h, m, rfl, rfl, hD, hS, fun _ _ _ _ => rfl, fun _ _ _ => rfl⟩
  unfold F85 F233
  rw [hd, hH, wmul_eq (x := k) (by omega) (by omega), wadd_eq (x := k * 6) (by omega) (by omega), wadd_eq (x := H) (by omega) (by omega), wmul_eq (x := 18) (by omega) (by omega), wmul_eq (x := 3) (by omega) (by omega), wadd_eq (x := 457) (by omega) (by omega), wadd_eq (x := 457 + 18 * s) (by omega) (by omega), wadd_eq (y := 2) (by omega) (by omega), wadd_eq (y := 1) (by omega) (by omega)]
  simp (disch := omega) only [zG_t]
  by_cases q1 : m 14 (457 + 18 * s + 3 * c) = 0
  · rw [if_pos q1] at e1
    rw [if_neg (by omega)] at w4
    rw [if_pos e1, if_pos q1]
    unfold F85_0 F85_1 F233_0
    simp (disch := omega) only [zG_t]
    rw [if_neg (by omega), if_pos trivial, if_pos e1]
    exact hset' w4 hcN
  · rw [if_neg q1] at e1
    obtain ⟨u1, u2⟩ := w3 q1
    have e2 := e2 q1
    rw [if_neg (by omega), if_neg q1, e1]
    by_cases q2 : m 14 (457 + 18 * s + 3 * c) ≤ H
    · rw [if_neg (by omega)]
      unfold F85_1
      simp (disch := omega) only [zG_t]
      rw [if_neg (by omega), if_neg (by decide)]
      by_cases q3 : m 14 (457 + 18 * s + 3 * c + 2) = 0
      · rw [if_neg (by omega), if_neg (by omega), if_pos (by omega)]
        unfold F233_1 F233_2
        rw [if_neg (by omega)]
        exact stay
      · rw [if_pos q3]
        unfold F233_1 F233_2
        rw [if_neg (by omega)]
        exact stay
    · rw [if_neg (by omega)] at w4
      rw [if_pos (by omega), if_neg (by omega)]
      unfold F85_0 F85_1
      simp (disch := omega) only [zG_t]
      rw [if_neg (by omega), if_pos trivial, e1, if_neg (by omega)]
      by_cases q3 : H + d < m 14 (457 + 18 * s + 3 * c)
      · rw [if_pos q3, if_pos q3]
        exact hset' w4 hcN
      · rw [if_neg q3, if_neg q3]
        by_cases q4 : H + d = m 14 (457 + 18 * s + 3 * c)
        · have nq : ¬ ¬ H + d = m 14 (457 + 18 * s + 3 * c) := fun w => w q4
          rw [if_neg nq, if_neg nq, e2]
          by_cases q5 : f ≤ m 14 (457 + 18 * s + 3 * c + 1)
          · rw [if_pos q5, if_pos q5]
            unfold F233_1 F233_2
            rw [if_neg (by omega)]
            exact stay
          · rw [if_neg q5, if_neg q5]
            exact hset' w4 hcN
        · rw [if_pos q4, if_pos q4]
          unfold F233_1 F233_2
          rw [if_neg (by omega)]
          exact stay
theorem F85_0s {h : zHC} {i v k c f : Int} (k0 : 0 ≤ k) (k1 : k < 30) (c0 : 0 ≤ c) (c1 : c < 6) (f0 : f < 1) : F85 i v k c f h = some h := by
  unfold F85 F85_0 F85_1
  rw [wmul_eq (x := k) (by omega) (by omega), wadd_eq (x := k * 6) (by omega) (by omega)]
  simp (disch := omega) only [zG_t, if_pos f0]
  split
  · rfl
  · split <;> rfl
/-- all offers of what sounds at c with force f -/
theorem S_offers {h : zHC} {m : zHM} {i v k s H C c f : Int} (k0 : 0 ≤ k) (k1 : k < 30) (s0 : 0 ≤ s) (s1 : s < 30) (c0 : 0 ≤ c) (hc : c < m 14 2) (f0 : 1 ≤ f) (f1 : f ≤ 9) (H0 : 0 ≤ H) (H1 : H ≤ 1000) (hN : h 578 v 0 = m 14 2) (hN0 : m 14 2 ≤ 6) (hVC : VC h v (m 14)) (hWC : WC (m 14)) (hH : h 64 i 0 = H) (hHm : m 14 209 = H) (hD : CD h i k (m 14) s) (hS : SD (m 14) s H C) : ∀ (n n' : Nat) (o : Int) (h1 : zHC) (m1 : zHM), 0 ≤ o → o ≤ m 14 2 → m 14 2 - o < n → m 14 2 - o < n' → CD h1 i k (m1 14) s → SD (m1 14) s H C → (∀ r n j, ¬ (n = i ∧ (r = 68 ∨ r = 69) ∧ k * 6 ≤ j ∧ j < k * 6 + 6) → h1 r n j = h r n j) → (∀ r j, ¬ (r = 14 ∧ 457 + 18 * s ≤ j ∧ j < 475 + 18 * s ∧ ¬ (j = 457 + 18 * s + 3 * 0 + 2 ∨ j = 457 + 18 * s + 3 * 1 + 2 ∨ j = 457 + 18 * s + 3 * 2 + 2 ∨ j = 457 + 18 * s + 3 * 3 + 2 ∨ j = 457 + 18 * s + 3 * 4 + 2 ∨ j = 457 + 18 * s + 3 * 5 + 2)) → m1 r j = m r j) → ∃ h2 m2, F92_1 n i v k c f o h1 = some h2 ∧ F239_1 n' s c f o m1 = some m2 ∧ CD h2 i k (m2 14) s ∧ SD (m2 14) s H C ∧ (∀ r n j, ¬ (n = i ∧ (r = 68 ∨ r = 69) ∧ k * 6 ≤ j ∧ j < k * 6 + 6) → h2 r n j = h r n j) ∧ (∀ r j, ¬ (r = 14 ∧ 457 + 18 * s ≤ j ∧ j < 475 + 18 * s ∧ ¬ (j = 457 + 18 * s + 3 * 0 + 2 ∨ j = 457 + 18 * s + 3 * 1 + 2 ∨ j = 457 + 18 * s + 3 * 2 + 2 ∨ j = 457 + 18 * s + 3 * 3 + 2 ∨ j = 457 + 18 * s + 3 * 4 + 2 ∨ j = 457 + 18 * s + 3 * 5 + 2)) → m2 r j = m r j) := by
  intro n
  induction n with
  | zero => intro n' o h1 m1 o0 o1 g1 g2 hD1 hS1 F1 F2; omega
  | succ n ih =>
    intro n' o h1 m1 o0 o1 g1 g2 hD1 hS1 F1 F2
    cases n' with
    | zero => omega
    | succ n' =>
      have m2e : m1 14 2 = m 14 2 := F2 14 2 (by omega)
      have h2e : h1 578 v 0 = m 14 2 := by rw [F1 578 v 0 (by omega), hN]
      rw [F92_1, F239_1, h2e, m2e]
      by_cases e : o = m 14 2
      · rw [if_pos (by omega), if_pos (by omega)]
        exact ⟨h1, m1, rfl, rfl, hD1, hS1, F1, F2⟩
      · have e1 : wadd o 1 = o + 1 := wadd_eq (by omega) (by omega)
        obtain ⟨a1, a2, a3, a4, a5, a6⟩ := hWC c c0 hc
        obtain ⟨b1, b2, b3, b4, b5, b6⟩ := hWC o o0 (by omega)
        have ca := (hVC c c0 hc).1
        have cb := (hVC o o0 (by omega)).1
        have cd := (hVC o o0 (by omega)).2.1
        have mc : m1 14 (7 + 3 * c) = m 14 (7 + 3 * c) := F2 14 _ (by omega)
        have mo : m1 14 (7 + 3 * o) = m 14 (7 + 3 * o) := F2 14 _ (by omega)
        have md : m1 14 (7 + 3 * o + 1) = m 14 (7 + 3 * o + 1) := F2 14 _ (by omega)
        have mh : m1 14 209 = H := by rw [F2 14 209 (by omega), hHm]
        have zr := zD_rng a1 a2 b1 b2
        have ho : ¬ m 14 2 ≤ o := by omega
        rw [if_neg ho, if_neg ho, F229_s c0 (by omega), F229_s o0 (by omega), mc, mo]
        show ∃ h2 m2, (if o = c then _ else _) = some h2 ∧ Option.bind (F230 _ _) _ = some m2 ∧ _
        rw [F230_s a1 a2 b1 b2]
        show ∃ h2 m2, (if o = c then _ else _) = some h2 ∧ (if o = c then _ else _) = some m2 ∧ _
        by_cases q1 : o = c
        · rw [if_pos q1, if_pos q1]
          unfold F92_2 F239_2
          rw [e1]
          exact ih n' (o + 1) h1 m1 (by omega) (by omega) (by omega) (by omega) hD1 hS1 F1 F2
        · rw [if_neg q1, if_neg q1]
          unfold F95
          rw [zG_t (by omega), zG_t (by omega), F1 584 v c (by omega), F1 584 v o (by omega), ca, cb, F83_s a1 a2 b1 b2]
          show ∃ h2 m2, Option.bind (if f < zD _ _ then _ else _) _ = some h2 ∧ _
          rw [wdiv_eq (by omega) (by omega) (by decide) (by decide), wsub_eq (x := f) (by omega) (by omega), wsub_eq (x := f - 1) (by omega) (by omega)]
          by_cases q2 : f < zD (m 14 (7 + 3 * c)) (m 14 (7 + 3 * o))
          · rw [if_pos q2, if_pos q2]
            show ∃ h2 m2, Option.bind (F85 i v k o 0 h1) _ = some h2 ∧ _
            rw [F85_0s k0 k1 o0 (by omega) (by decide)]
            unfold F92_2 F239_2
            rw [e1]
            exact ih n' (o + 1) h1 m1 (by omega) (by omega) (by omega) (by omega) hD1 hS1 F1 F2
          · rw [if_neg q2, if_neg q2]
            show ∃ h2 m2, Option.bind (F85 i v k o _ h1) _ = some h2 ∧ _
            by_cases q3 : f - 1 - zD (m 14 (7 + 3 * c)) (m 14 (7 + 3 * o)) / 2 ≤ 0
            · rw [if_pos q3, if_neg (by omega), F85_0s k0 k1 o0 (by omega) (by decide)]
              unfold F92_2 F239_2
              rw [e1]
              exact ih n' (o + 1) h1 m1 (by omega) (by omega) (by omega) (by omega) hD1 hS1 F1 F2
            · rw [if_neg q3, if_pos (by omega), F232_s o0 (by omega), md]
              show ∃ h2 m2, _ ∧ Option.bind (F233 s o (wadd (m1 14 209) (m 14 (7 + 3 * o + 1))) _ m1) _ = some m2 ∧ _
              rw [mh, wadd_eq (x := H) (by omega) (by omega)]
              obtain ⟨h3, m3, r1, r2, r3, r4, r5, r6⟩ := S_offer (v := v) (d := m 14 (7 + 3 * o + 1)) (f := f - 1 - zD (m 14 (7 + 3 * c)) (m 14 (7 + 3 * o)) / 2) k0 k1 s0 s1 o0 (by omega : o < 6) (by rw [F1 585 v o (by omega)]; exact cd) b3 b4 (by rw [F1 64 i 0 (by omega)]; exact hH) H0 H1 (by omega) (by omega) hD1 hS1 (by rw [m2e]; omega)
              rw [r1, r2]
              show ∃ h2 m2, F92_2 _ _ _ _ _ _ _ _ = some h2 ∧ F239_2 _ _ _ _ _ _ = some m2 ∧ _
              unfold F92_2 F239_2
              rw [e1]
              exact ih n' (o + 1) h3 m3 (by omega) (by omega) (by omega) (by omega) r3 r4 (fun r n j hne => by rw [r5 r n j (by omega), F1 r n j hne]) (fun r j hne => by rw [r6 r j (by omega), F2 r j hne])
