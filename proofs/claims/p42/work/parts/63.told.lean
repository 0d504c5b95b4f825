section
/-! when, meets, tells, secret. -/
theorem F67_s {h : zHC} {i k w : Int} (k0 : 0 ≤ k) (k1 : k < 180) (w0 : 0 ≤ w) (w1 : w < 5) : F67 i k w h = some (h 71 i (k * 5 + w)) := by
  unfold F67
  rw [wmul_eq (by omega) (by omega), wadd_eq (x := k * 5) (by omega) (by omega), zG_t (by omega)]
theorem F65_01 {x p : Int} : F65 x p = some 0 ∨ F65 x p = some 1 := by
  unfold F65
  split
  · exact Or.inl rfl
  · exact Or.inr rfl
theorem C_when {hc : zHC} {hm : zHM} {p s n : Int} (h : RG hc hm) : ∃ r hc' hm', F115 p s n hc = some (r, hc') ∧ F256 p s n hm = some (r, hm') ∧ RG hc' hm' := by
  have w6 := RG_WN h
  unfold WN at w6
  have h0 := RG_0 (x := 0) h
  have big := zFu_big
  have e65 : hc 65 0 0 = hm 14 216 := by have := h.2.1.2.1.2.1; omega
  unfold F115 F256
  rw [E61 (RG_VN h).2.2.2.1, E210 (m := mset hm 0 0 0) (b := hm 14 3) (m0_ne (by decide)), E58 e65, E217 (m := mset hm 0 0 0) (b := hm 14 216) (m0_ne (by decide)), E188]
  simp only [Option.bind_some]
  by_cases q1 : 0 ≤ p ∧ p < hm 14 3
  · by_cases q2 : 0 ≤ s ∧ s < hm 14 216
    · simp only [if_pos q1, if_pos q2, z10]
      by_cases q3 : 1 ≤ n ∧ n ≤ 100
      · rw [if_neg (show ¬ n < 1 by omega), if_pos (show n ≤ 100 by omega)]
        simp only [if_pos q3, zn10]
        obtain ⟨h1, m1, a1, a2, a3, a4, a5, a6⟩ := A_beg h0
        rw [a1, a2]
        simp only [Option.bind_some]
        obtain ⟨r, h2, m2, b1, b2, b3, b4, b5⟩ := P_hours' (n := n) (by omega) a3
        rw [b1, b2]
        simp only [Option.bind_some]
        have hN1 := CW_n a3.2.2.2.2
        have hN2 := CW_n b3.2.2.2.2
        have hL := b3.2.2.2.1 rfl
        have hLW := b3.2.2.2.2.2.2.2.2.1
        have e66 : h2 66 0 0 = m1 14 997 := by rw [cfC_1 b4 _ _ _ (by omega), a4 _ _ _ (by omega), a6]; exact h0.2.1.2.2.1.1
        obtain ⟨m3, d1, d2, d3⟩ := A_end (mA_N a5 (mfD_N b5))
        have key : ∀ (k k' : Nat) (j : Int), 0 ≤ j → j ≤ m2 14 997 → m2 14 997 - j < k → m2 14 997 - j < k' → 0 < k → 0 < k' → ∃ r, F115_0 k p s j h2 = some (r, h2) ∧ F256_0 k' p s (-1) j m2 = some (r, m3) := by
          intro k
          induction k with
          | zero => intro k' j j0 j1 g1 g2 g3 g4; omega
          | succ k ih =>
            intro k' j j0 j1 g1 g2 g3 g4
            cases k' with
            | zero => omega
            | succ k' =>
              rw [F115_0, F256_0, hL.1]
              unfold F256_1
              by_cases e : m2 14 997 ≤ j
              · rw [if_pos e, if_pos e, d1]
                exact ⟨-1, rfl, rfl⟩
              · have lw := hLW j j0 (by omega)
                have ej : wadd j 1 = j + 1 := wadd_eq (by omega) (by omega)
                have l0 := hL.2 j j0 (by omega) 0 (by decide) (by decide)
                have l2 := hL.2 j j0 (by omega) 2 (by decide) (by decide)
                have l4 := hL.2 j j0 (by omega) 4 (by decide) (by decide)
                rw [if_neg e, if_neg e, if_neg (show ¬ ¬ (-1 : Int) = -1 from fun w => w rfl), F67_s j0 (by omega) (by decide) (by decide), F67_s j0 (by omega) (by decide) (by decide), F67_s j0 (by omega) (by decide) (by decide), l0, l2, l4, wmul_eq (by omega) (by omega), wadd_eq (x := 998) (by omega) (by omega), wadd_eq (x := 998 + 5 * j) (by omega) (by omega), wadd_eq (x := 998 + 5 * j) (by omega) (by omega), Int.add_zero, F214_s]
                simp (disch := omega) only [zG_t, Option.bind_some]
                unfold F115_1 F256_2
                rw [ej]
                by_cases q : m2 14 (998 + 5 * j) = s
                · rw [if_neg (fun w => w q : ¬ ¬ m2 14 (998 + 5 * j) = s), if_neg (fun w => w q : ¬ ¬ m2 14 (998 + 5 * j) = s)]
                  rcases F65_01 (x := m2 14 (998 + 5 * j + 4)) (p := p) with u | u
                  · rw [u]
                    simp only [Option.bind_some, z00]
                    exact ih k' (j + 1) (by omega) (by omega) (by omega) (by omega) (by omega) (by omega)
                  · rw [u]
                    simp only [Option.bind_some, z10]
                    refine ⟨_, rfl, ?_⟩
                    cases k' with
                    | zero => omega
                    | succ k' =>
                      rw [F256_0]
                      unfold F256_1
                      by_cases e2 : m2 14 997 ≤ j + 1
                      · rw [if_pos e2, d1]
                        rfl
                      · rw [if_neg e2, if_pos (show ¬ m2 14 (998 + 5 * j + 2) = -1 by omega), d1]
                        rfl
                · rw [if_pos q, if_pos q]
                  exact ih k' (j + 1) (by omega) (by omega) (by omega) (by omega) (by omega) (by omega)
        obtain ⟨q, e1, e2⟩ := key zFu zFu (m1 14 997) hN1.1 b5.1 (by omega) (by omega) (by omega) (by omega)
        rw [e66, e1, e2]
        exact ⟨q, h2, m3, rfl, rfl, RG_sc h0 (scC_1 a4 (cfC_1 b4)) d2⟩
      · simp only [if_neg q3, zn00]
        refine ⟨-1, hc, _, ?_, rfl, h0⟩
        by_cases u : n < 1
        · rw [if_pos u]
        · rw [if_neg u, if_neg (by omega)]
    · simp only [if_pos q1, if_neg q2, z10, z00]
      exact ⟨_, _, _, rfl, rfl, h0⟩
  · simp only [if_neg q1, z00]
    exact ⟨_, _, _, rfl, rfl, h0⟩
theorem C_meets {hc : zHC} {hm : zHM} {p q n : Int} (h : RG hc hm) : ∃ r hc' hm', F116 p q n hc = some (r, hc') ∧ F257 p q n hm = some (r, hm') ∧ RG hc' hm' := by
  have w6 := RG_WN h
  unfold WN at w6
  have h0 := RG_0 (x := 0) h
  have big := zFu_big
  unfold F116 F257
  rw [E61 (v := p) (RG_VN h).2.2.2.1, E210 (v := p) (m := mset hm 0 0 0) (b := hm 14 3) (m0_ne (by decide)), E61 (v := q) (RG_VN h).2.2.2.1, E210 (v := q) (m := mset hm 0 0 0) (b := hm 14 3) (m0_ne (by decide)), E99, E242]
  simp only [Option.bind_some]
  by_cases q1 : 0 ≤ p ∧ p < hm 14 3
  · by_cases q2 : 0 ≤ q ∧ q < hm 14 3
    · by_cases q3 : 1 ≤ n ∧ n ≤ 60
      · simp only [if_pos q1, if_pos q2, if_pos q3, z10, zn10]
        obtain ⟨h1, m1, a1, a2, a3, a35, a4, a5, a6⟩ := A_beg0 h0
        rw [a1, a2]
        simp only [Option.bind_some]
        obtain ⟨j1, j2, -, -, j5⟩ := a3
        obtain ⟨hN, hC, hP, hM, hF, hS, hQ, hVW⟩ := j1
        have ev : ∀ k, 0 ≤ k → k < 209 → m1 14 k = hm 14 k := fun k _ _ => by rw [a6, m0_ne (by decide)]
        have key : ∀ (k k' : Nat) (met t : Int) (h2 : zHC) (m2 : zHM), (∀ r n j, ¬ ((r = 64 ∨ r = 67) ∧ n = 1) → h2 r n j = h1 r n j) → (∀ r j, ¬ (r = 14 ∧ 209 ≤ j ∧ j < 216) → m2 r j = m1 r j) → h2 64 1 0 = m2 14 209 → 0 ≤ m2 14 209 → m2 14 209 ≤ 400 → RP h2 1 (m2 14) → 0 ≤ t → 0 ≤ met → met ≤ t → n - t < k → n - t < k' → 0 < k → 0 < k' → ∃ r hc' m3, F116_0 k p q n met t h2 = some (r, hc') ∧ F257_0 k' p q n met t m2 = some (r, m3) ∧ (∀ r n j, ¬ ((r = 64 ∨ r = 67) ∧ n = 1) → hc' r n j = h1 r n j) ∧ scM (mset hm 0 0 0) m3 := by
          intro k
          induction k with
          | zero => intro k' met t h2 m2 i1 i2 i3 i3a i3b i4 t0 mt0 mt1 g1 g2 g3 g4; omega
          | succ k ih =>
            intro k' met t h2 m2 i1 i2 i3 i3a i3b i4 t0 mt0 mt1 g1 g2 g3 g4
            cases k' with
            | zero => omega
            | succ k' =>
              obtain ⟨m3, d1, d2, d3⟩ := A_end (mA_N a5 (m2 := m2) (fun r j hne => i2 r j (by omega)))
              rw [F116_0, F257_0, i3]
              unfold F257_1
              by_cases e : n ≤ t
              · rw [if_pos e, if_pos e, d1]
                exact ⟨met, h2, m3, rfl, rfl, i1, d2⟩
              · rw [if_neg e, if_neg e]
                by_cases e2 : 400 ≤ m2 14 209
                · rw [if_pos e2, if_pos e2, d1]
                  exact ⟨met, h2, m3, rfl, rfl, i1, d2⟩
                · rw [if_neg e2, if_neg e2]
                  have EH : wadd (m2 14 209) 1 = m2 14 209 + 1 := wadd_eq (by omega) (by omega)
                  unfold F89
                  rw [i3, EH]
                  have a0 : ∀ k, 0 ≤ k → k < 209 → mset m2 14 209 (m2 14 209 + 1) 14 k = m1 14 k := fun k g0 g1 => by rw [mset_ne (by omega), i2 _ _ (by omega)]
                  have hVM0 : VM (hset h2 64 1 0 (m2 14 209 + 1)) 0 ((mset m2 14 209 (m2 14 209 + 1)) 14) := by
                    intro c g0 g1
                    rw [a0 4 (by decide) (by decide)] at g1
                    have e4 := ev 4 (by decide) (by decide)
                    rw [a0 _ (by omega) (by omega), a0 _ (by omega) (by omega), a0 _ (by omega) (by omega), hset_ne (by omega), hset_ne (by omega), hset_ne (by omega), i1 _ _ _ (by omega), i1 _ _ _ (by omega), i1 _ _ _ (by omega)]
                    exact hM c g0 g1
                  have hRP0 : RP (hset h2 64 1 0 (m2 14 209 + 1)) 1 ((mset m2 14 209 (m2 14 209 + 1)) 14) := by
                    intro c g0 g1
                    rw [mset_ne (by omega)] at g1
                    have e4 := ev 3 (by decide) (by decide)
                    have e5 := i2 14 3 (by omega)
                    rw [hset_ne (by omega), mset_ne (by omega)]
                    exact i4 c g0 g1
                  obtain ⟨h3, m4, z1, z2, z3, z4, z5⟩ := L_moves (v := 0) (i := 1) (st := 0) (H := m2 14 209 + 1) (nM := hm 14 4) (nP := hm 14 3) (by omega) (by omega) zFu zFu 0 (hset h2 64 1 0 (m2 14 209 + 1)) (mset m2 14 209 (m2 14 209 + 1)) (by rw [hset_ne (by omega), i1 _ _ _ (by omega), hN.2.2.2.2.1]; exact ev 4 (by decide) (by decide)) (by rw [a0 4 (by decide) (by decide)]; exact ev 4 (by decide) (by decide)) (by rw [a0 3 (by decide) (by decide)]; exact ev 3 (by decide) (by decide)) hset_eq hVM0 (VW_cong a0 hVW).2.2.2.1 hRP0 (by decide) (by omega) (by omega) (by omega)
                  have e65 : h3 65 1 0 = 0 := by rw [z4 _ _ _ (by omega), hset_ne (by omega), i1 _ _ _ (by omega)]; exact a35
                  have eF : F89_1 zFu 1 0 0 0 h3 = some h3 := by
                    have : zFu = (zFu - 1) + 1 := by omega
                    rw [this, F89_1, if_pos (by omega)]
                  unfold F237
                  rw [z1, eF, z2]
                  simp only [Option.bind_some]
                  have g3e : m4 14 3 = hm 14 3 := by rw [z5 _ _ (by omega), a0 3 (by decide) (by decide)]; exact ev 3 (by decide) (by decide)
                  obtain ⟨u1, u2, u3⟩ := z3 p q1.1 (by omega)
                  obtain ⟨v1, v2, v3⟩ := z3 q q2.1 (by omega)
                  rw [zG_t (by omega), zG_t (by omega), wadd_eq (x := 210) (y := p) (by omega) (by omega), wadd_eq (x := 210) (y := q) (by omega) (by omega), zG_t (by omega), zG_t (by omega), u1, v1]
                  unfold F116_1 F257_2
                  have et : wadd t 1 = t + 1 := wadd_eq (by omega) (by omega)
                  have em : wadd met 1 = met + 1 := wadd_eq (by omega) (by omega)
                  rw [et, em]
                  have f1 : ∀ r n j, ¬ ((r = 64 ∨ r = 67) ∧ n = 1) → h3 r n j = h1 r n j := fun r n j hne => by rw [z4 r n j (by omega), hset_ne (by omega)]; exact i1 r n j hne
                  have f2 : ∀ r j, ¬ (r = 14 ∧ 209 ≤ j ∧ j < 216) → m4 r j = m1 r j := fun r j hne => by rw [z5 r j (by omega), mset_ne (by omega)]; exact i2 r j hne
                  have f209 : m4 14 209 = m2 14 209 + 1 := by rw [z5 _ _ (by omega), mset_eq]
                  have f64 : h3 64 1 0 = m4 14 209 := by rw [z4 _ _ _ (by omega), hset_eq, f209]
                  by_cases w : m4 14 (210 + p) = m4 14 (210 + q)
                  · rw [if_neg (fun x => x w : ¬ ¬ m4 14 (210 + p) = m4 14 (210 + q)), if_neg (fun x => x w : ¬ ¬ m4 14 (210 + p) = m4 14 (210 + q))]
                    exact ih k' (met + 1) (t + 1) h3 m4 f1 f2 f64 (by omega) (by omega) z3 (by omega) (by omega) (by omega) (by omega) (by omega) (by omega) (by omega)
                  · rw [if_pos w, if_pos w]
                    exact ih k' met (t + 1) h3 m4 f1 f2 f64 (by omega) (by omega) z3 (by omega) (by omega) (by omega) (by omega) (by omega) (by omega) (by omega)
        obtain ⟨r, hc', m3, b1, b2, b3, b4⟩ := key zFu zFu 0 0 h1 m1 (fun _ _ _ _ => rfl) (fun _ _ _ => rfl) j2.1 j5.1.1 j5.1.2 j2.2.2.2.2.2.1 (by decide) (by decide) (by decide) (by omega) (by omega) (by omega) (by omega)
        rw [b1, b2]
        exact ⟨r, hc', m3, rfl, rfl, RG_sc h0 (scC_1 a4 (fun r n j hne => b3 r n j (by omega))) b4⟩
      · simp only [if_pos q1, if_pos q2, if_neg q3, z10, zn00]
        exact ⟨_, _, _, rfl, rfl, h0⟩
    · simp only [if_pos q1, if_neg q2, z10, z00]
      exact ⟨_, _, _, rfl, rfl, h0⟩
  · simp only [if_neg q1, z00]
    exact ⟨_, _, _, rfl, rfl, h0⟩
/-- one saying aside -/
theorem P_one {hc : zHC} {hm : zHM} {p x l n w : Int} (h : RG hc hm) (p0 : 0 ≤ p) (p1 : p < hm 14 3) (x0 : 0 ≤ x) (x1 : x < 100) (l0 : 1 ≤ l) (l1 : l ≤ 9) (n1 : n ≤ 1000) (hf : hm 14 216 < 30) (w0 : 0 ≤ w) (w1 : w < 8) : ∃ h' m1 m2 m3 m4 k r, F111 p x l n hc = some h' ∧ F63 1 0 w h' = some r ∧ F244 hm = some m1 ∧ F227 p 1 l (mset m1 14 (210 + p) x) = some (hm 14 216, m2) ∧ F235 n m2 = some (k, m3) ∧ F213 (hm 14 216) w m3 = some r ∧ F245 m3 = some m4 ∧ scC hc h' ∧ scM hm m4 ∧ (m1 14 (210 + p) = hm 14 (210 + p)) := by
  have w6 := RG_WN h
  unfold WN at w6
  have c34 := h.2.1.2.2.2.2.1
  obtain ⟨h1, m1, a1, a2, a3, a35, a4, a5, a6⟩ := A_beg0 h
  have hI := CI_place (p := p) (x := x) a3 p0 (by omega) x0 x1
  have e216 : (mset m1 14 (210 + p) x) 14 216 = hm 14 216 := by rw [mset_ne (by omega), a6]
  obtain ⟨h2, m2, b1, b2, b3, b4, b5, b6, b7, b8⟩ := P_says (p := p) (w := 1) (l := l) hI (by omega) p0 (by rw [mset_ne (by omega), a6]; exact p1) (by decide) (by decide) l0 l1
  have e65 : (hset h1 67 1 p x) 65 1 0 = 0 := by rw [hset_ne (by omega)]; exact a35
  rw [e216] at b2 b5
  rw [e65] at b1 b4
  obtain ⟨r, h3, m3, c1, c2, c3, c4, c5⟩ := P_hours' n1 b3
  have t1 := (c3.2.1.2.2.2.2.2.2 0 (by decide) (by rw [c4.2.1]; omega)).1 w w0 w1
  obtain ⟨m4, d1, d2, d3⟩ := A_end (mA_N a5 (m2 := m3) (fun r j hne => by rw [mfD_N c5 r j hne, mfE_N b8 r j hne, mset_ne (by omega)]))
  refine ⟨h3, m1, m2, m3, m4, r, m3 14 (217 + 8 * hm 14 216 + w), ?_, ?_, a2, b2, c2, F213_s c34.1 hf w0 w1, d1, scC_1 a4 (fun r n j hne => by rw [cfC_1 c4 r n j hne, b7 r n j (by omega), hset_ne (by omega)]), d2, a6 _⟩
  · unfold F111
    rw [a1]
    simp only [Option.bind_some]
    rw [zG_t (by omega), b1]
    simp only [Option.bind_some]
    rw [c1]
    rfl
  · rw [F63_s (by decide) (by decide) w0 w1, t1, show hm 14 216 + 0 = hm 14 216 by omega]
theorem wdec {l : Int} (h0 : 0 ≤ l) (h1 : l ≤ 1000) : wadd l (-1) = l - 1 := by
  rw [wadd_eq (by omega) (by omega)]
  rfl
theorem C_secret {hc : zHC} {hm : zHM} {p n : Int} (h : RG hc hm) : ∃ r hc' hm', F112 p n hc = some (r, hc') ∧ F253 p n hm = some (r, hm') ∧ RG hc' hm' := by
  have w6 := RG_WN h
  unfold WN at w6
  have h0 := RG_0 (x := 0) h
  have big := zFu_big
  have e65 : hc 65 0 0 = hm 14 216 := by have := h.2.1.2.1.2.1; omega
  have c34 := h.2.1.2.2.2.2.1
  unfold F112 F253
  rw [E61 (RG_VN h).2.2.2.1, E210 (m := mset hm 0 0 0) (b := hm 14 3) (m0_ne (by decide)), E99, E242]
  simp only [Option.bind_some]
  by_cases q1 : 0 ≤ p ∧ p < hm 14 3
  · by_cases q3 : 1 ≤ n ∧ n ≤ 60
    · simp only [if_pos q1, if_pos q3, z10]
      unfold F75
      rw [e65]
      by_cases q4 : hm 14 216 < 30
      · rw [if_pos q4, if_pos (show ¬ hm 14 216 = 30 by omega)]
        simp only [Option.bind_some, z00]
        have key : ∀ (k k' : Nat) (l : Int) (h1 : zHC) (m1 : zHM), RG h1 m1 → (∀ j, m1 14 j = hm 14 j) → l ≤ 9 → 0 ≤ l → l < k → l < k' → ∃ r hc' hm', F112_0 k p n l h1 = some (r, hc') ∧ F253_0 k' p n l m1 = some (r, hm') ∧ RG hc' hm' := by
          intro k
          induction k with
          | zero => intro k' l h1 m1 g e l1 l0 g1 g2; omega
          | succ k ih =>
            intro k' l h1 m1 g e l1 l0 g1 g2
            cases k' with
            | zero => omega
            | succ k' =>
              rw [F112_0, F253_0]
              by_cases u : l ≤ 0
              · rw [if_pos u, if_pos u]
                exact ⟨_, _, _, rfl, rfl, g⟩
              · have l2 : 1 ≤ l := by omega
                obtain ⟨x0, x1, x2⟩ := g.2.1.2.1.2.2.2.2.2.1 p q1.1 (by rw [e]; exact q1.2)
                obtain ⟨h', m2, m3, m4, m5, t, r, b1, b2, b3, b4, b5, b6, b7, b8, b9, b10⟩ := P_one (p := p) (x := m1 14 (210 + p)) (l := l) (n := n) (w := 7) g q1.1 (by rw [e]; exact q1.2) x1 x2 l2 l1 (by omega) (by rw [e]; exact q4) (by decide) (by decide)
                have em : mset m2 14 (210 + p) (m1 14 (210 + p)) = m2 := by
                  funext r j
                  by_cases u : r = 14 ∧ j = 210 + p
                  · obtain ⟨u1, u2⟩ := u
                    subst u1 u2
                    rw [mset_eq, b10]
                  · exact mset_ne u
                rw [em] at b4
                rw [if_neg u, if_neg u, zG_t (by omega), x0, b1, b3]
                simp only [Option.bind_some]
                rw [b2, b4]
                simp only [Option.bind_some]
                rw [b5]
                simp only [Option.bind_some]
                rw [b6]
                simp only [Option.bind_some]
                unfold F253_1
                rw [b7, wdec l0 (Int.le_trans l1 (by decide))]
                simp only [Option.bind_some]
                have g' := RG_sc g b8 b9
                by_cases w : r = 0
                · rw [if_neg (fun x => x w : ¬ ¬ r = 0), if_neg (fun x => x w : ¬ ¬ r = 0), if_neg (show ¬ (1 : Int) = 0 by decide)]
                  exact ⟨_, _, _, rfl, rfl, g'⟩
                · rw [if_pos w, if_pos w, if_pos trivial]
                  exact ih k' (l - 1) h' m5 g' (fun j => by rw [b9 14 j (by omega)]; exact e j) (by omega) (by omega) (by omega) (by omega)
        exact key zFu zFu 9 hc _ h0 (fun j => m0_ne (by decide)) (by decide) (by decide) (by omega) (by omega)
      · rw [if_neg q4, if_neg (show ¬ ¬ hm 14 216 = 30 by omega)]
        simp only [Option.bind_some, z10]
        exact ⟨_, _, _, rfl, rfl, h0⟩
    · simp only [if_pos q1, if_neg q3, z10, z00]
      exact ⟨_, _, _, rfl, rfl, h0⟩
  · simp only [if_neg q1, z00]
    exact ⟨_, _, _, rfl, rfl, h0⟩
theorem C_tells {hc : zHC} {hm : zHM} {p q l n k : Int} (h : RG hc hm) : ∃ r hc' hm', F110 p q l n k hc = some (r, hc') ∧ F252 p q l n k hm = some (r, hm') ∧ RG hc' hm' := by
  have w6 := RG_WN h
  unfold WN at w6
  have h0 := RG_0 (x := 0) h
  have big := zFu_big
  have e65 : hc 65 0 0 = hm 14 216 := by have := h.2.1.2.1.2.1; omega
  have c34 := h.2.1.2.2.2.2.1
  unfold F110 F252
  rw [E61 (v := p) (RG_VN h).2.2.2.1, E210 (v := p) (m := mset hm 0 0 0) (b := hm 14 3) (m0_ne (by decide)), E61 (v := q) (RG_VN h).2.2.2.1, E210 (v := q) (m := mset hm 0 0 0) (b := hm 14 3) (m0_ne (by decide)), E99, E242, E74, E188]
  simp only [Option.bind_some]
  by_cases q1 : 0 ≤ p ∧ p < hm 14 3
  · by_cases q2 : 0 ≤ q ∧ q < hm 14 3
    · simp only [if_pos q1, if_pos q2, z10]
      by_cases pq : p = q
      · rw [if_pos pq, if_pos pq]
        exact ⟨_, _, _, rfl, rfl, h0⟩
      · rw [if_neg pq, if_neg pq]
        by_cases ql : 1 ≤ l ∧ l ≤ 9
        · by_cases q3 : 1 ≤ n ∧ n ≤ 60
          · simp only [if_pos ql, if_pos q3, z10]
            unfold F75
            rw [e65]
            by_cases q4 : hm 14 216 < 30
            · rw [if_pos q4, if_pos (show ¬ hm 14 216 = 30 by omega)]
              simp only [Option.bind_some, z00]
              have key : ∀ (f f' : Nat) (many x : Int) (h1 : zHC) (m1 : zHM), RG h1 m1 → (∀ j, m1 14 j = hm 14 j) → 0 ≤ x → x ≤ 100 → 0 ≤ many → many ≤ x → 100 - x < f → 100 - x < f' → ∃ r hc' hm', F110_0 f p q l n k many x h1 = some (r, hc') ∧ F252_0 f' p q l n k many x m1 = some (r, hm') ∧ RG hc' hm' ∧ (k < -1 → r = -1 ∧ RG h1 hm') := by
                intro f
                induction f with
                | zero => intro f' many x h1 m1 g e x0 x1 n0 n1 g1 g2; omega
                | succ f ih =>
                  intro f' many x h1 m1 g e x0 x1 n0 n1 g1 g2
                  cases f' with
                  | zero => omega
                  | succ f' =>
                    rw [F110_0, F252_0]
                    by_cases u : 100 ≤ x
                    · rw [if_pos u, if_pos u]
                      by_cases v : k = -1
                      · rw [if_neg (fun z => z v : ¬ ¬ k = -1), if_neg (fun z => z v : ¬ ¬ k = -1)]
                        exact ⟨_, _, _, rfl, rfl, g, fun z => by omega⟩
                      · rw [if_pos v, if_pos v]
                        exact ⟨_, _, _, rfl, rfl, g, fun z => ⟨rfl, g⟩⟩
                    · have ex : wadd x 1 = x + 1 := wadd_eq (by omega) (by omega)
                      have em : wadd many 1 = many + 1 := wadd_eq (by omega) (by omega)
                      rw [if_neg u, if_neg u, E69 (RG_VN g), E224 (m := m1) (a := m1 14) rfl rfl]
                      simp only [Option.bind_some]
                      unfold F110_1 F252_1 F252_2
                      rw [ex, em]
                      by_cases qc : zCell (m1 14) x
                      · simp only [if_pos qc, z10, zn10]
                        obtain ⟨h', m2, m3, m4, m5, t, r, b1, b2, b3, b4, b5, b6, b7, b8, b9, b10⟩ := P_one (p := p) (x := x) (l := l) (n := n) (w := 5) g q1.1 (by rw [e]; exact q1.2) x0 (by omega) ql.1 ql.2 (by omega) (by rw [e]; exact q4) (by decide) (by decide)
                        rw [b1, b3]
                        simp only [Option.bind_some]
                        rw [b2, wadd_eq (x := 210) (by omega) (by omega), zG_t (by omega), b4]
                        simp only [Option.bind_some]
                        rw [b5]
                        simp only [Option.bind_some]
                        rw [b6]
                        simp only [Option.bind_some]
                        rw [b7]
                        simp only [Option.bind_some]
                        have g' := RG_sc g b8 b9
                        have e' : ∀ j, m5 14 j = hm 14 j := fun j => by rw [b9 14 j (by omega)]; exact e j
                        have back : ∀ mm x', (k < -1 → x' = (-1 : Int) ∧ RG h' mm) → (k < -1 → x' = (-1 : Int) ∧ RG h1 mm) := fun mm x' hh z => ⟨(hh z).1, RG_sc (hh z).2 (fun r n j hne => (b8 r n j hne).symm) scM_refl⟩
                        by_cases w : r = wshl 1 q
                        · rw [if_neg (fun z => z w : ¬ ¬ r = wshl 1 q), if_neg (fun z => z w : ¬ ¬ r = wshl 1 q)]
                          by_cases w2 : many = k
                          · rw [if_neg (fun z => z w2 : ¬ ¬ many = k), if_neg (fun z => z w2 : ¬ ¬ many = k)]
                            exact ⟨_, _, _, rfl, rfl, g', fun z => by omega⟩
                          · rw [if_pos w2, if_pos w2]
                            obtain ⟨r', hh, mm, y1, y2, y3, y4⟩ := ih f' (many + 1) (x + 1) h' m5 g' e' (by omega) (by omega) (by omega) (by omega) (by omega) (by omega)
                            exact ⟨r', hh, mm, y1, y2, y3, back mm r' y4⟩
                        · rw [if_pos w, if_pos w, if_neg (fun z => z trivial)]
                          obtain ⟨r', hh, mm, y1, y2, y3, y4⟩ := ih f' many (x + 1) h' m5 g' e' (by omega) (by omega) (by omega) (by omega) (by omega) (by omega)
                          exact ⟨r', hh, mm, y1, y2, y3, back mm r' y4⟩
                      · simp only [if_neg qc, z00, zn00]
                        exact ih f' many (x + 1) h1 m1 g e (by omega) (by omega) (by omega) (by omega) (by omega) (by omega)
              obtain ⟨r, hh, mm, y1, y2, y3, y4⟩ := key zFu zFu 0 0 hc _ h0 (fun j => m0_ne (by decide)) (by decide) (by decide) (by decide) (by decide) (by omega) (by omega)
              by_cases qk : k < -1
              · rw [if_pos qk]
                exact ⟨-1, hc, mm, rfl, by rw [y2, (y4 qk).1], (y4 qk).2⟩
              · rw [if_neg qk]
                exact ⟨r, hh, mm, y1, y2, y3⟩
            · rw [if_neg q4, if_neg (show ¬ ¬ hm 14 216 = 30 by omega)]
              simp only [Option.bind_some, z10]
              refine ⟨-1, hc, _, ?_, rfl, h0⟩
              split <;> rfl
          · simp only [if_pos ql, if_neg q3, z10, z00]
            exact ⟨_, _, _, rfl, rfl, h0⟩
        · simp only [if_neg ql, z00]
          exact ⟨_, _, _, rfl, rfl, h0⟩
    · simp only [if_pos q1, if_neg q2, z10, z00]
      exact ⟨_, _, _, rfl, rfl, h0⟩
  · simp only [if_neg q1, z00]
    exact ⟨_, _, _, rfl, rfl, h0⟩
end
section
/-! Draws. -/
theorem L135 {h : zHC} {m : zHM} {n : Int} (e : h 130 0 0 = m 38 0) (n0 : 1 ≤ n) (n1 : n ≤ 1000) : ∃ v X, F135 n h = some (v, hset h 130 0 0 X) ∧ F272 n m = some (v, mset m 38 0 X) ∧ 0 ≤ v ∧ v < n := by
  unfold F135 F272
  rw [hset_eq, mset_eq, e]
  generalize wadd (wmul (m 38 0) 1103515245) 12345 = X
  obtain ⟨r0, r1⟩ := wushr8_rng (x := X)
  rw [if_pos n0, zG_t (by omega), zG_t (by omega), wrem_eq r0 (by omega) (by omega) (by omega)]
  exact ⟨_, X, rfl, rfl, Int.emod_nonneg _ (by omega), Int.emod_lt_of_pos _ (by omega)⟩
theorem CI_keep {h h' : zHC} {m m' : zHM} {i : Int} {nm : Int → Int} (hI : CI h m i 0 0 nm) (f1 : ∀ r n j, ((64 ≤ r ∧ r ≤ 72 ∧ n = i) ∨ (576 ≤ r ∧ r ≤ 595 ∧ n = 0)) → h' r n j = h r n j) (f2 : ∀ j, m' 14 j = m 14 j) : CI h' m' i 0 0 nm :=
  CR_CI (VR_keep (fun r j g0 g1 => f1 r 0 j (by omega)) (fun k _ _ => f2 k) (fun _ _ _ => rfl) hI.1) (CR_keep (fun r j g0 g1 => f1 r i j (by omega)) (fun j _ _ => f2 j) (f2 2) (f2 3) (VR_n hI.1) (CI_CR hI))
def DI (h : zHC) (m : zHM) (i : Int) (nm : Int → Int) : Prop := CI h m i 0 0 nm ∧ h 130 0 0 = m 38 0 ∧ h 128 0 0 = m 39 0 ∧ h 129 0 0 = m 40 0
def dfC (i : Int) (h h' : zHC) : Prop := ∀ r n j, ¬ ((n = i ∧ 64 ≤ r ∧ r ≤ 72) ∨ (128 ≤ r ∧ r ≤ 130)) → h' r n j = h r n j
def dfM (m m' : zHM) : Prop := ∀ r j, ¬ ((r = 14 ∧ 209 ≤ j ∧ j < 1898) ∨ (38 ≤ r ∧ r ≤ 40)) → m' r j = m r j
theorem dfC_trans {i : Int} {h h' h'' : zHC} (a : dfC i h h') (b : dfC i h' h'') : dfC i h h'' := fun r n j hne => by rw [b r n j hne, a r n j hne]
theorem dfM_trans {m m' m'' : zHM} (a : dfM m m') (b : dfM m' m'') : dfM m m'' := fun r j hne => by rw [b r j hne, a r j hne]
theorem D_draw {h : zHC} {m : zHM} {i n : Int} {nm : Int → Int} (hD : DI h m i nm) (n0 : 1 ≤ n) (n1 : n ≤ 1000) : ∃ v h' m', F135 n h = some (v, h') ∧ F272 n m = some (v, m') ∧ 0 ≤ v ∧ v < n ∧ DI h' m' i nm ∧ dfC i h h' ∧ dfM m m' ∧ (∀ j, m' 14 j = m 14 j) ∧ (∀ r n j, ¬ r = 130 → h' r n j = h r n j) := by
  obtain ⟨d1, d2, d3, d4⟩ := hD
  obtain ⟨v, X, e1, e2, e3, e4⟩ := L135 d2 n0 n1
  refine ⟨v, _, _, e1, e2, e3, e4, ⟨CI_keep d1 (fun r n j g => hset_ne (by omega)) (fun j => mset_ne (by omega)), by rw [hset_eq, mset_eq], by rw [hset_ne (by omega), mset_ne (by omega)]; exact d3, by rw [hset_ne (by omega), mset_ne (by omega)]; exact d4⟩, fun r n j hne => hset_ne (by omega), fun r j hne => mset_ne (by omega), fun j => mset_ne (by omega), fun r n j hne => hset_ne (by omega)⟩
theorem D_pass {h : zHC} {m : zHM} {i st : Int} {nm : Int → Int} (hD : DI h m i nm) (hl : m 14 209 < 400) (st0 : 0 ≤ st) (st1 : st ≤ 9) : ∃ h' m', F89 i 0 st h = some h' ∧ F236 st m = some m' ∧ DI h' m' i nm ∧ dfC i h h' ∧ dfM m m' := by
  obtain ⟨⟨i1, i2, i3, i4, i5⟩, d2, d3, d4⟩ := hD
  obtain ⟨h', m', b1, b2, b3, b4, b5, b6, b7, b8, b9, b10⟩ := P_pass (st := st) i1 i2 i3 i4 i5 hl st0 st1
  refine ⟨h', m', b1, b2, ⟨⟨b3, b4, b5, b6, b7⟩, by rw [b9.2.2 _ _ _ (by omega), b10.2.2.2 _ _ (by omega)]; exact d2, by rw [b9.2.2 _ _ _ (by omega), b10.2.2.2 _ _ (by omega)]; exact d3, by rw [b9.2.2 _ _ _ (by omega), b10.2.2.2 _ _ (by omega)]; exact d4⟩, fun r n j hne => b9.2.2 r n j (by omega), fun r j hne => b10.2.2.2 r j (by omega)⟩
theorem D_t1 {h h1 h2 : zHC} {i N p st v : Int} {k0 : Int → Int → Int → Int → zHC → Option (Int × zHC)} (a1 : F89 i 0 st h = some h1) (b1 : F135 3 h1 = some (v, h2)) (q : ¬ v = 0) : F134_1 k0 0 i N p st h = F134_2 k0 0 i N p h2 := by
  unfold F134_1
  rw [a1, Option.bind_some, b1, Option.bind_some]
  exact if_pos q
theorem D_t2 {h h1 h2 h3 : zHC} {i N p st v : Int} {k0 : Int → Int → Int → Int → zHC → Option (Int × zHC)} (a1 : F89 i 0 st h = some h1) (b1 : F135 3 h1 = some (v, h2)) (q : v = 0) (c1 : F136 0 i h2 = some h3) : F134_1 k0 0 i N p st h = F134_2 k0 0 i N p h3 := by
  unfold F134_1
  rw [a1, Option.bind_some, b1, Option.bind_some]
  refine (if_neg (fun x => x q)).trans ?_
  rw [c1, Option.bind_some]
theorem D_t3 {m m1 m2 : zHM} {N p st v : Int} {k0 : Int → Int → zHM → Option (Int × zHM)} (a1 : F236 st m = some m1) (b1 : F272 3 m1 = some (v, m2)) (q : ¬ v = 0) : F271_1 k0 N p st m = F271_2 k0 N p m2 := by
  unfold F271_1
  rw [a1, Option.bind_some, b1, Option.bind_some]
  exact if_neg q
theorem D_t4 {m m1 m2 m3 m4 m5 : zHM} {N p st v v3 v4 v5 x3 : Int} {k0 : Int → Int → zHM → Option (Int × zHM)} (a1 : F236 st m = some m1) (b1 : F272 3 m1 = some (v, m2)) (q : v = 0) (x : m2 14 3 = x3) (c1 : F272 x3 m2 = some (v3, m3)) (d1 : F272 99 m3 = some (v4, m4)) (e1 : F272 9 m4 = some (v5, m5)) : F271_1 k0 N p st m = if ¬ m5 14 216 = 30 then (F227 v3 (wadd v4 1) (wadd v5 1) m5).bind fun r6 => F271_2 k0 N p (mset r6.2 40 0 (wadd (r6.2 40 0) 1)) else F271_2 k0 N p m5 := by
  unfold F271_1
  subst x
  rw [a1, Option.bind_some, b1, Option.bind_some]
  refine (if_pos q).trans ?_
  rw [c1, Option.bind_some, d1, Option.bind_some, e1, Option.bind_some]
theorem D_t5 {h2 h3 h4 h5 : zHC} {i v3 v4 v5 x3 : Int} (x : h2 579 0 0 = x3) (c1 : F135 x3 h2 = some (v3, h3)) (d1 : F135 99 h3 = some (v4, h4)) (e1 : F135 9 h4 = some (v5, h5)) (hv : ¬ h5 579 0 0 ≤ v3) : F136 0 i h2 = (F75 i h5).bind fun r4 => if ¬ r4 = 0 then some h5 else (F76 i 0 v3 (wadd v4 1) (wadd v5 1) h5).bind fun r5 => some (hset r5.2 129 0 0 (wadd (r5.2 129 0 0) 1)) := by
  unfold F136
  subst x
  rw [c1, Option.bind_some, d1, Option.bind_some, e1, Option.bind_some]
  exact if_neg hv
/-- the end of an hour that is drawn -/
theorem D_tail {h : zHC} {m : zHM} {i N p st : Int} {nm : Int → Int} (hD : DI h m i nm) (hl : m 14 209 < 400) (hP : 1 ≤ m 14 3) (st0 : 0 ≤ st) (st1 : st ≤ 9) : ∃ h' m', DI h' m' i nm ∧ dfC i h h' ∧ dfM m m' ∧ (∀ k0, F134_1 k0 0 i N p st h = F134_2 k0 0 i N p h') ∧ (∀ k0, F271_1 k0 N p st m = F271_2 k0 N p m') := by
  obtain ⟨h1, m1, a1, a2, a3, a4, a5⟩ := D_pass hD hl st0 st1
  obtain ⟨v2, h2, m2, b1, b2, b3, b4, b5, b6, b7, b8, b9⟩ := D_draw (n := 3) a3 (by decide) (by decide)
  by_cases q : v2 = 0
  · have e3 : m2 14 3 = m 14 3 := by rw [b8, a5 _ _ (by omega)]
    have w6 := b5.1.1.2.2.2.2.2.2.2.1
    unfold WN at w6
    have eN : h2 579 0 0 = m2 14 3 := b5.1.1.1.2.2.2.1
    obtain ⟨v3, h3, m3, c1, c2, c3, c4, c5, c6, c7, c8, c9⟩ := D_draw (n := m2 14 3) b5 (by omega) (by omega)
    obtain ⟨v4, h4, m4, d1, d2, d3, d4, d5, d6, d7, d8, d9⟩ := D_draw (n := 99) c5 (by decide) (by decide)
    obtain ⟨v5, h5, m5, e1, e2, e3', e4, e5, e6, e7, e8, e9⟩ := D_draw (n := 9) d5 (by decide) (by decide)
    have f3 : m5 14 3 = m2 14 3 := by rw [e8, d8, c8]
    have f579 : h5 579 0 0 = m5 14 3 := e5.1.1.1.2.2.2.1
    have f65 : h5 65 i 0 = m5 14 216 := by have := e5.1.2.1.2.1; omega
    have c34 := e5.1.2.2.2.2.2.1
    have w4 : wadd v4 1 = v4 + 1 := wadd_eq (by omega) (by omega)
    have w5 : wadd v5 1 = v5 + 1 := wadd_eq (by omega) (by omega)
    have t4 := fun k0 => D_t4 (N := N) (p := p) (k0 := k0) a2 b2 q rfl c2 d2 e2
    have t5 := D_t5 (i := i) eN c1 d1 e1 (by omega)
    rw [w4, w5] at t5
    have F1 : dfC i h h5 := dfC_trans a4 (dfC_trans b6 (dfC_trans c6 (dfC_trans d6 e6)))
    have F2 : dfM m m5 := dfM_trans a5 (dfM_trans b7 (dfM_trans c7 (dfM_trans d7 e7)))
    unfold F75 at t5
    rw [f65] at t5
    by_cases w : m5 14 216 < 30
    · obtain ⟨h6, m6, g1, g2, g3, g4, g5, g6, g7, g8⟩ := P_says (p := v3) (w := v4 + 1) (l := v5 + 1) e5.1 w c3 (by omega) (by omega) (by omega) (by omega) (by omega)
      have t6 : F136 0 i h2 = some (hset h6 129 0 0 (wadd (h6 129 0 0) 1)) := by
        rw [t5, if_pos w, Option.bind_some, zn00, g1, Option.bind_some]
      refine ⟨hset h6 129 0 0 (wadd (h6 129 0 0) 1), mset m6 40 0 (wadd (m6 40 0) 1), ⟨CI_keep g3 (fun r n j g => hset_ne (by omega)) (fun j => mset_ne (by omega)), ?_, ?_, ?_⟩, ?_, ?_, fun k0 => D_t2 a1 b1 q t6, fun k0 => ?_⟩
      · rw [hset_ne (by omega), mset_ne (by omega), g7 _ _ _ (by omega), g8 _ _ (by omega)]
        exact e5.2.1
      · rw [hset_ne (by omega), mset_ne (by omega), g7 _ _ _ (by omega), g8 _ _ (by omega)]
        exact e5.2.2.1
      · rw [hset_eq, mset_eq, g7 _ _ _ (by omega), g8 _ _ (by omega), e5.2.2.2]
      · intro r n j hne
        rw [hset_ne (by omega), g7 r n j (by omega), F1 r n j hne]
      · intro r j hne
        rw [mset_ne (by omega), g8 r j (by omega), F2 r j hne]
      · rw [t4 k0, if_pos (show ¬ m5 14 216 = 30 by omega), w4, w5, g2, Option.bind_some]
    · have t6 : F136 0 i h2 = some h5 := by
        rw [t5, if_neg w, Option.bind_some, zn10]
      refine ⟨h5, m5, e5, F1, F2, fun k0 => D_t2 a1 b1 q t6, fun k0 => ?_⟩
      rw [t4 k0, if_neg (show ¬ ¬ m5 14 216 = 30 by omega)]
  · exact ⟨h2, m2, b5, dfC_trans a4 b6, dfM_trans a5 b7, fun k0 => D_t1 a1 b1 q, fun k0 => D_t3 a2 b2 q⟩
theorem D_loop {i N : Int} {nm : Int → Int} (N1 : N ≤ 1000) : ∀ (k k' : Nat) (p : Int) (h : zHC) (m : zHM), DI h m i nm → 1 ≤ m 14 3 → 0 ≤ p → N - p < k → N - p < k' → 0 < k → 0 < k' → ∃ r h' m', F134_0 k 0 i N p h = some (r, h') ∧ F271_0 k' N p m = some (r, m') ∧ DI h' m' i nm ∧ dfC i h h' ∧ dfM m m' := by
  intro k
  induction k with
  | zero => intro k' p h m hD hP p0 g1 g2 g3 g4; omega
  | succ k ih =>
    intro k' p h m hD hP p0 g1 g2 g3 g4
    cases k' with
    | zero => omega
    | succ k' =>
      have e64 : h 64 i 0 = m 14 209 := hD.1.2.1.1
      have ep : wadd p 1 = p + 1 ∨ N ≤ p := by
        by_cases u : N ≤ p
        · exact Or.inr u
        · exact Or.inl (wadd_eq (by omega) (by omega))
      rw [F134_0, F271_0, e64]
      by_cases e : N ≤ p
      · rw [if_pos e, if_pos e]
        exact ⟨p, h, m, rfl, rfl, hD, fun _ _ _ _ => rfl, fun _ _ _ => rfl⟩
      · have ep : wadd p 1 = p + 1 := wadd_eq (by omega) (by omega)
        rw [if_neg e, if_neg e]
        by_cases e2 : 400 ≤ m 14 209
        · rw [if_pos e2, if_pos e2]
          exact ⟨p, h, m, rfl, rfl, hD, fun _ _ _ _ => rfl, fun _ _ _ => rfl⟩
        · rw [if_neg e2, if_neg e2]
          obtain ⟨v, h1, m1, a1, a2, a3, a4, a5, a6, a7, a8, a9⟩ := D_draw (n := 4) hD (by decide) (by decide)
          rw [a1, a2]
          simp only [Option.bind_some]
          by_cases q : v = 0
          · rw [if_neg (fun x => x q : ¬ ¬ v = 0), if_neg (fun x => x q : ¬ ¬ v = 0)]
            obtain ⟨s, h2, m2, b1, b2, b3, b4, b5, b6, b7, b8, b9⟩ := D_draw (n := 5) a5 (by decide) (by decide)
            rw [b1, b2]
            simp only [Option.bind_some]
            have hD3 : DI (hset h2 128 0 0 (wadd (h2 128 0 0) 1)) (mset m2 39 0 (wadd (m2 39 0) 1)) i nm := ⟨CI_keep b5.1 (fun r n j g => hset_ne (by omega)) (fun j => mset_ne (by omega)), by rw [hset_ne (by omega), mset_ne (by omega)]; exact b5.2.1, by rw [hset_eq, mset_eq, b5.2.2.1], by rw [hset_ne (by omega), mset_ne (by omega)]; exact b5.2.2.2⟩
            obtain ⟨h4, m4, c1, c2, c3, c4, c5⟩ := D_tail (N := N) (p := p) (st := s) hD3 (by rw [mset_ne (by omega), b8, a8]; omega) (by rw [mset_ne (by omega), b8, a8]; exact hP) b3 (by omega)
            rw [c4, c5]
            unfold F134_2 F271_2
            rw [ep]
            have e3 : m4 14 3 = m 14 3 := by rw [c3 _ _ (by omega), mset_ne (by omega), b8, a8]
            obtain ⟨r, h5, m5, d1, d2, d3, d4, d5⟩ := ih k' (p + 1) h4 m4 c1 (by omega) (by omega) (by omega) (by omega) (by omega) (by omega)
            exact ⟨r, h5, m5, d1, d2, d3, fun r n j hne => by rw [d4 r n j hne, c2 r n j hne, hset_ne (by omega), b6 r n j hne, a6 r n j hne], fun r j hne => by rw [d5 r j hne, c3 r j hne, mset_ne (by omega), b7 r j hne, a7 r j hne]⟩
          · rw [if_pos q, if_pos q]
            obtain ⟨h4, m4, c1, c2, c3, c4, c5⟩ := D_tail (N := N) (p := p) (st := 0) a5 (by rw [a8]; omega) (by rw [a8]; exact hP) (by decide) (by decide)
            rw [c4, c5]
            unfold F134_2 F271_2
            rw [ep]
            have e3 : m4 14 3 = m 14 3 := by rw [c3 _ _ (by omega), a8]
            obtain ⟨r, h5, m5, d1, d2, d3, d4, d5⟩ := ih k' (p + 1) h4 m4 c1 (by omega) (by omega) (by omega) (by omega) (by omega) (by omega)
            exact ⟨r, h5, m5, d1, d2, d3, fun r n j hne => by rw [d4 r n j hne, c2 r n j hne, a6 r n j hne], fun r j hne => by rw [d5 r j hne, c3 r j hne, a7 r j hne]⟩
theorem D_year {h : zHC} {m : zHM} {i N x : Int} {nm : Int → Int} (N0 : 0 ≤ N) (N1 : N ≤ 1000) (hI : CI h m i 0 0 nm) (hP : 1 ≤ m 14 3) : ∃ r h' m', F134 0 i N x h = some (r, h') ∧ F271 N x m = some (r, m') ∧ DI h' m' i nm ∧ dfC i h h' ∧ dfM m m' := by
  have big := zFu_big
  unfold F134 F271
  have hD : DI (hset (hset (hset h 130 0 0 x) 128 0 0 0) 129 0 0 0) (mset (mset (mset m 38 0 x) 39 0 0) 40 0 0) i nm := by
    refine ⟨CI_keep hI (fun r n j g => by rw [hset_ne (by omega), hset_ne (by omega), hset_ne (by omega)]) (fun j => by rw [mset_ne (by omega), mset_ne (by omega), mset_ne (by omega)]), ?_, ?_, ?_⟩
    · rw [hset_ne (by omega), hset_ne (by omega), hset_eq, mset_ne (by omega), mset_ne (by omega), mset_eq]
    · rw [hset_ne (by omega), hset_eq, mset_ne (by omega), mset_eq]
    · rw [hset_eq, mset_eq]
  obtain ⟨r, h', m', a1, a2, a3, a4, a5⟩ := D_loop (N := N) N1 zFu zFu 0 _ _ hD (by rw [mset_ne (by omega), mset_ne (by omega), mset_ne (by omega)]; exact hP) (by decide) (by omega) (by omega) (by omega) (by omega)
  exact ⟨r, h', m', a1, a2, a3, fun r n j hne => by rw [a4 r n j hne, hset_ne (by omega), hset_ne (by omega), hset_ne (by omega)], fun r j hne => by rw [a5 r j hne, mset_ne (by omega), mset_ne (by omega), mset_ne (by omega)]⟩
theorem RG_told {hc : zHC} {hm : zHM} {a b : Int} (h : RG hc hm) : RG (hset (hset hc 719 0 0 a) 720 0 0 b) (mset (mset hm 41 0 a) 41 1 b) := by
  obtain ⟨b1, b2, b3, b4, b5, b6, b7, b8, b9⟩ := h
  have f1 : ∀ r n j, ¬ (r = 719 ∨ r = 720) → (hset (hset hc 719 0 0 a) 720 0 0 b) r n j = hc r n j := fun r n j hne => by rw [hset_ne (by omega), hset_ne (by omega)]
  have f2 : ∀ r j, ¬ r = 41 → (mset (mset hm 41 0 a) 41 1 b) r j = hm r j := fun r j hne => by rw [mset_ne (by omega), mset_ne (by omega)]
  exact ⟨RTp_keep (fun r j g0 g1 => f1 r 0 j (by omega)) (fun r j g => f2 r j (by omega)) b1, RVC_keep (fun r j g => f1 r 0 j (by omega)) (fun j _ _ => f2 14 j (by omega)) (fun j => f2 19 j (by omega)) b2, RUn_keep (fun r n j g => f1 r n j (by omega)) (fun j _ _ => f2 14 j (by omega)) (fun r j g => f2 r j (by omega)) (VR_n b2.1) b3, RIm_keep (fun r n j g => f1 r n j (by omega)) (fun r j g => f2 r j (by omega)) b4, RSn_cong (f1 384 0 0 (by omega)) (f1 385 0 0 (by omega)) (fun j _ _ => f1 386 0 j (by omega)) (fun j _ _ => f2 14 j (by omega)) b5, RPc_keep (fun r j g => f1 r 0 j (by omega)) (fun r j g => f2 r j (by omega)) b6, ⟨by rw [hset_ne (by omega), hset_eq, mset_ne (by omega), mset_eq], by rw [hset_eq, mset_eq]⟩, RWr_keep (fun r j g => f1 r 0 j (by omega)) (fun r j g => f2 r j (by omega)) b8, RKw_keep (fun j => f1 330 0 j (by omega)) b9⟩
theorem C_drawn {hc : zHC} {hm : zHM} {n x : Int} (h : RG hc hm) : ∃ r hc' hm', F133 n x hc = some (r, hc') ∧ F270 n x hm = some (r, hm') ∧ RG hc' hm' := by
  have w6 := RG_WN h
  unfold WN at w6
  have h0 := RG_0 (x := 0) h
  have e64 := h.2.1.2.1.1
  unfold F133 F270
  rw [E188, (RG_VN h).2.2.2.1, e64]
  simp only [Option.bind_some]
  by_cases q1 : 1 ≤ n ∧ n ≤ 100
  · rw [if_neg (show ¬ n < 1 by omega), if_neg (show ¬ 100 < n by omega)]
    simp only [if_pos q1, z10]
    by_cases q2 : hm 14 3 = 0
    · rw [if_neg (fun z => z q2 : ¬ ¬ hm 14 3 = 0), if_neg (fun z => z q2 : ¬ ¬ hm 14 3 = 0)]
      exact ⟨_, _, _, rfl, rfl, h0⟩
    · rw [if_pos q2, if_pos q2]
      have fin : ∀ (h1 : zHC) (m1 : zHM), RG h1 m1 → m1 14 3 = hm 14 3 → RUn h1 m1 → CI h1 m1 0 0 0 (m1 19) → ∃ r hc' hm', F133_0 n x h1 = some (r, hc') ∧ F270_0 n x m1 = some (r, hm') ∧ RG hc' hm' := by
        intro h1 m1 g e hU hI
        unfold F133_0 F270_0
        obtain ⟨r, h2, m2, a1, a2, a3, a4, a5⟩ := D_year (N := n) (x := x) (by omega) (by omega) hI (by omega)
        rw [a1, a2]
        simp only [Option.bind_some]
        rw [a3.2.2.1, a3.2.2.2]
        exact ⟨r, _, _, rfl, rfl, RG_told (RG_act g hU (fun _ _ _ _ => rfl) (fun _ _ _ => rfl) a3.1 (fun r n j hne => a4 r n j hne) (fun r j hne => a5 r j hne))⟩
      by_cases q4 : 400 ≤ hm 14 209
      · rw [if_pos q4, if_pos q4]
        exact fin hc _ h0 (m0_ne (by decide)) h0.2.2.1 (RVC_CI h0.2.1)
      · rw [if_neg q4, if_neg q4]
        obtain ⟨h1, m1, z1, z2, z3, z4, z5, z6⟩ := P_keep h0.2.1 h0.2.2.1
        rw [z1, z2]
        simp only [Option.bind_some]
        have g1 : RG h1 m1 := RG_crs h0 (fun r n j hne => z5 r n j (by omega)) (fun r j hne => z6 r j (by omega)) z3 z4
        exact fin h1 m1 g1 (by rw [z6 _ _ (by omega), m0_ne (by decide)]) z4 (RVC_CI z3)
  · simp only [if_neg q1, z00]
    refine ⟨-1, hc, _, ?_, rfl, h0⟩
    by_cases u : n < 1
    · rw [if_pos u]
    · rw [if_neg u, if_pos (by omega)]
theorem C_odds {hc : zHC} {hm : zHM} {p n x : Int} (h : RG hc hm) : ∃ r hc' hm', F138 p n x hc = some (r, hc') ∧ F274 p n x hm = some (r, hm') ∧ RG hc' hm' := by
  have w6 := RG_WN h
  unfold WN at w6
  have h0 := RG_0 (x := 0) h
  have big := zFu_big
  unfold F138 F274
  rw [E61 (RG_VN h).2.2.2.1, E210 (m := mset hm 0 0 0) (b := hm 14 3) (m0_ne (by decide)), E188]
  simp only [Option.bind_some]
  by_cases q1 : 0 ≤ p ∧ p < hm 14 3
  · by_cases q2 : 1 ≤ n ∧ n ≤ 40
    · rw [if_neg (show ¬ n < 1 by omega), if_pos (show n ≤ 40 by omega)]
      simp only [if_pos q1, if_pos q2, z10, zn10]
      obtain ⟨w, c1, c2, c3, c4⟩ := L101 (p := p) (h := hc) (m := mset hm 0 0 0) (i := 0) q1.1 (by omega) h0.2.1.2
      rw [c1, c2]
      simp only [Option.bind_some]
      have key : ∀ (k k' : Nat) (many t : Int) (h1 : zHC) (m1 : zHM), RG h1 m1 → (∀ j, m1 14 j = hm 14 j) → 0 ≤ t → t ≤ n → 0 ≤ many → many ≤ t → n - t < k → n - t < k' → ∃ r hc' hm', F138_0 k p n x w many t h1 = some (r, hc') ∧ F274_0 k' p n x w many t m1 = some (r, hm') ∧ RG hc' hm' := by
        intro k
        induction k with
        | zero => intro k' many t h1 m1 g e t0 t1 n0 n1 g1 g2; omega
        | succ k ih =>
          intro k' many t h1 m1 g e t0 t1 n0 n1 g1 g2
          cases k' with
          | zero => omega
          | succ k' =>
            rw [F138_0, F274_0]
            by_cases u : n ≤ t
            · rw [if_pos u, if_pos u]
              exact ⟨_, _, _, rfl, rfl, g⟩
            · have et : wadd t 1 = t + 1 := wadd_eq (by omega) (by omega)
              have em : wadd many 1 = many + 1 := wadd_eq (by omega) (by omega)
              rw [if_neg u, if_neg u]
              obtain ⟨h2, m2, a1, a2, a3, a4, a5, a6⟩ := A_beg g
              rw [a1, a2]
              simp only [Option.bind_some]
              obtain ⟨r, h3, m3, b1, b2, b3, b4, b5⟩ := D_year (i := 1) (N := 40) (x := wadd x t) (by decide) (by decide) a3 (by rw [a6, e]; omega)
              rw [b1, b2]
              simp only [Option.bind_some]
              obtain ⟨v, d1, d2, d3, d4⟩ := L101 (p := p) q1.1 (by omega) (CI_CR b3.1)
              rw [d1, d2]
              simp only [Option.bind_some]
              obtain ⟨m4, f1, f2, f3⟩ := A_end (mA_N a5 (m2 := m3) (fun r j hne => b5 r j (by omega)))
              unfold F138_1 F274_1
              rw [f1, et, em]
              simp only [Option.bind_some]
              have g' : RG h3 m4 := RG_sc g (fun r n j hne => by rw [b4 r n j (by omega), a4 r n j (by omega)]) f2
              have e' : ∀ j, m4 14 j = hm 14 j := fun j => by rw [f2 14 j (by omega)]; exact e j
              by_cases z : v ≤ w
              · rw [if_pos z, if_pos z]
                exact ih k' many (t + 1) h3 m4 g' e' (by omega) (by omega) (by omega) (by omega) (by omega) (by omega)
              · rw [if_neg z, if_neg z]
                exact ih k' (many + 1) (t + 1) h3 m4 g' e' (by omega) (by omega) (by omega) (by omega) (by omega) (by omega)
      exact key zFu zFu 0 0 hc _ h0 (fun j => m0_ne (by decide)) (by decide) (by omega) (by decide) (by decide) (by omega) (by omega)
    · simp only [if_pos q1, if_neg q2, z10, zn00]
      refine ⟨-1, hc, _, ?_, rfl, h0⟩
      by_cases u : n < 1
      · rw [if_pos u]
      · rw [if_neg u, if_neg (by omega)]
  · simp only [if_neg q1, z00]
    exact ⟨_, _, _, rfl, rfl, h0⟩
end
section
/-! Camps. -/
def zBit (x p : Int) : Prop := wand (wshr x p) 1 = 1
theorem z_all2 {f : Nat → Nat → Bool} {n k : Nat} (h : (List.range n).all (fun a => (List.range k).all (fun b => f a b)) = true) {x y : Int} (h0 : 0 ≤ x) (h1 : x < n) (h2 : 0 ≤ y) (h3 : y < k) : f x.toNat y.toNat = true := by
  have e := z_all h h0 h1
  exact z_all e h2 h3
/-- subsets of C below 64 -/
theorem z_sub {x C : Int} (x0 : 0 ≤ x) (x1 : x < 64) (C0 : 0 ≤ C) (C1 : C < 64) (hs : wand x (wxor C (-1)) = 0) : x ≤ C ∧ ∀ p, 0 ≤ p → p < 6 → (wand (wshr x p) 1 = 1 → wand (wshr C p) 1 = 1) ∧ (wand (wshr C p) 1 = 1 → wand (wxor x (wshl 1 p)) (wxor C (-1)) = 0 ∧ 0 ≤ wxor x (wshl 1 p) ∧ wxor x (wshl 1 p) < 64) := by
  have k : (List.range 64).all (fun a => (List.range 64).all (fun b => (!decide (wand (a : Int) (wxor (b : Int) (-1)) = 0)) || (decide ((a : Int) ≤ (b : Int)) && (List.range 6).all (fun p => (!decide (wand (wshr (a : Int) (p : Int)) 1 = 1) || decide (wand (wshr (b : Int) (p : Int)) 1 = 1)) && (!decide (wand (wshr (b : Int) (p : Int)) 1 = 1) || decide (wand (wxor (a : Int) (wshl 1 (p : Int))) (wxor (b : Int) (-1)) = 0 ∧ 0 ≤ wxor (a : Int) (wshl 1 (p : Int)) ∧ wxor (a : Int) (wshl 1 (p : Int)) < 64)))))) = true := by decide +kernel
  have e := z_all2 k (x := x) (y := C) x0 (by omega) C0 (by omega)
  have e1 : ((x.toNat : Nat) : Int) = x := by omega
  have e2 : ((C.toNat : Nat) : Int) = C := by omega
  simp only [e1, e2] at e
  rw [hs] at e
  rw [Bool.or_eq_true] at e
  rcases e with e | e
  · simp at e
  · rw [Bool.and_eq_true] at e
    refine ⟨of_decide_eq_true e.1, fun p p0 p1 => ?_⟩
    have e3 := z_all e.2 (x := p) p0 (by omega)
    have e4 : ((p.toNat : Nat) : Int) = p := by omega
    simp only [e4] at e3
    rw [Bool.and_eq_true, Bool.or_eq_true, Bool.or_eq_true] at e3
    obtain ⟨e5, e6⟩ := e3
    refine ⟨fun w => ?_, fun w => ?_⟩
    · rcases e5 with u | u
      · rw [w] at u; simp at u
      · exact of_decide_eq_true u
    · rcases e6 with u | u
      · rw [w] at u; simp at u
      · exact of_decide_eq_true u
theorem z_sub_lt {x C : Int} (hx : zR32 x) (C0 : 0 ≤ C) (C1 : C < 64) (hs : wand x (wxor C (-1)) = 0) : 0 ≤ x ∧ x < 64 := by
  have h0 : (Int32.ofInt x &&& (Int32.ofInt C ^^^ Int32.ofInt (-1))).toInt = 0 := by
    have : wand x (wxor C (-1)) = (Int32.ofInt x &&& (Int32.ofInt C ^^^ Int32.ofInt (-1))).toInt := by
      unfold wand wxor
      rw [Int32.ofInt_toInt]
    rw [← this]
    exact hs
  have h1 : (Int32.ofInt x &&& (Int32.ofInt C ^^^ Int32.ofInt (-1))) = 0 := Int32.toInt_inj.mp (by rw [h0]; rfl)
  have h2 : (Int32.ofInt x).toBitVec &&& ((Int32.ofInt C).toBitVec ^^^ BitVec.allOnes 32) = 0#32 := by
    have := congrArg Int32.toBitVec h1
    exact this
  have hC : (Int32.ofInt C).toBitVec.toNat < 2 ^ 6 := by
    rw [i32_of C0 (by omega)]
    omega
  have hX : (Int32.ofInt x).toBitVec.toNat < 2 ^ 6 := by
    refine Nat.lt_pow_two_of_testBit _ (fun i hi => ?_)
    by_cases hi2 : i < 32
    · have e := congrArg (fun v : BitVec 32 => v.getLsbD i) h2
      simp only [BitVec.getLsbD_and, BitVec.getLsbD_xor, BitVec.getLsbD_allOnes, BitVec.getLsbD_zero] at e
      have e2 : (Int32.ofInt C).toBitVec.getLsbD i = false := by
        have : Nat.testBit (Int32.ofInt C).toBitVec.toNat i = false := Nat.testBit_lt_two_pow (Nat.lt_of_lt_of_le hC (Nat.pow_le_pow_right (by decide) hi))
        exact this
      rw [e2] at e
      simp [hi2] at e
      exact e
    · exact Nat.testBit_lt_two_pow (Nat.lt_of_lt_of_le (Int32.ofInt x).toBitVec.isLt (Nat.pow_le_pow_right (by decide) (by omega)))
  have e3 := i32_nat (v := Int32.ofInt x) rfl (by omega)
  rw [Int32.toInt_ofInt_of_le hx.1 hx.2] at e3
  omega
theorem z_bits {a C p : Int} (a0 : 0 ≤ a) (a1 : a < 64) (p0 : 0 ≤ p) (p1 : p < 6) : ∀ q, 0 ≤ q → q < 6 → (wand (wshr (wor a (wshl 1 p)) q) 1 = 1 ↔ (q = p ∨ wand (wshr a q) 1 = 1)) := by
  intro q q0 q1
  have k : (List.range 384).all (fun a => (List.range 6).all (fun q => decide (wand (wshr (wor ((a / 6 : Nat) : Int) (wshl 1 ((a % 6 : Nat) : Int))) (q : Int)) 1 = 1 ↔ ((q : Int) = ((a % 6 : Nat) : Int) ∨ wand (wshr ((a / 6 : Nat) : Int) (q : Int)) 1 = 1)))) = true := by decide +kernel
  have e := z_all2 k (x := 6 * a + p) (y := q) (by omega) (by omega) q0 (by omega)
  have e1 : (((6 * a + p).toNat / 6 : Nat) : Int) = a := by omega
  have e2 : (((6 * a + p).toNat % 6 : Nat) : Int) = p := by omega
  have e3 : ((q.toNat : Nat) : Int) = q := by omega
  simp only [e1, e2, e3] at e
  exact of_decide_eq_true e
theorem L105 {h : zHC} {m : zHM} (e3 : h 579 0 0 = m 14 3) (n0 : 0 ≤ m 14 3) (n1 : m 14 3 ≤ 6) (hP : VP h 0 (m 14)) : ∃ C, F105 0 h = some C ∧ F248 m = some C ∧ 0 ≤ C ∧ C < 64 ∧ ∀ p, 0 ≤ p → p < 6 → (wand (wshr C p) 1 = 1 ↔ p < m 14 3 ∧ ¬ m 14 (25 + 2 * p + 1) = -1) := by
  have key : ∀ (n n' : Nat) (acc p : Int), 0 ≤ p → p ≤ m 14 3 → m 14 3 - p < n → m 14 3 - p < n' → 0 ≤ acc → acc < 64 → (∀ q, 0 ≤ q → q < 6 → (wand (wshr acc q) 1 = 1 ↔ q < p ∧ ¬ m 14 (25 + 2 * q + 1) = -1)) → ∃ C, F105_0 h n 0 acc p = some C ∧ F248_0 m n' acc p = some C ∧ 0 ≤ C ∧ C < 64 ∧ ∀ p, 0 ≤ p → p < 6 → (wand (wshr C p) 1 = 1 ↔ p < m 14 3 ∧ ¬ m 14 (25 + 2 * p + 1) = -1) := by
    intro n
    induction n with
    | zero => intro n' acc p p0 p1 g1 g2; omega
    | succ n ih =>
      intro n' acc p p0 p1 g1 g2 a0 a1 hb
      cases n' with
      | zero => omega
      | succ n' =>
        rw [F105_0, F248_0, e3]
        by_cases e : p = m 14 3
        · rw [if_pos (by omega), if_pos (by omega)]
          refine ⟨acc, rfl, rfl, a0, a1, ?_⟩
          rw [← e]
          exact hb
        · have hp : ¬ m 14 3 ≤ p := by omega
          have ep : wadd p 1 = p + 1 := wadd_eq (by omega) (by omega)
          rw [if_neg hp, if_neg hp, wmul_eq (by omega) (by omega), wadd_eq (x := 25) (by omega) (by omega), wadd_eq (x := 25 + 2 * p) (by omega) (by omega), zG_t (by omega), zG_t (by omega), (hP p p0 (by omega)).2]
          unfold F105_1 F248_1
          rw [ep]
          by_cases q : m 14 (25 + 2 * p + 1) = -1
          · rw [if_pos q, if_pos q]
            refine ih n' acc (p + 1) (by omega) (by omega) (by omega) (by omega) a0 a1 (fun r r0 r1 => ?_)
            rw [hb r r0 r1]
            by_cases u : r = p
            · subst u
              exact ⟨fun w => by omega, fun w => absurd q w.2⟩
            · exact ⟨fun w => ⟨by omega, w.2⟩, fun w => ⟨by omega, w.2⟩⟩
          · rw [if_neg q, if_neg q]
            have wr := wor_shl a0 a1 p0 (by omega : p < 6)
            refine ih n' _ (p + 1) (by omega) (by omega) (by omega) (by omega) wr.1 wr.2 (fun r r0 r1 => ?_)
            rw [z_bits (C := 0) a0 a1 p0 (by omega) r r0 r1, hb r r0 r1]
            by_cases u : r = p
            · subst u
              exact ⟨fun _ => ⟨by omega, q⟩, fun _ => Or.inl rfl⟩
            · exact ⟨fun w => by rcases w with w | w; exact absurd w u; exact ⟨by omega, w.2⟩, fun w => Or.inr ⟨by omega, w.2⟩⟩
  have big := zFu_big
  refine key zFu zFu 0 0 (by decide) n0 (by omega) (by omega) (by decide) (by decide) (fun q q0 q1 => ?_)
  rw [wand_0p q0 q1]
  exact ⟨fun w => (by cases w), fun w => (by omega)⟩
/-- places by camps -/
theorem L106 {x n : Int} {nm : Int → Int} {nP : Int} (n1 : n ≤ 1000) (P1 : nP ≤ 6) (k0 : Int → Int → Int → zHM → Option zHM) : ∀ (f f' : Nat) (p : Int) (h : zHC) (m : zHM), CI h m 1 0 0 nm → m 14 3 = nP → (∀ q, 0 ≤ q → q < nP → wand (wshr x q) 1 = 1 → ¬ m 14 (25 + 2 * q + 1) = -1) → 0 ≤ p → p ≤ nP → nP - p < f → nP - p < f' → ∃ h' m' k, F106_0 f x n p h = some h' ∧ F249_0 f' x n p m = F249_1 zFu x 0 m' ∧ CI h' m' 1 0 0 nm ∧ (∀ r n j, ¬ (64 ≤ r ∧ r ≤ 72 ∧ n = 1) → h' r n j = h r n j) ∧ (∀ r j, ¬ (r = 14 ∧ 209 ≤ j ∧ j < 1898) → m' r j = m r j) ∧ k = (0 : Int) := by
  intro f
  induction f with
  | zero => intro f' p h m hI e hb p0 p1 g1 g2; omega
  | succ f ih =>
    intro f' p h m hI e hb p0 p1 g1 g2
    cases f' with
    | zero => omega
    | succ f' =>
      have e3 : h 579 0 0 = nP := by rw [← e]; exact hI.1.1.2.2.2.1
      rw [F106_0, F249_0, e3, e]
      by_cases u : p = nP
      · obtain ⟨r, h1, m1, a1, a2, a3, a4, a5⟩ := P_hours' n1 hI
        rw [if_pos (by omega), if_pos (by omega), a1, a2, Option.bind_some, Option.bind_some]
        exact ⟨h1, m1, 0, rfl, rfl, a3, cfC_1 a4, fun r j hne => a5.2.2 r j (by omega), rfl⟩
      · have hp : ¬ nP ≤ p := by omega
        have ep : wadd p 1 = p + 1 := wadd_eq (by omega) (by omega)
        rw [if_neg hp, if_neg hp, F214_s]
        unfold F106_1 F249_2
        rw [ep]
        by_cases w : wand (wshr x p) 1 = 1
        · have e65 : F65 x p = some 1 := by
            unfold F65
            rw [if_neg (fun z => z w)]
          have nb := hb p p0 (by omega) w
          obtain ⟨c1, c2⟩ := hI.1.2.2.1 p p0 (by omega)
          obtain ⟨d1, d2, d3, d4⟩ := hI.1.2.2.2.2.2.2.2.2.2.1 p p0 (by omega)
          rw [e65]
          simp only [Option.bind_some, z10]
          rw [zG_t (by omega), zG_t (by omega), wmul_eq (by omega) (by omega), wadd_eq (x := 25) (by omega) (by omega), wadd_eq (x := 25 + 2 * p) (by omega) (by omega), zG_t (by omega), wadd_eq (x := 210) (by omega) (by omega), zG_t (by omega), c2]
          obtain ⟨h', m', k, z1, z2, z3, z4, z5, z6⟩ := ih f' (p + 1) _ _ (CI_place (p := p) (x := m 14 (25 + 2 * p + 1)) hI p0 (by omega) (by omega) (by omega)) (by rw [mset_ne (by omega)]; exact e) (fun q q0 q1 q2 => by rw [mset_ne (by omega)]; exact hb q q0 q1 q2) (by omega) (by omega) (by omega) (by omega)
          exact ⟨h', m', k, z1, z2, z3, fun r n j hne => by rw [z4 r n j hne, hset_ne (by omega)], fun r j hne => by rw [z5 r j hne, mset_ne (by omega)], z6⟩
        · have e65 : F65 x p = some 0 := by
            unfold F65
            rw [if_pos w]
          rw [e65]
          simp only [Option.bind_some, z00]
          exact ih f' (p + 1) h m hI e hb (by omega) (by omega) (by omega) (by omega)
theorem L108 {x nP : Int} (x0 : 0 ≤ x) (x1 : x < 64) (P1 : nP ≤ 6) : ∀ (f f' : Nat) (p : Int) (h0 h : zHC) (m0 m : zHM), CR h0 1 (m0 14) → h0 579 0 0 = nP → m0 14 3 = nP → (∀ r n j, ¬ r = 716 → h r n j = h0 r n j) → (∀ r j, ¬ r = 25 → m r j = m0 r j) → (∀ j, ¬ (x * 6 ≤ j ∧ j < x * 6 + 6) → h 716 0 j = h0 716 0 j ∧ m 25 j = m0 25 j) → (∀ q, 0 ≤ q → q < p → ∃ v, F101 1 q h0 = some v ∧ h 716 0 (x * 6 + q) = v ∧ m 25 (6 * x + q) = v) → 0 ≤ p → p ≤ nP → nP - p < f → nP - p < f' → ∃ h' m', F108_0 f x p h = some h' ∧ F249_1 f' x p m = (F245 m').bind (fun r1 => some r1) ∧ (∀ r n j, ¬ r = 716 → h' r n j = h0 r n j) ∧ (∀ r j, ¬ r = 25 → m' r j = m0 r j) ∧ (∀ j, ¬ (x * 6 ≤ j ∧ j < x * 6 + 6) → h' 716 0 j = h0 716 0 j ∧ m' 25 j = m0 25 j) ∧ (∀ q, 0 ≤ q → q < nP → ∃ v, F101 1 q h0 = some v ∧ h' 716 0 (x * 6 + q) = v ∧ m' 25 (6 * x + q) = v) := by
  intro f
  induction f with
  | zero => intro f' p h0 h m0 m hR e1 e2 f1 f2 f3 f4 p0 p1 g1 g2; omega
  | succ f ih =>
    intro f' p h0 h m0 m hR e1 e2 f1 f2 f3 f4 p0 p1 g1 g2
    cases f' with
    | zero => omega
    | succ f' =>
      rw [F108_0, F249_1, f1 579 0 0 (by omega), e1, f2 14 3 (by omega), e2]
      by_cases u : p = nP
      · rw [if_pos (by omega), if_pos (by omega)]
        exact ⟨h, m, rfl, rfl, f1, f2, f3, fun q q0 q1 => f4 q q0 (by omega)⟩
      · have hp : ¬ nP ≤ p := by omega
        have ep : wadd p 1 = p + 1 := wadd_eq (by omega) (by omega)
        have hR' : CR h 1 (m 14) := CR_keep (fun r j g0 g1 => f1 r 1 j (by omega)) (fun j _ _ => f2 14 j (by omega)) (f2 14 2 (by omega)) (f2 14 3 (by omega)) (by omega) hR
        obtain ⟨v, c1, c2, c3, c4⟩ := L101 (p := p) p0 (by omega) hR'
        obtain ⟨v', d1, d2, d3, d4⟩ := L101 (p := p) p0 (by omega) hR
        have evv : v' = v := by
          have e5 : ∀ j, m 14 j = m0 14 j := fun j => f2 14 j (by omega)
          have : F211 p m = F211 p m0 := by
            obtain ⟨w, y1, y2, -⟩ := L101 (h := h0) (m := fun r j => if r = 14 then m0 14 j else m r j) (i := 1) (p := p) p0 (by omega) hR
            have em : (fun r j => if r = 14 then m0 14 j else m r j) = m := by
              funext r j
              by_cases z : r = 14
              · subst z; exact (if_pos rfl).trans (e5 j).symm
              · exact if_neg z
            rw [em] at y2
            have := y1.symm.trans d1
            rw [y2, d2]
            exact this
          rw [c2, d2] at this
          exact (Option.some.inj this).symm
        subst evv
        rw [if_neg hp, if_neg hp, c1, c2]
        simp only [Option.bind_some]
        rw [wmul_eq (x := x) (by omega) (by omega), wadd_eq (x := x * 6) (by omega) (by omega), zG_t (by omega), wmul_eq (x := 6) (by omega) (by omega), wadd_eq (x := 6 * x) (by omega) (by omega), zG_t (by omega), ep]
        refine ih f' (p + 1) h0 _ m0 _ hR e1 e2 (fun r n j hne => by rw [hset_ne (by omega)]; exact f1 r n j hne) (fun r j hne => by rw [mset_ne (by omega)]; exact f2 r j hne) (fun j hne => ?_) (fun q q0 q1 => ?_) (by omega) (by omega) (by omega) (by omega)
        · rw [hset_ne (by omega), mset_ne (by omega)]
          exact f3 j hne
        · by_cases w : q = p
          · subst w
            exact ⟨v', d1, hset_eq, mset_eq⟩
          · rw [hset_ne (by omega), mset_ne (by omega)]
            exact f4 q q0 (by omega)
/-- one set of camps, class and model -/
theorem P_set {hc : zHC} {hm : zHM} {x n C : Int} (h : RG hc hm) (n1 : n ≤ 1000) (x0 : 0 ≤ x) (x1 : x < 64) (hC : F105 0 hc = some C) (C0 : 0 ≤ C) (C1 : C < 64) (hb : ∀ p, 0 ≤ p → p < 6 → (wand (wshr C p) 1 = 1 ↔ p < hm 14 3 ∧ ¬ hm 14 (25 + 2 * p + 1) = -1)) (hs : wand x (wxor C (-1)) = 0) : ∃ h1 h2 m3, F106 x n hc = some h1 ∧ F108 x h1 = some h2 ∧ F249 x n hm = some m3 ∧ scC hc h1 ∧ scC hc h2 ∧ scM hm m3 ∧ (∀ j, ¬ (x * 6 ≤ j ∧ j < x * 6 + 6) → h2 716 0 j = hc 716 0 j ∧ m3 25 j = hm 25 j) ∧ (∀ q, 0 ≤ q → q < hm 14 3 → ∃ v, F101 1 q h1 = some v ∧ h2 716 0 (x * 6 + q) = v ∧ m3 25 (6 * x + q) = v) := by
  have w6 := RG_WN h
  unfold WN at w6
  have big := zFu_big
  obtain ⟨h1, m1, a1, a2, a3, a4, a5, a6⟩ := A_beg h
  have e25 : ∀ j, m1 25 j = hm 25 j := by
    obtain ⟨m1', y1, y2, y3⟩ := L244 (m := hm)
    have := Option.some.inj (y1.symm.trans a2)
    subst this
    exact fun j => y3 25 j (by decide)
  have zs := (z_sub x0 x1 C0 C1 hs).2
  obtain ⟨h2, m2, k, b1, b2, b3, b4, b5, b6⟩ := L106 (x := x) (n := n) (nP := hm 14 3) n1 (by omega) (fun _ _ _ _ => none) zFu zFu 0 h1 m1 a3 (a6 3) (fun q q0 q1 q2 => by rw [a6]; exact ((hb q q0 (by omega)).mp ((zs q q0 (by omega)).1 q2)).2) (by decide) (by omega) (by omega) (by omega)
  have e3 : m2 14 3 = hm 14 3 := by rw [b5 14 3 (by omega), a6]
  obtain ⟨h3, m3, c1, c2, c3, c4, c5, c6⟩ := L108 (x := x) (nP := hm 14 3) x0 x1 (by omega) zFu zFu 0 h2 h2 m2 m2 (CI_CR b3) (by rw [← e3]; exact b3.1.1.2.2.2.1) e3 (fun _ _ _ _ => rfl) (fun _ _ _ => rfl) (fun _ _ => ⟨rfl, rfl⟩) (fun q q0 q1 => by omega) (by decide) (by omega) (by omega) (by omega)
  obtain ⟨m4, d1, d2, d3⟩ := A_end (mA_N a5 (m2 := m3) (fun r j hne => by rw [c4 r j (by omega), b5 r j (by omega)]))
  refine ⟨h2, h3, m4, ?_, c1, ?_, scC_1 a4 b4, fun r n j hne => by rw [c3 r n j (by omega), b4 r n j (by omega), a4 r n j (by omega)], d2, fun j hne => ?_, fun q q0 q1 => ?_⟩
  · unfold F106
    rw [a1, Option.bind_some]
    exact b1
  · unfold F249
    rw [a2, Option.bind_some, b2, c2, d1]
    rfl
  · obtain ⟨u1, u2⟩ := c5 j hne
    refine ⟨?_, ?_⟩
    · rw [u1, b4 _ _ _ (by omega), a4 _ _ _ (by omega)]
    · rw [d3 25 j (by decide), u2, b5 25 j (by omega)]
      exact e25 j
  · obtain ⟨v, u1, u2, u3⟩ := c6 q q0 q1
    exact ⟨v, u1, u2, by rw [d3 25 _ (by decide)]; exact u3⟩
theorem C_has {hc : zHC} {hm : zHM} {p x n : Int} (h : RG hc hm) (hx : zR32 x) : ∃ r hc' hm', F103 p x n hc = some (r, hc') ∧ F247 p x n hm = some (r, hm') ∧ RG hc' hm' := by
  have w6 := RG_WN h
  unfold WN at w6
  have h0 := RG_0 (x := 0) h
  obtain ⟨C, c1, c2, c3, c4, c5⟩ := L105 (h := hc) (m := mset hm 0 0 0) (RG_VN h).2.2.2.1 (by rw [m0_ne (by decide)]; omega) (by rw [m0_ne (by decide)]; omega) h0.2.1.1.2.2.1
  unfold F103 F247 F104
  rw [E61 (RG_VN h).2.2.2.1, E210 (m := mset hm 0 0 0) (b := hm 14 3) (m0_ne (by decide)), E99, E242, c1, c2]
  simp only [Option.bind_some]
  by_cases q1 : 0 ≤ p ∧ p < hm 14 3
  · simp only [if_pos q1, z10]
    by_cases q3 : 1 ≤ n ∧ n ≤ 60
    · simp only [if_pos q3, z10, zn10]
      by_cases q4 : wand x (wxor C (-1)) = 0
      · obtain ⟨x0, x1⟩ := z_sub_lt hx c3 c4 q4
        rw [if_neg (show ¬ x < 0 by omega), if_neg (fun z => z q4 : ¬ ¬ wand x (wxor C (-1)) = 0), if_neg (fun z => z q4 : ¬ ¬ wand x (wxor C (-1)) = 0)]
        simp only [Option.bind_some, zn10]
        obtain ⟨h1, h2, m3, d1, d2, d3, d4, d5, d6, d7, d8⟩ := P_set (x := x) (n := n) h0 (by omega) x0 x1 c1 c3 c4 c5 q4
        rw [m0_ne (by decide)] at d8
        obtain ⟨v, e1, e2, e3⟩ := d8 p q1.1 q1.2
        rw [d1, d3]
        simp only [Option.bind_some]
        rw [e1, wmul_eq (by omega) (by omega), wadd_eq (x := 6 * x) (by omega) (by omega), zG_t (by omega), e3]
        exact ⟨v, h1, m3, rfl, rfl, RG_sc h0 d4 d6⟩
      · rw [if_pos q4, if_pos q4]
        simp only [Option.bind_some, zn00]
        refine ⟨-1, hc, _, rfl, ?_, h0⟩
        split <;> rfl
    · simp only [if_neg q3, z00, zn00]
      refine ⟨-1, hc, mset hm 0 0 0, rfl, ?_, h0⟩
      by_cases u : x < 0
      · rw [if_pos u]
      · rw [if_neg u]
        split <;> rfl
  · simp only [if_neg q1, z00]
    exact ⟨_, _, _, rfl, rfl, h0⟩
theorem F104_s {h : zHC} {x C : Int} (hC : F105 0 h = some C) : F104 x h = some (if wand x (wxor C (-1)) = 0 then 1 else 0) := by
  unfold F104
  rw [hC, Option.bind_some]
  by_cases q : wand x (wxor C (-1)) = 0
  · rw [if_neg (fun z => z q), if_pos q]
  · rw [if_pos q, if_neg q]
theorem F105_keep {h h' : zHC} {m m' : zHM} (g : RG h m) (g' : RG h' m') (e : ∀ j, m' 14 j = m 14 j) {C : Int} (hC : F105 0 h = some C) : F105 0 h' = some C := by
  have w6 := RG_WN g
  unfold WN at w6
  obtain ⟨C1, a1, a2, -⟩ := L105 (h := h) (m := m) (RG_VN g).2.2.2.1 (by omega) (by omega) g.2.1.1.2.2.1
  obtain ⟨C2, b1, b2, -⟩ := L105 (h := h') (m := m) (by rw [← e]; exact (RG_VN g').2.2.2.1) (by omega) (by omega) (by have : m' 14 = m 14 := funext e; rw [← this]; exact g'.2.1.1.2.2.1)
  rw [b1, ← b2, a2, ← a1, hC]
theorem C_rests {hc : zHC} {hm : zHM} {n k : Int} (h : RG hc hm) : ∃ r hc' hm', F107 n k hc = some (r, hc') ∧ F250 n k hm = some (r, hm') ∧ RG hc' hm' := by
  have w6 := RG_WN h
  unfold WN at w6
  have h0 := RG_0 (x := 0) h
  have big := zFu_big
  obtain ⟨C, c1, c2, c3, c4, c5⟩ := L105 (h := hc) (m := mset hm 0 0 0) (RG_VN h).2.2.2.1 (by rw [m0_ne (by decide)]; omega) (by rw [m0_ne (by decide)]; omega) h0.2.1.1.2.2.1
  have e14 : ∀ j, (mset hm 0 0 0) 14 j = hm 14 j := fun j => m0_ne (by decide)
  have c5' : ∀ p, 0 ≤ p → p < 6 → (wand (wshr C p) 1 = 1 ↔ p < hm 14 3 ∧ ¬ hm 14 (25 + 2 * p + 1) = -1) := c5
  unfold F107 F250
  rw [E99, E242, c2]
  simp only [Option.bind_some]
  by_cases q3 : 1 ≤ n ∧ n ≤ 60
  · simp only [if_pos q3, z10, zn10]
    -- the second loop
    have k2 : ∀ (f f' : Nat) (many x : Int) (h1 : zHC) (m1 : zHM), RG h1 m1 → (∀ j, m1 14 j = hm 14 j) → F105 0 h1 = some C → (∀ y, 0 ≤ y → y < 64 → wand y (wxor C (-1)) = 0 → ∀ q, 0 ≤ q → q < hm 14 3 → h1 716 0 (y * 6 + q) = m1 25 (6 * y + q)) → 0 ≤ x → x ≤ 64 → 0 ≤ many → many ≤ x → 64 - x < f → 64 - x < f' → ∃ r, F107_1 f k many x h1 = some (r, h1) ∧ F250_1 f' k C many x m1 = some (r, m1) ∧ (k < -1 → r = -1) := by
      intro f
      induction f with
      | zero => intro f' many x h1 m1 g e hC hb x0 x1 n0 n1 g1 g2; omega
      | succ f ih =>
        intro f' many x h1 m1 g e hC hb x0 x1 n0 n1 g1 g2
        cases f' with
        | zero => omega
        | succ f' =>
          have ex : wadd x 1 = x + 1 := wadd_eq (by omega) (by omega)
          have em : wadd many 1 = many + 1 := wadd_eq (by omega) (by omega)
          rw [F107_1, F250_1]
          by_cases u : 64 ≤ x
          · rw [if_pos u, if_pos (show C < x by omega)]
            by_cases v : k = -1
            · rw [if_neg (fun z => z v : ¬ ¬ k = -1), if_neg (fun z => z v : ¬ ¬ k = -1)]
              exact ⟨many, rfl, rfl, fun z => by omega⟩
            · rw [if_pos v, if_pos v]
              exact ⟨-1, rfl, rfl, fun _ => rfl⟩
          · rw [if_neg u, F104_s hC]
            simp only [Option.bind_some]
            unfold F107_3
            rw [ex, em]
            by_cases w : wand x (wxor C (-1)) = 0
            · obtain ⟨s1, s2⟩ := z_sub x0 (by omega) c3 c4 w
              rw [if_neg (show ¬ C < x by omega), if_neg (fun z => z w : ¬ ¬ wand x (wxor C (-1)) = 0)]
              simp only [if_pos w, z10]
              unfold F250_3
              rw [ex]
              have rest : ∃ b, (b = 0 ∨ b = 1) ∧ F109 x h1 = some b ∧ F251 x C m1 = some b := by
                unfold F109 F251
                rw [hC, Option.bind_some]
                have kk : ∀ (a a' : Nat) (p : Int), 0 ≤ p → p ≤ hm 14 3 → hm 14 3 - p < a → hm 14 3 - p < a' → ∃ b, (b = 0 ∨ b = 1) ∧ F109_0 h1 a x C p = some b ∧ F251_0 m1 a' x C p = some b := by
                  intro a
                  induction a with
                  | zero => intro a' p p0 p1 y1 y2; omega
                  | succ a ia =>
                    intro a' p p0 p1 y1 y2
                    cases a' with
                    | zero => omega
                    | succ a' =>
                      have e3 : h1 579 0 0 = hm 14 3 := by rw [← e]; exact (RG_VN g).2.2.2.1
                      rw [F109_0, F251_0, e3, e]
                      by_cases z : p = hm 14 3
                      · rw [if_pos (by omega), if_pos (by omega)]
                        exact ⟨1, Or.inr rfl, rfl, rfl⟩
                      · have hp : ¬ hm 14 3 ≤ p := by omega
                        have ep : wadd p 1 = p + 1 := wadd_eq (by omega) (by omega)
                        rw [if_neg hp, if_neg hp, F214_s]
                        unfold F109_1 F251_1
                        rw [ep]
                        have nx := ia a' (p + 1) (by omega) (by omega) (by omega) (by omega)
                        by_cases b1 : wand (wshr C p) 1 = 1
                        · have e65 : F65 C p = some 1 := by
                            unfold F65
                            rw [if_neg (fun z => z b1)]
                          obtain ⟨t1, t2, t3⟩ := (s2 p p0 (by omega)).2 b1
                          have t4 := hb _ t2 t3 t1 p p0 (by omega)
                          have t5 := hb x x0 (by omega) w p p0 (by omega)
                          rw [e65]
                          simp only [Option.bind_some, z10]
                          rw [wmul_eq (x := wxor x (wshl 1 p)) (by omega) (by omega), wadd_eq (x := wxor x (wshl 1 p) * 6) (by omega) (by omega), wmul_eq (x := x) (by omega) (by omega), wadd_eq (x := x * 6) (by omega) (by omega), wmul_eq (x := 6) (y := wxor x (wshl 1 p)) (by omega) (by omega), wadd_eq (x := 6 * wxor x (wshl 1 p)) (by omega) (by omega), wmul_eq (x := 6) (y := x) (by omega) (by omega), wadd_eq (x := 6 * x) (by omega) (by omega), zG_t (by omega), zG_t (by omega), zG_t (by omega), zG_t (by omega), t4, t5]
                          by_cases b2 : m1 25 (6 * wxor x (wshl 1 p) + p) ≤ m1 25 (6 * x + p)
                          · rw [if_pos b2, if_pos b2]
                            exact nx
                          · rw [if_neg b2, if_neg b2]
                            exact ⟨0, Or.inl rfl, rfl, rfl⟩
                        · have e65 : F65 C p = some 0 := by
                            unfold F65
                            rw [if_pos b1]
                          rw [e65]
                          simp only [Option.bind_some, z00]
                          exact nx
                exact kk zFu zFu 0 (by decide) (by omega) (by omega) (by omega)
              obtain ⟨b, b0, b1, b2⟩ := rest
              rw [b1, b2]
              simp only [Option.bind_some]
              rcases b0 with b0 | b0
              · subst b0
                simp only [z00, zn00]
                exact ih f' many (x + 1) h1 m1 g e hC hb (by omega) (by omega) (by omega) (by omega) (by omega) (by omega)
              · subst b0
                simp only [z10, zn10]
                by_cases v : many = k
                · rw [if_neg (fun z => z v : ¬ ¬ many = k), if_neg (fun z => z v : ¬ ¬ many = k)]
                  exact ⟨x, rfl, rfl, fun z => by omega⟩
                · rw [if_pos v, if_pos v]
                  exact ih f' (many + 1) (x + 1) h1 m1 g e hC hb (by omega) (by omega) (by omega) (by omega) (by omega) (by omega)
            · simp only [if_neg w, z00]
              by_cases v : C < x
              · obtain ⟨r, y1, y2, y3⟩ := ih (f' + 1) many (x + 1) h1 m1 g e hC hb (by omega) (by omega) (by omega) (by omega) (by omega) (by omega)
                refine ⟨r, y1, ?_, y3⟩
                rw [F250_1, if_pos (show C < x + 1 by omega)] at y2
                rw [if_pos v]
                exact y2
              · rw [if_neg v, if_pos w]
                unfold F250_3
                rw [ex]
                exact ih f' many (x + 1) h1 m1 g e hC hb (by omega) (by omega) (by omega) (by omega) (by omega) (by omega)
    -- the first loop
    have k1 : ∀ (f f' : Nat) (x : Int) (h1 : zHC) (m1 : zHM), RG h1 m1 → (∀ j, m1 14 j = hm 14 j) → F105 0 h1 = some C → (∀ y, 0 ≤ y → y < x → wand y (wxor C (-1)) = 0 → ∀ q, 0 ≤ q → q < hm 14 3 → h1 716 0 (y * 6 + q) = m1 25 (6 * y + q)) → RG hc m1 → 0 ≤ x → x ≤ 64 → 64 - x < f → 64 - x < f' → ∃ r hh mm, F107_0 f n k x h1 = some (r, hh) ∧ F250_0 f' n k C x m1 = some (r, mm) ∧ RG hh mm ∧ RG hc mm ∧ (k < -1 → r = -1) := by
      intro f
      induction f with
      | zero => intro f' x h1 m1 g e hC hb gg x0 x1 g1 g2; omega
      | succ f ih =>
        intro f' x h1 m1 g e hC hb gg x0 x1 g1 g2
        cases f' with
        | zero => omega
        | succ f' =>
          have ex : wadd x 1 = x + 1 := wadd_eq (by omega) (by omega)
          rw [F107_0, F250_0]
          by_cases u : 64 ≤ x
          · rw [if_pos u, if_pos (show C < x by omega)]
            obtain ⟨r, y1, y2, y3⟩ := k2 zFu zFu 0 0 h1 m1 g e hC (fun y y0 y1 => hb y y0 (by omega)) (by decide) (by decide) (by decide) (by decide) (by omega) (by omega)
            exact ⟨r, h1, m1, y1, y2, g, gg, y3⟩
          · rw [if_neg u, F104_s hC]
            simp only [Option.bind_some]
            unfold F107_2
            rw [ex]
            by_cases w : wand x (wxor C (-1)) = 0
            · obtain ⟨s1, s2⟩ := z_sub x0 (by omega) c3 c4 w
              rw [if_neg (show ¬ C < x by omega), if_neg (fun z => z w : ¬ ¬ wand x (wxor C (-1)) = 0)]
              simp only [if_pos w, z10]
              unfold F250_2
              rw [ex]
              obtain ⟨h2, h3, m3, d1, d2, d3, d4, d5, d6, d7, d8⟩ := P_set (x := x) (n := n) (C := C) g (by omega) x0 (by omega) hC c3 c4 (fun p p0 p1 => by rw [e, e]; exact c5' p p0 p1) w
              rw [d1, d3]
              simp only [Option.bind_some]
              rw [d2]
              simp only [Option.bind_some]
              have g' := RG_sc g d5 d6
              have e' : ∀ j, m3 14 j = hm 14 j := fun j => by rw [d6 14 j (by omega)]; exact e j
              refine ih f' (x + 1) h3 m3 g' e' (F105_keep g g' (fun j => by rw [e', e]) hC) (fun y y0 y1 y2 q q0 q1 => ?_) (RG_sc gg scC_refl d6) (by omega) (by omega) (by omega) (by omega)
              by_cases v : y = x
              · subst v
                obtain ⟨v, t1, t2, t3⟩ := d8 q q0 (by rw [e]; exact q1)
                rw [t2, t3]
              · obtain ⟨t1, t2⟩ := d7 (y * 6 + q) (by omega)
                have t3 := (d7 (6 * y + q) (by omega)).2
                rw [t1, t3]
                exact hb y y0 (by omega) y2 q q0 q1
            · simp only [if_neg w, z00]
              have hb' : ∀ y, 0 ≤ y → y < x + 1 → wand y (wxor C (-1)) = 0 → ∀ q, 0 ≤ q → q < hm 14 3 → h1 716 0 (y * 6 + q) = m1 25 (6 * y + q) := by
                intro y y0 y1 y2
                by_cases v : y = x
                · subst v; exact absurd y2 w
                · exact hb y y0 (by omega) y2
              by_cases v : C < x
              · obtain ⟨r, hh, mm, y1, y2, y3⟩ := ih (f' + 1) (x + 1) h1 m1 g e hC hb' gg (by omega) (by omega) (by omega) (by omega)
                refine ⟨r, hh, mm, y1, ?_, y3⟩
                rw [F250_0, if_pos (show C < x + 1 by omega)] at y2
                rw [if_pos v]
                exact y2
              · rw [if_neg v, if_pos w]
                unfold F250_2
                rw [ex]
                exact ih f' (x + 1) h1 m1 g e hC hb' gg (by omega) (by omega) (by omega) (by omega)
    obtain ⟨r, hh, mm, y1, y2, y3, y4, y5⟩ := k1 zFu zFu 0 hc _ h0 e14 c1 (fun y y0 y1 => by omega) h0 (by decide) (by decide) (by omega) (by omega)
    by_cases v : -1 ≤ k
    · rw [if_pos v]
      exact ⟨r, hh, mm, y1, y2, y3⟩
    · rw [if_neg v]
      exact ⟨-1, hc, mm, rfl, by rw [y2, y5 (by omega)], y4⟩
  · simp only [if_neg q3, z00, zn00]
    exact ⟨_, _, _, rfl, rfl, h0⟩
end
