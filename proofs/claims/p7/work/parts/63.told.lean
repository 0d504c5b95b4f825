/-! when, meets, tells, secret. -/
theorem F67_s {h : zHC} {i k w : Int} (k0 : 0 ≤ k) (k1 : k < 180) (w0 : 0 ≤ w) (w1 : w < 5) : F67 i k w h = some (h 71 i (k * 5 + w)) := by
  unfold F67
  rw [wmul_eq (by omega) (by omega), wadd_eq (x := k * 5) (by omega) (by omega), zG_t (by omega)]
theorem F65_01 {x p : Int} : F65 x p = some 0 ∨ F65 x p = some 1 := by
  unfold F65
  split
  · exact Or.inl rfl
  · exact Or.inr rfl
theorem C_when {hc : zHC} {hm : zHM} {p s n : Int} (h : RG hc hm) : ∃ r hc' hm', F115 p s n hc = some (r, hc') ∧ F256 p s n hm = some (r, hm') ∧ RG hc' hm' := by
  have w6 := RG_WN h
  unfold WN at w6
  have h0 := RG_0 (x := 0) h
  have big := zFu_big
  have e65 : hc 65 0 0 = hm 14 216 := by have := h.2.1.2.1.2.1; omega
  unfold F115 F256
  rw [E61 (RG_VN h).2.2.2.1, E210 (m := mset hm 0 0 0) (b := hm 14 3) (m0_ne (by decide)), E58 e65, E217 (m := mset hm 0 0 0) (b := hm 14 216) (m0_ne (by decide)), E188]
  simp only [Option.bind_some]
  by_cases q1 : 0 ≤ p ∧ p < hm 14 3
  · by_cases q2 : 0 ≤ s ∧ s < hm 14 216
    · simp only [if_pos q1, if_pos q2, z10]
      by_cases q3 : 1 ≤ n ∧ n ≤ 100
      · rw [if_neg (show ¬ n < 1 by omega), if_pos (show n ≤ 100 by omega)]
        simp only [if_pos q3, zn10]
        obtain ⟨h1, m1, a1, a2, a3, a4, a5, a6⟩ := A_beg h0
        rw [a1, a2]
        simp only [Option.bind_some]
        obtain ⟨r, h2, m2, b1, b2, b3, b4, b5⟩ := P_hours' (n := n) (by omega) a3
        rw [b1, b2]
        simp only [Option.bind_some]
        have hN1 := CW_n a3.2.2.2.2
        have hN2 := CW_n b3.2.2.2.2
        have hL := b3.2.2.2.1 rfl
        have hLW := b3.2.2.2.2.2.2.2.2.1
        have e66 : h2 66 0 0 = m1 14 997 := by rw [cfC_1 b4 _ _ _ (by omega), a4 _ _ _ (by omega), a6]; exact h0.2.1.2.2.1.1
        obtain ⟨m3, d1, d2, d3⟩ := A_end (mA_N a5 (mfD_N b5))
        have key : ∀ (k k' : Nat) (j : Int), 0 ≤ j → j ≤ m2 14 997 → m2 14 997 - j < k → m2 14 997 - j < k' → 0 < k → 0 < k' → ∃ r, F115_0 k p s j h2 = some (r, h2) ∧ F256_0 k' p s (-1) j m2 = some (r, m3) := by
          intro k
          induction k with
          | zero => intro k' j j0 j1 g1 g2 g3 g4; omega
          | succ k ih =>
            intro k' j j0 j1 g1 g2 g3 g4
            cases k' with
            | zero => omega
            | succ k' =>
              rw [F115_0, F256_0, hL.1]
              unfold F256_1
              by_cases e : m2 14 997 ≤ j
              · rw [if_pos e, if_pos e, d1]
                exact ⟨-1, rfl, rfl⟩
              · have lw := hLW j j0 (by omega)
                have ej : wadd j 1 = j + 1 := wadd_eq (by omega) (by omega)
                have l0 := hL.2 j j0 (by omega) 0 (by decide) (by decide)
                have l2 := hL.2 j j0 (by omega) 2 (by decide) (by decide)
                have l4 := hL.2 j j0 (by omega) 4 (by decide) (by decide)
                rw [if_neg e, if_neg e, if_neg (show ¬ ¬ (-1 : Int) = -1 from fun w => w rfl), F67_s j0 (by omega) (by decide) (by decide), F67_s j0 (by omega) (by decide) (by decide), F67_s j0 (by omega) (by decide) (by decide), l0, l2, l4, wmul_eq (by omega) (by omega), wadd_eq (x := 998) (by omega) (by omega), wadd_eq (x := 998 + 5 * j) (by omega) (by omega), wadd_eq (x := 998 + 5 * j) (by omega) (by omega), Int.add_zero, F214_s]
                simp (disch := omega) only [zG_t, Option.bind_some]
                unfold F115_1 F256_2
                rw [ej]
                by_cases q : m2 14 (998 + 5 * j) = s
                · rw [if_neg (fun w => w q : ¬ ¬ m2 14 (998 + 5 * j) = s), if_neg (fun w => w q : ¬ ¬ m2 14 (998 + 5 * j) = s)]
                  rcases F65_01 (x := m2 14 (998 + 5 * j + 4)) (p := p) with u | u
                  · rw [u]
                    simp only [Option.bind_some, z00]
                    exact ih k' (j + 1) (by omega) (by omega) (by omega) (by omega) (by omega) (by omega)
                  · rw [u]
                    simp only [Option.bind_some, z10]
                    refine ⟨_, rfl, ?_⟩
                    cases k' with
                    | zero => omega
                    | succ k' =>
                      rw [F256_0]
                      unfold F256_1
                      by_cases e2 : m2 14 997 ≤ j + 1
                      · rw [if_pos e2, d1]
                        rfl
                      · rw [if_neg e2, if_pos (show ¬ m2 14 (998 + 5 * j + 2) = -1 by omega), d1]
                        rfl
                · rw [if_pos q, if_pos q]
                  exact ih k' (j + 1) (by omega) (by omega) (by omega) (by omega) (by omega) (by omega)
        obtain ⟨q, e1, e2⟩ := key zFu zFu (m1 14 997) hN1.1 b5.1 (by omega) (by omega) (by omega) (by omega)
        rw [e66, e1, e2]
        exact ⟨q, h2, m3, rfl, rfl, RG_sc h0 (scC_1 a4 (cfC_1 b4)) d2⟩
      · simp only [if_neg q3, zn00]
        refine ⟨-1, hc, _, ?_, rfl, h0⟩
        by_cases u : n < 1
        · rw [if_pos u]
        · rw [if_neg u, if_neg (by omega)]
    · simp only [if_pos q1, if_neg q2, z10, z00]
      exact ⟨_, _, _, rfl, rfl, h0⟩
  · simp only [if_neg q1, z00]
    exact ⟨_, _, _, rfl, rfl, h0⟩
theorem C_meets {hc : zHC} {hm : zHM} {p q n : Int} (h : RG hc hm) : ∃ r hc' hm', F116 p q n hc = some (r, hc') ∧ F257 p q n hm = some (r, hm') ∧ RG hc' hm' := by
  have w6 := RG_WN h
  unfold WN at w6
  have h0 := RG_0 (x := 0) h
  have big := zFu_big
  unfold F116 F257
  rw [E61 (v := p) (RG_VN h).2.2.2.1, E210 (v := p) (m := mset hm 0 0 0) (b := hm 14 3) (m0_ne (by decide)), E61 (v := q) (RG_VN h).2.2.2.1, E210 (v := q) (m := mset hm 0 0 0) (b := hm 14 3) (m0_ne (by decide)), E99, E242]
  simp only [Option.bind_some]
  by_cases q1 : 0 ≤ p ∧ p < hm 14 3
  · by_cases q2 : 0 ≤ q ∧ q < hm 14 3
    · by_cases q3 : 1 ≤ n ∧ n ≤ 60
      · simp only [if_pos q1, if_pos q2, if_pos q3, z10, zn10]
        obtain ⟨h1, m1, a1, a2, a3, a35, a4, a5, a6⟩ := A_beg0 h0
        rw [a1, a2]
        simp only [Option.bind_some]
        obtain ⟨j1, j2, -, -, j5⟩ := a3
        obtain ⟨hN, hC, hP, hM, hF, hS, hQ, hVW⟩ := j1
        have ev : ∀ k, 0 ≤ k → k < 209 → m1 14 k = hm 14 k := fun k _ _ => by rw [a6, m0_ne (by decide)]
        have key : ∀ (k k' : Nat) (met t : Int) (h2 : zHC) (m2 : zHM), (∀ r n j, ¬ ((r = 64 ∨ r = 67) ∧ n = 1) → h2 r n j = h1 r n j) → (∀ r j, ¬ (r = 14 ∧ 209 ≤ j ∧ j < 216) → m2 r j = m1 r j) → h2 64 1 0 = m2 14 209 → 0 ≤ m2 14 209 → m2 14 209 ≤ 400 → RP h2 1 (m2 14) → 0 ≤ t → 0 ≤ met → met ≤ t → n - t < k → n - t < k' → 0 < k → 0 < k' → ∃ r hc' m3, F116_0 k p q n met t h2 = some (r, hc') ∧ F257_0 k' p q n met t m2 = some (r, m3) ∧ (∀ r n j, ¬ ((r = 64 ∨ r = 67) ∧ n = 1) → hc' r n j = h1 r n j) ∧ scM (mset hm 0 0 0) m3 := by
          intro k
          induction k with
          | zero => intro k' met t h2 m2 i1 i2 i3 i3a i3b i4 t0 mt0 mt1 g1 g2 g3 g4; omega
          | succ k ih =>
            intro k' met t h2 m2 i1 i2 i3 i3a i3b i4 t0 mt0 mt1 g1 g2 g3 g4
            cases k' with
            | zero => omega
            | succ k' =>
              obtain ⟨m3, d1, d2, d3⟩ := A_end (mA_N a5 (m2 := m2) (fun r j hne => i2 r j (by omega)))
              rw [F116_0, F257_0, i3]
              unfold F257_1
              by_cases e : n ≤ t
              · rw [if_pos e, if_pos e, d1]
                exact ⟨met, h2, m3, rfl, rfl, i1, d2⟩
              · rw [if_neg e, if_neg e]
                by_cases e2 : 400 ≤ m2 14 209
                · rw [if_pos e2, if_pos e2, d1]
                  exact ⟨met, h2, m3, rfl, rfl, i1, d2⟩
                · rw [if_neg e2, if_neg e2]
                  have EH : wadd (m2 14 209) 1 = m2 14 209 + 1 := wadd_eq (by omega) (by omega)
                  unfold F89
                  rw [i3, EH]
                  have a0 : ∀ k, 0 ≤ k → k < 209 → mset m2 14 209 (m2 14 209 + 1) 14 k = m1 14 k := fun k g0 g1 => by rw [mset_ne (by omega), i2 _ _ (by omega)]
                  have hVM0 : VM (hset h2 64 1 0 (m2 14 209 + 1)) 0 ((mset m2 14 209 (m2 14 209 + 1)) 14) := by
                    intro c g0 g1
                    rw [a0 4 (by decide) (by decide)] at g1
                    have e4 := ev 4 (by decide) (by decide)
                    rw [a0 _ (by omega) (by omega), a0 _ (by omega) (by omega), a0 _ (by omega) (by omega), hset_ne (by omega), hset_ne (by omega), hset_ne (by omega), i1 _ _ _ (by omega), i1 _ _ _ (by omega), i1 _ _ _ (by omega)]
                    exact hM c g0 g1
                  have hRP0 : RP (hset h2 64 1 0 (m2 14 209 + 1)) 1 ((mset m2 14 209 (m2 14 209 + 1)) 14) := by
                    intro c g0 g1
                    rw [mset_ne (by omega)] at g1
                    have e4 := ev 3 (by decide) (by decide)
                    have e5 := i2 14 3 (by omega)
                    rw [hset_ne (by omega), mset_ne (by omega)]
                    exact i4 c g0 g1
                  obtain ⟨h3, m4, z1, z2, z3, z4, z5⟩ := L_moves (v := 0) (i := 1) (st := 0) (H := m2 14 209 + 1) (nM := hm 14 4) (nP := hm 14 3) (by omega) (by omega) zFu zFu 0 (hset h2 64 1 0 (m2 14 209 + 1)) (mset m2 14 209 (m2 14 209 + 1)) (by rw [hset_ne (by omega), i1 _ _ _ (by omega), hN.2.2.2.2.1]; exact ev 4 (by decide) (by decide)) (by rw [a0 4 (by decide) (by decide)]; exact ev 4 (by decide) (by decide)) (by rw [a0 3 (by decide) (by decide)]; exact ev 3 (by decide) (by decide)) hset_eq hVM0 (VW_cong a0 hVW).2.2.2.1 hRP0 (by decide) (by omega) (by omega) (by omega)
                  have e65 : h3 65 1 0 = 0 := by rw [z4 _ _ _ (by omega), hset_ne (by omega), i1 _ _ _ (by omega)]; exact a35
                  have eF : F89_1 zFu 1 0 0 0 h3 = some h3 := by
                    have : zFu = (zFu - 1) + 1 := by omega
                    rw [this, F89_1, if_pos (by omega)]
                  unfold F237
                  rw [z1, eF, z2]
                  simp only [Option.bind_some]
                  have g3e : m4 14 3 = hm 14 3 := by rw [z5 _ _ (by omega), a0 3 (by decide) (by decide)]; exact ev 3 (by decide) (by decide)
                  obtain ⟨u1, u2, u3⟩ := z3 p q1.1 (by omega)
                  obtain ⟨v1, v2, v3⟩ := z3 q q2.1 (by omega)
                  rw [zG_t (by omega), zG_t (by omega), wadd_eq (x := 210) (y := p) (by omega) (by omega), wadd_eq (x := 210) (y := q) (by omega) (by omega), zG_t (by omega), zG_t (by omega), u1, v1]
                  unfold F116_1 F257_2
                  have et : wadd t 1 = t + 1 := wadd_eq (by omega) (by omega)
                  have em : wadd met 1 = met + 1 := wadd_eq (by omega) (by omega)
                  rw [et, em]
                  have f1 : ∀ r n j, ¬ ((r = 64 ∨ r = 67) ∧ n = 1) → h3 r n j = h1 r n j := fun r n j hne => by rw [z4 r n j (by omega), hset_ne (by omega)]; exact i1 r n j hne
                  have f2 : ∀ r j, ¬ (r = 14 ∧ 209 ≤ j ∧ j < 216) → m4 r j = m1 r j := fun r j hne => by rw [z5 r j (by omega), mset_ne (by omega)]; exact i2 r j hne
                  have f209 : m4 14 209 = m2 14 209 + 1 := by rw [z5 _ _ (by omega), mset_eq]
                  have f64 : h3 64 1 0 = m4 14 209 := by rw [z4 _ _ _ (by omega), hset_eq, f209]
                  by_cases w : m4 14 (210 + p) = m4 14 (210 + q)
                  · rw [if_neg (fun x => x w : ¬ ¬ m4 14 (210 + p) = m4 14 (210 + q)), if_neg (fun x => x w : ¬ ¬ m4 14 (210 + p) = m4 14 (210 + q))]
                    exact ih k' (met + 1) (t + 1) h3 m4 f1 f2 f64 (by omega) (by omega) z3 (by omega) (by omega) (by omega) (by omega) (by omega) (by omega) (by omega)
                  · rw [if_pos w, if_pos w]
                    exact ih k' met (t + 1) h3 m4 f1 f2 f64 (by omega) (by omega) z3 (by omega) (by omega) (by omega) (by omega) (by omega) (by omega) (by omega)
        obtain ⟨r, hc', m3, b1, b2, b3, b4⟩ := key zFu zFu 0 0 h1 m1 (fun _ _ _ _ => rfl) (fun _ _ _ => rfl) j2.1 j5.1.1 j5.1.2 j2.2.2.2.2.2.1 (by decide) (by decide) (by decide) (by omega) (by omega) (by omega) (by omega)
        rw [b1, b2]
        exact ⟨r, hc', m3, rfl, rfl, RG_sc h0 (scC_1 a4 (fun r n j hne => b3 r n j (by omega))) b4⟩
      · simp only [if_pos q1, if_pos q2, if_neg q3, z10, zn00]
        exact ⟨_, _, _, rfl, rfl, h0⟩
    · simp only [if_pos q1, if_neg q2, z10, z00]
      exact ⟨_, _, _, rfl, rfl, h0⟩
  · simp only [if_neg q1, z00]
    exact ⟨_, _, _, rfl, rfl, h0⟩
/-- one saying aside -/
theorem P_one {hc : zHC} {hm : zHM} {p x l n w : Int} (h : RG hc hm) (p0 : 0 ≤ p) (p1 : p < hm 14 3) (x0 : 0 ≤ x) (x1 : x < 100) (l0 : 1 ≤ l) (l1 : l ≤ 9) (n1 : n ≤ 1000) (hf : hm 14 216 < 30) (w0 : 0 ≤ w) (w1 : w < 8) : ∃ h' m1 m2 m3 m4 k r, F111 p x l n hc = some h' ∧ F63 1 0 w h' = some r ∧ F244 hm = some m1 ∧ F227 p 1 l (mset m1 14 (210 + p) x) = some (hm 14 216, m2) ∧ F235 n m2 = some (k, m3) ∧ F213 (hm 14 216) w m3 = some r ∧ F245 m3 = some m4 ∧ scC hc h' ∧ scM hm m4 ∧ (m1 14 (210 + p) = hm 14 (210 + p)) := by
  have w6 := RG_WN h
  unfold WN at w6
  have c34 := h.2.1.2.2.2.2.1
  obtain ⟨h1, m1, a1, a2, a3, a35, a4, a5, a6⟩ := A_beg0 h
  have hI := CI_place (p := p) (x := x) a3 p0 (by omega) x0 x1
  have e216 : (mset m1 14 (210 + p) x) 14 216 = hm 14 216 := by rw [mset_ne (by omega), a6]
  obtain ⟨h2, m2, b1, b2, b3, b4, b5, b6, b7, b8⟩ := P_says (p := p) (w := 1) (l := l) hI (by omega) p0 (by rw [mset_ne (by omega), a6]; exact p1) (by decide) (by decide) l0 l1
  have e65 : (hset h1 67 1 p x) 65 1 0 = 0 := by rw [hset_ne (by omega)]; exact a35
  rw [e216] at b2 b5
  rw [e65] at b1 b4
  obtain ⟨r, h3, m3, c1, c2, c3, c4, c5⟩ := P_hours' n1 b3
  have t1 := (c3.2.1.2.2.2.2.2.2 0 (by decide) (by rw [c4.2.1]; omega)).1 w w0 w1
  obtain ⟨m4, d1, d2, d3⟩ := A_end (mA_N a5 (m2 := m3) (fun r j hne => by rw [mfD_N c5 r j hne, mfE_N b8 r j hne, mset_ne (by omega)]))
  refine ⟨h3, m1, m2, m3, m4, r, m3 14 (217 + 8 * hm 14 216 + w), ?_, ?_, a2, b2, c2, F213_s c34.1 hf w0 w1, d1, scC_1 a4 (fun r n j hne => by rw [cfC_1 c4 r n j hne, b7 r n j (by omega), hset_ne (by omega)]), d2, a6 _⟩
  · unfold F111
    rw [a1]
    simp only [Option.bind_some]
    rw [zG_t (by omega), b1]
    simp only [Option.bind_some]
    rw [c1]
    rfl
  · rw [F63_s (by decide) (by decide) w0 w1, t1, show hm 14 216 + 0 = hm 14 216 by omega]
theorem wdec {l : Int} (h0 : 0 ≤ l) (h1 : l ≤ 1000) : wadd l (-1) = l - 1 := by
  rw [wadd_eq (by omega) (by omega)]
  rfl
theorem C_secret {hc : zHC} {hm : zHM} {p n : Int} (h : RG hc hm) : ∃ r hc' hm', F112 p n hc = some (r, hc') ∧ F253 p n hm = some (r, hm') ∧ RG hc' hm' := by
  have w6 := RG_WN h
  unfold WN at w6
  have h0 := RG_0 (x := 0) h
  have big := zFu_big
  have e65 : hc 65 0 0 = hm 14 216 := by have := h.2.1.2.1.2.1; omega
  have c34 := h.2.1.2.2.2.2.1
  unfold F112 F253
  rw [E61 (RG_VN h).2.2.2.1, E210 (m := mset hm 0 0 0) (b := hm 14 3) (m0_ne (by decide)), E99, E242]
  simp only [Option.bind_some]
  by_cases q1 : 0 ≤ p ∧ p < hm 14 3
  · by_cases q3 : 1 ≤ n ∧ n ≤ 60
    · simp only [if_pos q1, if_pos q3, z10]
      unfold F75
      rw [e65]
      by_cases q4 : hm 14 216 < 30
      · rw [if_pos q4, if_pos (show ¬ hm 14 216 = 30 by omega)]
        simp only [Option.bind_some, z00]
        have key : ∀ (k k' : Nat) (l : Int) (h1 : zHC) (m1 : zHM), RG h1 m1 → (∀ j, m1 14 j = hm 14 j) → l ≤ 9 → 0 ≤ l → l < k → l < k' → ∃ r hc' hm', F112_0 k p n l h1 = some (r, hc') ∧ F253_0 k' p n l m1 = some (r, hm') ∧ RG hc' hm' := by
          intro k
          induction k with
          | zero => intro k' l h1 m1 g e l1 l0 g1 g2; omega
          | succ k ih =>
            intro k' l h1 m1 g e l1 l0 g1 g2
            cases k' with
            | zero => omega
            | succ k' =>
              rw [F112_0, F253_0]
              by_cases u : l ≤ 0
              · rw [if_pos u, if_pos u]
                exact ⟨_, _, _, rfl, rfl, g⟩
              · have l2 : 1 ≤ l := by omega
                obtain ⟨x0, x1, x2⟩ := g.2.1.2.1.2.2.2.2.2.1 p q1.1 (by rw [e]; exact q1.2)
                obtain ⟨h', m2, m3, m4, m5, t, r, b1, b2, b3, b4, b5, b6, b7, b8, b9, b10⟩ := P_one (p := p) (x := m1 14 (210 + p)) (l := l) (n := n) (w := 7) g q1.1 (by rw [e]; exact q1.2) x1 x2 l2 l1 (by omega) (by rw [e]; exact q4) (by decide) (by decide)
                have em : mset m2 14 (210 + p) (m1 14 (210 + p)) = m2 := by
                  funext r j
                  by_cases u : r = 14 ∧ j = 210 + p
                  · obtain ⟨u1, u2⟩ := u
                    subst u1 u2
                    rw [mset_eq, b10]
                  · exact mset_ne u
                rw [em] at b4
                rw [if_neg u, if_neg u, zG_t (by omega), x0, b1, b3]
                simp only [Option.bind_some]
                rw [b2, b4]
                simp only [Option.bind_some]
                rw [b5]
                simp only [Option.bind_some]
                rw [b6]
                simp only [Option.bind_some]
                unfold F253_1
                rw [b7, wdec l0 (Int.le_trans l1 (by decide))]
                simp only [Option.bind_some]
                have g' := RG_sc g b8 b9
                by_cases w : r = 0
                · rw [if_neg (fun x => x w : ¬ ¬ r = 0), if_neg (fun x => x w : ¬ ¬ r = 0), if_neg (show ¬ (1 : Int) = 0 by decide)]
                  exact ⟨_, _, _, rfl, rfl, g'⟩
                · rw [if_pos w, if_pos w, if_pos trivial]
                  exact ih k' (l - 1) h' m5 g' (fun j => by rw [b9 14 j (by omega)]; exact e j) (by omega) (by omega) (by omega) (by omega)
        exact key zFu zFu 9 hc _ h0 (fun j => m0_ne (by decide)) (by decide) (by decide) (by omega) (by omega)
      · rw [if_neg q4, if_neg (show ¬ ¬ hm 14 216 = 30 by omega)]
        simp only [Option.bind_some, z10]
        exact ⟨_, _, _, rfl, rfl, h0⟩
    · simp only [if_pos q1, if_neg q3, z10, z00]
      exact ⟨_, _, _, rfl, rfl, h0⟩
  · simp only [if_neg q1, z00]
    exact ⟨_, _, _, rfl, rfl, h0⟩
theorem C_tells {hc : zHC} {hm : zHM} {p q l n k : Int} (h : RG hc hm) : ∃ r hc' hm', F110 p q l n k hc = some (r, hc') ∧ F252 p q l n k hm = some (r, hm') ∧ RG hc' hm' := by
  have w6 := RG_WN h
  unfold WN at w6
  have h0 := RG_0 (x := 0) h
  have big := zFu_big
  have e65 : hc 65 0 0 = hm 14 216 := by have := h.2.1.2.1.2.1; omega
  have c34 := h.2.1.2.2.2.2.1
  unfold F110 F252
  rw [E61 (v := p) (RG_VN h).2.2.2.1, E210 (v := p) (m := mset hm 0 0 0) (b := hm 14 3) (m0_ne (by decide)), E61 (v := q) (RG_VN h).2.2.2.1, E210 (v := q) (m := mset hm 0 0 0) (b := hm 14 3) (m0_ne (by decide)), E99, E242, E74, E188]
  simp only [Option.bind_some]
  by_cases q1 : 0 ≤ p ∧ p < hm 14 3
  · by_cases q2 : 0 ≤ q ∧ q < hm 14 3
    · simp only [if_pos q1, if_pos q2, z10]
      by_cases pq : p = q
      · rw [if_pos pq, if_pos pq]
        exact ⟨_, _, _, rfl, rfl, h0⟩
      · rw [if_neg pq, if_neg pq]
        by_cases ql : 1 ≤ l ∧ l ≤ 9
        · by_cases q3 : 1 ≤ n ∧ n ≤ 60
          · simp only [if_pos ql, if_pos q3, z10]
            unfold F75
            rw [e65]
            by_cases q4 : hm 14 216 < 30
            · rw [if_pos q4, if_pos (show ¬ hm 14 216 = 30 by omega)]
              simp only [Option.bind_some, z00]
              have key : ∀ (f f' : Nat) (many x : Int) (h1 : zHC) (m1 : zHM), RG h1 m1 → (∀ j, m1 14 j = hm 14 j) → 0 ≤ x → x ≤ 100 → 0 ≤ many → many ≤ x → 100 - x < f → 100 - x < f' → ∃ r hc' hm', F110_0 f p q l n k many x h1 = some (r, hc') ∧ F252_0 f' p q l n k many x m1 = some (r, hm') ∧ RG hc' hm' ∧ (k < -1 → r = -1 ∧ RG h1 hm') := by
                intro f
                induction f with
                | zero => intro f' many x h1 m1 g e x0 x1 n0 n1 g1 g2; omega
                | succ f ih =>
                  intro f' many x h1 m1 g e x0 x1 n0 n1 g1 g2
                  cases f' with
                  | zero => omega
                  | succ f' =>
                    rw [F110_0, F252_0]
                    by_cases u : 100 ≤ x
                    · rw [if_pos u, if_pos u]
                      by_cases v : k = -1
                      · rw [if_neg (fun z => z v : ¬ ¬ k = -1), if_neg (fun z => z v : ¬ ¬ k = -1)]
                        exact ⟨_, _, _, rfl, rfl, g, fun z => by omega⟩
                      · rw [if_pos v, if_pos v]
                        exact ⟨_, _, _, rfl, rfl, g, fun z => ⟨rfl, g⟩⟩
                    · have ex : wadd x 1 = x + 1 := wadd_eq (by omega) (by omega)
                      have em : wadd many 1 = many + 1 := wadd_eq (by omega) (by omega)
                      rw [if_neg u, if_neg u, E69 (RG_VN g), E224 (m := m1) (a := m1 14) rfl rfl]
                      simp only [Option.bind_some]
                      unfold F110_1 F252_1 F252_2
                      rw [ex, em]
                      by_cases qc : zCell (m1 14) x
                      · simp only [if_pos qc, z10, zn10]
                        obtain ⟨h', m2, m3, m4, m5, t, r, b1, b2, b3, b4, b5, b6, b7, b8, b9, b10⟩ := P_one (p := p) (x := x) (l := l) (n := n) (w := 5) g q1.1 (by rw [e]; exact q1.2) x0 (by omega) ql.1 ql.2 (by omega) (by rw [e]; exact q4) (by decide) (by decide)
                        rw [b1, b3]
                        simp only [Option.bind_some]
                        rw [b2, wadd_eq (x := 210) (by omega) (by omega), zG_t (by omega), b4]
                        simp only [Option.bind_some]
                        rw [b5]
                        simp only [Option.bind_some]
                        rw [b6]
                        simp only [Option.bind_some]
                        rw [b7]
                        simp only [Option.bind_some]
                        have g' := RG_sc g b8 b9
                        have e' : ∀ j, m5 14 j = hm 14 j := fun j => by rw [b9 14 j (by omega)]; exact e j
                        have back : ∀ mm x', (k < -1 → x' = (-1 : Int) ∧ RG h' mm) → (k < -1 → x' = (-1 : Int) ∧ RG h1 mm) := fun mm x' hh z => ⟨(hh z).1, RG_sc (hh z).2 (fun r n j hne => (b8 r n j hne).symm) scM_refl⟩
                        by_cases w : r = wshl 1 q
                        · rw [if_neg (fun z => z w : ¬ ¬ r = wshl 1 q), if_neg (fun z => z w : ¬ ¬ r = wshl 1 q)]
                          by_cases w2 : many = k
                          · rw [if_neg (fun z => z w2 : ¬ ¬ many = k), if_neg (fun z => z w2 : ¬ ¬ many = k)]
                            exact ⟨_, _, _, rfl, rfl, g', fun z => by omega⟩
                          · rw [if_pos w2, if_pos w2]
                            obtain ⟨r', hh, mm, y1, y2, y3, y4⟩ := ih f' (many + 1) (x + 1) h' m5 g' e' (by omega) (by omega) (by omega) (by omega) (by omega) (by omega)
                            exact ⟨r', hh, mm, y1, y2, y3, back mm r' y4⟩
                        · rw [if_pos w, if_pos w, if_neg (fun z => z trivial)]
                          obtain ⟨r', hh, mm, y1, y2, y3, y4⟩ := ih f' many (x + 1) h' m5 g' e' (by omega) (by omega) (by omega) (by omega) (by omega) (by omega)
                          exact ⟨r', hh, mm, y1, y2, y3, back mm r' y4⟩
                      · simp only [if_neg qc, z00, zn00]
                        exact ih f' many (x + 1) h1 m1 g e (by omega) (by omega) (by omega) (by omega) (by omega) (by omega)
              obtain ⟨r, hh, mm, y1, y2, y3, y4⟩ := key zFu zFu 0 0 hc _ h0 (fun j => m0_ne (by decide)) (by decide) (by decide) (by decide) (by decide) (by omega) (by omega)
              by_cases qk : k < -1
              · rw [if_pos qk]
                exact ⟨-1, hc, mm, rfl, by rw [y2, (y4 qk).1], (y4 qk).2⟩
              · rw [if_neg qk]
                exact ⟨r, hh, mm, y1, y2, y3⟩
            · rw [if_neg q4, if_neg (show ¬ ¬ hm 14 216 = 30 by omega)]
              simp only [Option.bind_some, z10]
              refine ⟨-1, hc, _, ?_, rfl, h0⟩
              split <;> rfl
          · simp only [if_pos ql, if_neg q3, z10, z00]
            exact ⟨_, _, _, rfl, rfl, h0⟩
        · simp only [if_neg ql, z00]
          exact ⟨_, _, _, rfl, rfl, h0⟩
    · simp only [if_pos q1, if_neg q2, z10, z00]
      exact ⟨_, _, _, rfl, rfl, h0⟩
  · simp only [if_neg q1, z00]
    exact ⟨_, _, _, rfl, rfl, h0⟩
