/-! Acts. -/
theorem CI_place {h : zHC} {m : zHM} {i v σ p x : Int} {nm : Int → Int} (hI : CI h m i v σ nm) (p0 : 0 ≤ p) (p1 : p < 6) (x0 : 0 ≤ x) (x1 : x < 100) : CI (hset h 67 i p x) (mset m 14 (210 + p) x) i v σ nm := by
  obtain ⟨hV, ⟨r1, r2, r3, r4, r5, r6, r7⟩, hE, hL, hW⟩ := hI
  obtain ⟨n0, n1, hq⟩ := CW_n hW
  obtain ⟨⟨c1, c2⟩, ⟨c3, c4⟩, c5, c6, c7⟩ := hW
  have fm : ∀ r j, ¬ (r = 14 ∧ j = 210 + p) → (mset m 14 (210 + p) x) r j = m r j := fun r j hne => mset_ne (by omega)
  have fc : ∀ r n j, ¬ (r = 67 ∧ n = i) → (hset h 67 i p x) r n j = h r n j := fun r n j hne => hset_ne (by omega)
  have e3 := fm 14 3 (by omega)
  have e209 := fm 14 209 (by omega)
  have e216 := fm 14 216 (by omega)
  have e997 := fm 14 997 (by omega)
  have e2 := fm 14 2 (by omega)
  refine ⟨VR_keep (fun r j g0 g1 => fc r v j (by omega)) (fun k g0 g1 => fm _ _ (by omega)) (fun _ _ _ => rfl) hV, ⟨by rw [fc _ _ _ (by omega), e209]; exact r1, by rw [fc _ _ _ (by omega), e216]; exact r2, r3, by rw [fc _ _ _ (by omega)]; exact r4, by rw [fc _ _ _ (by omega)]; exact r5, ?_, ?_⟩, by rw [fc _ _ _ (by omega), e997]; exact hE, fun s0 => ?_, ⟨by rw [e209]; exact ⟨c1, c2⟩, by rw [e216]; exact ⟨c3, c4⟩, ?_, ?_⟩⟩
  · intro q g0 g1
    rw [e3] at g1
    by_cases u : q = p
    · subst u
      rw [hset_eq, mset_eq]
      exact ⟨rfl, x0, x1⟩
    · rw [hset_ne (by omega), mset_ne (by omega)]
      exact r6 q g0 g1
  · intro k g0 g1
    rw [fc _ _ _ (by omega)] at g1
    obtain ⟨t1, t2, t3⟩ := r7 k g0 g1
    rw [e209]
    refine ⟨?_, ?_, ?_⟩
    · intro w w0 w1
      rw [fc _ _ _ (by omega), fm _ _ (by omega)]
      exact t1 w w0 w1
    · intro c q0 q1
      rw [fc _ _ _ (by omega), fc _ _ _ (by omega), fm _ _ (by omega), fm _ _ (by omega)]
      exact t2 c q0 q1
    · refine ⟨fun c q0 q1 => ?_, ?_⟩
      · rw [fc _ _ _ (by omega), fc _ _ _ (by omega)]
        exact t3.1 c q0 q1
      · rw [fc 72 _ _ (by omega)]
        rcases t3.2 with y | ⟨c, y1, y2, y3, y4⟩
        · exact Or.inl y
        · exact Or.inr ⟨c, y1, y2, by rw [fc _ _ _ (by omega)]; exact y3, y4⟩
  · obtain ⟨y1, y2⟩ := hL s0
    refine ⟨by rw [fc _ _ _ (by omega), e997]; exact y1, fun j j0 j1 w w0 w1 => ?_⟩
    rw [e997] at j1
    rw [fc _ _ _ (by omega), fm _ _ (by omega)]
    exact y2 j j0 j1 w w0 w1
  · intro s g0 g1
    rw [e216] at g1
    rw [e209]
    obtain ⟨t1, t2⟩ := c5 s g0 g1
    refine ⟨?_, ?_⟩
    · intro c q0 q1
      rw [fm _ (457 + 18 * s + 3 * c) (by omega), fm _ (457 + 18 * s + 3 * c + 1) (by omega), fm _ (457 + 18 * s + 3 * c + 2) (by omega), e2]
      exact t1 c q0 q1
    · unfold SF at *
      rw [fm _ (217 + 8 * s) (by omega), fm _ (217 + 8 * s + 1) (by omega), fm _ (217 + 8 * s + 2) (by omega), fm _ (217 + 8 * s + 3) (by omega), fm _ (217 + 8 * s + 4) (by omega), fm _ (217 + 8 * s + 5) (by omega), fm _ (217 + 8 * s + 6) (by omega), fm _ (217 + 8 * s + 7) (by omega), fm _ (457 + 18 * s + 3 * 0 + 2) (by omega), fm _ (457 + 18 * s + 3 * 1 + 2) (by omega), fm _ (457 + 18 * s + 3 * 2 + 2) (by omega), fm _ (457 + 18 * s + 3 * 3 + 2) (by omega), fm _ (457 + 18 * s + 3 * 4 + 2) (by omega), fm _ (457 + 18 * s + 3 * 5 + 2) (by omega)]
      exact t2
  · have := EQ_cong (a := m 14) (a' := (mset m 14 (210 + p) x) 14) e216 e2 e997 (fun s g0 g1 => fm _ _ (by omega)) (fun j g0 g1 => fm _ _ (by omega)) hq
    exact ⟨this.1, this.2.1⟩
/-- the present course after an act, and all else -/
theorem RG_act {hc h1 hc' : zHC} {hm m1 hm' : zHM} (h : RG hc hm) (hU : RUn h1 m1) (f1 : ∀ r n j, ¬ ((64 ≤ r ∧ r ≤ 72 ∧ 2 ≤ n ∧ n ≤ 9) ∨ r = 512 ∨ r = 513) → h1 r n j = hc r n j) (f2 : ∀ r j, ¬ (r = 0 ∨ r = 17 ∨ r = 23) → m1 r j = hm r j) (hI : CI hc' hm' 0 0 0 (hm 19)) (f3 : ∀ r n j, ¬ ((n = 0 ∧ 64 ≤ r ∧ r ≤ 72) ∨ (128 ≤ r ∧ r ≤ 130)) → hc' r n j = h1 r n j) (f4 : ∀ r j, ¬ ((r = 14 ∧ 209 ≤ j ∧ j < 1898) ∨ (38 ≤ r ∧ r ≤ 40)) → hm' r j = m1 r j) : RG hc' hm' := by
  have e19 : ∀ k, hm' 19 k = hm 19 k := fun k => by rw [f4 _ _ (by omega), f2 _ _ (by omega)]
  have hV : RVC hc' hm' := ⟨VR_keep (fun _ _ _ _ => rfl) (fun _ _ _ => rfl) (fun k _ _ => e19 k) hI.1, CI_CR hI⟩
  have e3 : m1 14 3 ≤ 6 := by rw [f2 _ _ (by omega)]; exact VR_n h.2.1.1
  exact RG_crs h (fun r n j hne => by rw [f3 r n j (by omega), f1 r n j (by omega)]) (fun r j hne => by rw [f4 r j (by omega), f2 r j (by omega)]) hV (RUn_keep (fun r n j g => f3 r n j (by omega)) (fun j g0 g1 => f4 14 j (by omega)) (fun r j g => f4 r j (by omega)) e3 hU)
theorem RVC_CI {hc : zHC} {hm : zHM} (h : RVC hc hm) : CI hc hm 0 0 0 (hm 19) := CR_CI h.1 h.2
theorem C_goes {hc : zHC} {hm : zHM} {p x : Int} (h : RG hc hm) (hx : zR32 x) : ∃ r hc' hm', F68 p x hc = some (r, hc') ∧ F223 p x hm = some (r, hm') ∧ RG hc' hm' := by
  have w6 := RG_WN h
  unfold WN at w6
  have h0 := RG_0 (x := 0) h
  unfold F68 F223
  rw [E61 (RG_VN h).2.2.2.1, E210 (m := mset hm 0 0 0) (b := hm 14 3) (m0_ne (by decide)), E69 (RG_VN h), E224 (m := mset hm 0 0 0) (a := hm 14) (m0_ne (by decide)) (m0_ne (by decide))]
  simp only [Option.bind_some]
  by_cases q1 : 0 ≤ p ∧ p < hm 14 3
  · by_cases q2 : zCell (hm 14) x
    · simp only [if_pos q1, if_pos q2, z10, zn10]
      obtain ⟨h1, m1, z1, z2, z3, z4, z5, z6⟩ := P_keep h0.2.1 h0.2.2.1
      rw [z1, z2]
      simp only [Option.bind_some]
      rw [zG_t (by omega), wadd_eq (by omega) (by omega), zG_t (by omega)]
      have hI := CI_place (p := p) (x := x) (RVC_CI z3) q1.1 (by omega) q2.1 (zCell_lt q2 hx.2 (by omega))
      have e19 : m1 19 = hm 19 := by funext k; rw [z6 _ _ (by omega), m0_ne (by decide)]
      rw [e19] at hI
      refine ⟨_, _, _, rfl, rfl, RG_act h z4 z5 (fun r j hne => by rw [z6 r j (by omega), mset_ne (by omega)]) hI (fun r n j hne => hset_ne (by omega)) (fun r j hne => mset_ne (by omega))⟩
    · simp only [if_pos q1, if_neg q2, z10, z00, zn00]
      exact ⟨_, _, _, rfl, rfl, h0⟩
  · simp only [if_neg q1, z00]
    exact ⟨_, _, _, rfl, rfl, h0⟩
theorem C_says {hc : zHC} {hm : zHM} {p w l : Int} (h : RG hc hm) : ∃ r hc' hm', F73 p w l hc = some (r, hc') ∧ F226 p w l hm = some (r, hm') ∧ RG hc' hm' := by
  have w6 := RG_WN h
  unfold WN at w6
  have h0 := RG_0 (x := 0) h
  have e65 : hc 65 0 0 = hm 14 216 := by have := h.2.1.2.1.2.1; omega
  have c34 := h.2.1.2.2.2.2.1
  unfold F73 F226
  rw [E61 (RG_VN h).2.2.2.1, E210 (m := mset hm 0 0 0) (b := hm 14 3) (m0_ne (by decide)), E74, E188, E188]
  simp only [Option.bind_some]
  by_cases q1 : 0 ≤ p ∧ p < hm 14 3
  · simp only [if_pos q1, z10]
    by_cases q2 : 1 ≤ l ∧ l ≤ 9
    · simp only [if_pos q2, z10]
      by_cases q3 : 1 ≤ w ∧ w ≤ 99
      · rw [if_neg (show ¬ w < 1 by omega), if_neg (show ¬ 99 < w by omega)]
        simp only [if_pos q3, z10]
        unfold F75
        rw [e65]
        by_cases q4 : hm 14 216 < 30
        · rw [if_pos q4, if_pos (show ¬ hm 14 216 = 30 by omega)]
          simp only [Option.bind_some, z00]
          obtain ⟨h1, m1, z1, z2, z3, z4, z5, z6⟩ := P_keep h0.2.1 h0.2.2.1
          rw [z1, z2]
          simp only [Option.bind_some]
          have e216 : m1 14 216 = hm 14 216 := by rw [z6 _ _ (by omega), m0_ne (by decide)]
          obtain ⟨h2, m2, y1, y2, y3, y4, y5, y6, y7, y8⟩ := P_says (p := p) (w := w) (l := l) (RVC_CI z3) (by omega) q1.1 (by rw [z6 _ _ (by omega), m0_ne (by decide)]; exact q1.2) q3.1 q3.2 q2.1 q2.2
          have e19 : m1 19 = hm 19 := by funext k; rw [z6 _ _ (by omega), m0_ne (by decide)]
          rw [e19] at y3
          rw [y1, y2]
          have e1 : h1 65 0 0 = m1 14 216 := by have := z3.2.1.2.1; omega
          refine ⟨m1 14 216, h2, m2, by rw [← e1]; rfl, rfl, RG_act h z4 z5 (fun r j hne => by rw [z6 r j (by omega), mset_ne (by omega)]) y3 (fun r n j hne => y7 r n j (by omega)) (fun r j hne => y8 r j (by omega))⟩
        · rw [if_neg q4, if_neg (show ¬ ¬ hm 14 216 = 30 by omega)]
          simp only [Option.bind_some, z10]
          exact ⟨_, _, _, rfl, rfl, h0⟩
      · simp only [if_neg q3, z00]
        refine ⟨-1, _, _, ?_, rfl, h0⟩
        by_cases u : w < 1
        · rw [if_pos u]
        · rw [if_neg u, if_pos (by omega)]
    · simp only [if_neg q2, z00]
      refine ⟨-1, _, mset hm 0 0 0, rfl, ?_, h0⟩
      split <;> rfl
  · simp only [if_neg q1, z00]
    exact ⟨_, _, _, rfl, rfl, h0⟩
theorem C_on {hc : zHC} {hm : zHM} {n : Int} (h : RG hc hm) : ∃ r hc' hm', F87 n hc = some (r, hc') ∧ F234 n hm = some (r, hm') ∧ RG hc' hm' := by
  have h0 := RG_0 (x := 0) h
  have e64 := h.2.1.2.1.1
  have c12 := h.2.1.2.2.2.1
  unfold F87 F234
  rw [E188, e64]
  simp only [Option.bind_some]
  by_cases q1 : 1 ≤ n ∧ n ≤ 100
  · rw [if_neg (show ¬ n < 1 by omega), if_pos (show n ≤ 100 by omega)]
    simp only [if_pos q1, zn10]
    by_cases q4 : hm 14 209 < 400
    · rw [if_pos q4, if_pos (show ¬ hm 14 209 = 400 by omega)]
      obtain ⟨h1, m1, z1, z2, z3, z4, z5, z6⟩ := P_keep h0.2.1 h0.2.2.1
      rw [z1, z2]
      simp only [Option.bind_some]
      obtain ⟨r, h2, m2, y1, y2, y3, y4, y5⟩ := P_hours' (n := n) (by omega) (RVC_CI z3)
      have e19 : m1 19 = hm 19 := by funext k; rw [z6 _ _ (by omega), m0_ne (by decide)]
      rw [e19] at y3
      rw [y1, y2]
      exact ⟨r, h2, m2, rfl, rfl, RG_act h z4 z5 (fun r j hne => by rw [z6 r j (by omega), mset_ne (by omega)]) y3 (fun r n j hne => y4.2.2 r n j (by omega)) (fun r j hne => y5.2.2 r j (by omega))⟩
    · rw [if_neg q4, if_neg (show ¬ ¬ hm 14 209 = 400 by omega)]
      exact ⟨_, _, _, rfl, rfl, h0⟩
  · simp only [if_neg q1, zn00]
    refine ⟨-1, hc, mset hm 0 0 0, ?_, rfl, h0⟩
    by_cases u : n < 1
    · rw [if_pos u]
    · rw [if_neg u, if_neg (by omega)]
theorem C_poorest {hc : zHC} {hm : zHM} {w : Int} (h : RG hc hm) : ∃ r hm', F139 w hc = some r ∧ F275 w hm = some (r, hm') ∧ RG hc hm' := by
  have w6 := RG_WN h
  unfold WN at w6
  have h0 := RG_0 (x := 0) h
  have big := zFu_big
  have hR : CR hc 0 ((mset hm 0 0 0) 14) := h0.2.1.2
  have e3 : hc 579 0 0 = hm 14 3 := (RG_VN h).2.2.2.1
  have key : ∀ (sg : Int), (sg = 1 ∧ ¬ w = 1 ∨ sg = -1 ∧ w = 1) → ∀ (n n' : Nat) (p best le : Int), 0 ≤ p → p ≤ hm 14 3 → hm 14 3 - p < n → hm 14 3 - p < n' → (best = -1 ∨ (0 ≤ best ∧ best < p ∧ ∃ v, F211 best (mset hm 0 0 0) = some v ∧ le = sg * v ∧ 0 ≤ v ∧ v ≤ 3000)) → ∃ r, F139_1 hc n sg best le p = some r ∧ F275_0 n' w best p (mset hm 0 0 0) = some (r, mset hm 0 0 0) := by
    intro sg hsg n
    induction n with
    | zero => intro n' p best le p0 p1 g1 g2; omega
    | succ n ih =>
      intro n' p best le p0 p1 g1 g2 hb
      cases n' with
      | zero => omega
      | succ n' =>
        rw [F139_1, F275_0, e3, m0_ne (show (14 : Nat) ≠ 0 by decide)]
        by_cases e : p = hm 14 3
        · rw [if_pos (by omega), if_pos (by omega)]
          exact ⟨best, rfl, rfl⟩
        · have hp : ¬ hm 14 3 ≤ p := by omega
          obtain ⟨v, a1, a2, a3, a4⟩ := L101 (h := hc) (m := mset hm 0 0 0) (i := 0) (p := p) p0 (by omega) hR
          have es : wmul sg v = sg * v := by
            rcases hsg with ⟨u, -⟩ | ⟨u, -⟩ <;> subst u <;> exact wmul_eq (by omega) (by omega)
          have ep : wadd p 1 = p + 1 := wadd_eq (by omega) (by omega)
          rw [if_neg hp, if_neg hp, a1]
          simp only [Option.bind_some]
          rw [es]
          have next : ∀ b l, (b = -1 ∨ (0 ≤ b ∧ b < p + 1 ∧ ∃ v, F211 b (mset hm 0 0 0) = some v ∧ l = sg * v ∧ 0 ≤ v ∧ v ≤ 3000)) → ∃ r, F139_1 hc n sg b l (p + 1) = some r ∧ F275_0 n' w b (p + 1) (mset hm 0 0 0) = some (r, mset hm 0 0 0) := fun b l hb => ih n' (p + 1) b l (by omega) (by omega) (by omega) (by omega) hb
          have nw := next p (sg * v) (Or.inr ⟨p0, by omega, v, a2, rfl, a3, a4⟩)
          by_cases q1 : best = -1
          · rw [if_pos q1, if_pos q1]
            unfold F139_2 F139_3 F275_1 F275_2
            rw [ep]
            exact nw
          · rw [if_neg q1, if_neg q1]
            rcases hb with hb | ⟨b0, b1, v', b2, b3, b4, b5⟩
            · exact absurd hb q1
            · have st := next best le (Or.inr ⟨b0, by omega, v', b2, b3, b4, b5⟩)
              rw [a2, b2]
              simp only [Option.bind_some]
              unfold F139_2 F139_3 F275_1 F275_2
              rw [ep]
              rcases hsg with ⟨u, u2⟩ | ⟨u, u2⟩
              · subst u
                rw [if_pos (show ¬ w = 1 from u2)]
                by_cases q2 : v' ≤ v
                · rw [if_pos (by omega), if_pos q2]
                  exact st
                · rw [if_neg (by omega), if_neg q2]
                  exact nw
              · subst u
                rw [if_neg (show ¬ ¬ w = 1 from fun x => x u2)]
                by_cases q2 : v ≤ v'
                · rw [if_pos (by omega), if_pos q2]
                  exact st
                · rw [if_neg (by omega), if_neg q2]
                  exact nw
  unfold F139 F275 F139_0
  rw [E188]
  simp only [Option.bind_some]
  by_cases q1 : 0 ≤ w ∧ w ≤ 1
  · rw [if_neg (show ¬ w < 0 by omega), if_pos (show w ≤ 1 by omega)]
    simp only [if_pos q1, zn10]
    by_cases q2 : w = 1
    · rw [if_neg (fun x => x q2)]
      obtain ⟨r, e1, e2⟩ := key (-1) (Or.inr ⟨rfl, q2⟩) zFu zFu 0 (-1) 0 (by decide) (by omega) (by omega) (by omega) (Or.inl rfl)
      exact ⟨r, _, e1, e2, h0⟩
    · rw [if_pos q2]
      obtain ⟨r, e1, e2⟩ := key 1 (Or.inl ⟨rfl, q2⟩) zFu zFu 0 (-1) 0 (by decide) (by omega) (by omega) (by omega) (Or.inl rfl)
      exact ⟨r, _, e1, e2, h0⟩
  · simp only [if_neg q1, zn00]
    refine ⟨-1, _, ?_, rfl, h0⟩
    by_cases u : w < 0
    · rw [if_pos u]
    · rw [if_neg u, if_neg (by omega)]
theorem F259_s {m : zHM} {c x l : Int} (hW : WC (m 14)) (h6 : m 14 2 ≤ 6) (c0 : 0 ≤ c) (c1 : c < m 14 2) (x0 : 0 ≤ x) (x1 : x < 100) (l0 : 0 ≤ l) (l1 : l ≤ 9) : F259 c x l m = some (zDir (m 14) c x l) := by
  obtain ⟨w1, w2, -⟩ := hW c c0 c1
  have zr := zD_rng w1 w2 x0 x1
  unfold F259 zDir
  by_cases q : l ≤ 0
  · rw [if_pos q, if_pos (by omega)]
  · rw [if_neg q, if_neg (by omega), F229_s c0 (by omega)]
    simp only [Option.bind_some]
    rw [F230_s x0 x1 w1 w2]
    simp only [Option.bind_some]
    rw [zD_comm (a := x), wdiv_eq (by omega) (by omega) (by decide) (by decide), wsub_eq (by omega) (by omega)]
    split <;> rfl
theorem C_reach {hc : zHC} {hm : zHM} {x l : Int} (h : RG hc hm) (hx : zR32 x) : ∃ r hm', F140 x l hc = some r ∧ F260 x l hm = some (r, hm') ∧ RG hc hm' := by
  have w6 := RG_WN h
  unfold WN at w6
  have h0 := RG_0 (x := 0) h
  have big := zFu_big
  obtain ⟨hN, hC, hP, hM, hF, hS, hQ, hVW⟩ := id h0.2.1.1
  unfold F140 F260
  rw [E69 (RG_VN h), E224 (m := mset hm 0 0 0) (a := hm 14) (m0_ne (by decide)) (m0_ne (by decide)), E74, E188]
  simp only [Option.bind_some]
  by_cases q1 : zCell (hm 14) x
  · by_cases q2 : 1 ≤ l ∧ l ≤ 9
    · simp only [if_pos q1, if_pos q2, z10, zn10]
      have x0 := q1.1
      have x1 := zCell_lt q1 hx.2 (by omega)
      rw [F77_s h0.2.1.1 x0 x1 (by omega) q2.2]
      simp only [Option.bind_some]
      have lr := zLoud_rng (f := (mset hm 0 0 0) 14 (97 + x)) (l := l) (by omega) q2.2
      have e2 : (mset hm 0 0 0) 14 2 = hm 14 2 := m0_ne (by decide)
      have key : ∀ (n n' : Nat) (c acc : Int), 0 ≤ c → c ≤ hm 14 2 → hm 14 2 - c < n → hm 14 2 - c < n' → ∃ r, F140_0 hc n x (zLoud ((mset hm 0 0 0) 14 (97 + x)) l) acc c = some r ∧ F260_0 n' x l acc c (mset hm 0 0 0) = some (r, mset hm 0 0 0) := by
        intro n
        induction n with
        | zero => intro n' c acc c0 c1 g1 g2; omega
        | succ n ih =>
          intro n' c acc c0 c1 g1 g2
          cases n' with
          | zero => omega
          | succ n' =>
            rw [F140_0, F260_0, (RG_VN h).2.2.1, e2]
            by_cases e : c = hm 14 2
            · rw [if_pos (by omega), if_pos (by omega)]
              exact ⟨acc, rfl, rfl⟩
            · have hcc : ¬ hm 14 2 ≤ c := by omega
              have ec : wadd c 1 = c + 1 := wadd_eq (by omega) (by omega)
              rw [if_neg hcc, if_neg hcc, F82_s hC hVW.2.1 (by omega) c0 (by omega) x0 x1 lr.1 lr.2, F228_s x0 x1 (by omega) q2.2]
              simp only [Option.bind_some]
              rw [F259_s hVW.2.1 (by omega) c0 (by omega) x0 x1 lr.1 lr.2]
              simp only [Option.bind_some]
              unfold F140_1 F260_1
              rw [ec]
              split
              · exact ih n' (c + 1) acc (by omega) (by omega) (by omega) (by omega)
              · exact ih n' (c + 1) _ (by omega) (by omega) (by omega) (by omega)
      obtain ⟨r, e1, e2⟩ := key zFu zFu 0 0 (by decide) (by omega) (by omega) (by omega)
      exact ⟨r, _, e1, e2, h0⟩
    · simp only [if_pos q1, if_neg q2, z10, z00, zn00]
      exact ⟨_, _, rfl, rfl, h0⟩
  · simp only [if_neg q1, z00]
    exact ⟨_, _, rfl, rfl, h0⟩
theorem F77_e {h : zHC} {v x l : Int} {a nm : Int → Int} (hV : VR h v a nm) (x0 : 0 ≤ x) (x1 : x < 100) : ∃ r, F77 v x l h = some r := by
  obtain ⟨hN, hC, hP, hM, hF, hS, hQ, hW⟩ := hV
  have w6 := hW.1
  unfold WN at w6
  unfold F77
  rw [F47_s hN.2.2.2.2.2.1 (by omega) (by omega) hF x0 x1]
  simp only [Option.bind_some]
  generalize (if 0 < a (97 + x) then (1 : Int) else 0) = q
  by_cases e : q = 0
  · rw [if_pos e]
    exact ⟨_, rfl⟩
  · rw [if_neg e]
    exact ⟨_, rfl⟩
theorem F82_e {h : zHC} {v c x l : Int} {a : Int → Int} (hC : VC h v a) (hW : WC a) (h6 : a 2 ≤ 6) (c0 : 0 ≤ c) (c1 : c < a 2) (x0 : 0 ≤ x) (x1 : x < 100) : ∃ r, F82 v c x l h = some r := by
  obtain ⟨w1, w2, -⟩ := hW c c0 c1
  unfold F82
  rw [zG_t (by omega), (hC c c0 c1).1, F83_s w1 w2 x0 x1]
  simp only [Option.bind_some]
  by_cases u : l < 1
  · rw [if_pos u]
    exact ⟨_, rfl⟩
  · rw [if_neg u]
    by_cases u2 : l < zD (a (7 + 3 * c)) x
    · rw [if_pos u2]
      exact ⟨_, rfl⟩
    · rw [if_neg u2]
      exact ⟨_, rfl⟩
/-- nearest's loop ends, whatever the LOUD -/
theorem F117_e {hc : zHC} {hm : zHM} {x : Int} (h : RG hc hm) (x0 : 0 ≤ x) (x1 : x < 100) : ∀ (n : Nat) (L c best most : Int), 0 ≤ c → c ≤ hm 14 2 → hm 14 2 - c < n → ∃ r, F117_0 hc n x L best most c = some r ∧ (hm 14 2 = c → r = best) := by
  have w6 := RG_WN h
  unfold WN at w6
  obtain ⟨hN, hC, hP, hM, hF, hS, hQ, hVW⟩ := id h.2.1.1
  intro n
  induction n with
  | zero => intro L c best most c0 c1 g; omega
  | succ n ih =>
    intro L c best most c0 c1 g
    rw [F117_0, (RG_VN h).2.2.1]
    by_cases e : c = hm 14 2
    · rw [if_pos (by omega)]
      exact ⟨_, rfl, fun _ => rfl⟩
    · have hcc : ¬ hm 14 2 ≤ c := by omega
      have ec : wadd c 1 = c + 1 := wadd_eq (by omega) (by omega)
      obtain ⟨d, hd⟩ := F82_e (l := L) hC hVW.2.1 (by omega) c0 (by omega) x0 x1
      rw [if_neg hcc, hd]
      simp only [Option.bind_some]
      rw [zG_t (by omega)]
      unfold F117_1
      rw [ec]
      generalize (if hc 586 0 c < d then hc 586 0 c else d) = w
      by_cases q : w ≤ most
      · rw [if_pos q]
        obtain ⟨r, hr, -⟩ := ih L (c + 1) best most (by omega) (by omega) (by omega)
        exact ⟨r, hr, fun z => absurd z.symm e⟩
      · rw [if_neg q]
        obtain ⟨r, hr, -⟩ := ih L (c + 1) c w (by omega) (by omega) (by omega)
        exact ⟨r, hr, fun z => absurd z.symm e⟩
theorem C_nearest {hc : zHC} {hm : zHM} {x l : Int} (h : RG hc hm) (hx : zR32 x) : ∃ r r2 hm', F117 x l hc = some r ∧ F258 x l hm = some (r2, hm') ∧ RG hc hm' ∧ (((1 ≤ l ∧ l ≤ 9) ∨ hm 14 2 = 0) → r = r2) := by
  have w6 := RG_WN h
  unfold WN at w6
  have h0 := RG_0 (x := 0) h
  have big := zFu_big
  obtain ⟨hN, hC, hP, hM, hF, hS, hQ, hVW⟩ := id h0.2.1.1
  unfold F117 F258
  rw [E69 (RG_VN h), E224 (m := mset hm 0 0 0) (a := hm 14) (m0_ne (by decide)) (m0_ne (by decide)), E188]
  simp only [Option.bind_some]
  by_cases q1 : zCell (hm 14) x
  · have x0 := q1.1
    have x1 := zCell_lt q1 hx.2 (by omega)
    by_cases q2 : 1 ≤ l ∧ l ≤ 9
    · simp only [if_pos q1, if_pos q2, z10, zn10, if_pos (show 0 < l by omega)]
      rw [F77_s h0.2.1.1 x0 x1 (by omega) q2.2]
      simp only [Option.bind_some]
      have lr := zLoud_rng (f := (mset hm 0 0 0) 14 (97 + x)) (l := l) (by omega) q2.2
      have e2 : (mset hm 0 0 0) 14 2 = hm 14 2 := m0_ne (by decide)
      have key : ∀ (n n' : Nat) (c best most : Int), 0 ≤ c → c ≤ hm 14 2 → hm 14 2 - c < n → hm 14 2 - c < n' → ∃ r, F117_0 hc n x (zLoud ((mset hm 0 0 0) 14 (97 + x)) l) best most c = some r ∧ F258_0 n' x l best most c (mset hm 0 0 0) = some (r, mset hm 0 0 0) := by
        intro n
        induction n with
        | zero => intro n' c best most c0 c1 g1 g2; omega
        | succ n ih =>
          intro n' c best most c0 c1 g1 g2
          cases n' with
          | zero => omega
          | succ n' =>
            rw [F117_0, F258_0, (RG_VN h).2.2.1, e2]
            by_cases e : c = hm 14 2
            · rw [if_pos (by omega), if_pos (by omega)]
              exact ⟨best, rfl, rfl⟩
            · have hcc : ¬ hm 14 2 ≤ c := by omega
              have ec : wadd c 1 = c + 1 := wadd_eq (by omega) (by omega)
              have es := (h.2.1.1.2.1 c c0 (by omega)).2.2
              rw [if_neg hcc, if_neg hcc, F82_s hC hVW.2.1 (by omega) c0 (by omega) x0 x1 lr.1 lr.2, F228_s x0 x1 (by omega) q2.2]
              simp only [Option.bind_some]
              rw [F259_s hVW.2.1 (by omega) c0 (by omega) x0 x1 lr.1 lr.2, zG_t (by omega), es]
              simp only [Option.bind_some]
              rw [F207_s c0 (by omega), m0_ne (r := 14) (j := 7 + 3 * c + 2) (by decide)]
              simp only [Option.bind_some]
              unfold F238
              generalize zDir _ c x _ = D
              by_cases q3 : hm 14 (7 + 3 * c + 2) ≤ D
              · rw [if_pos q3]
                simp only [Option.bind_some]
                have e4 : (if hm 14 (7 + 3 * c + 2) < D then hm 14 (7 + 3 * c + 2) else D) = hm 14 (7 + 3 * c + 2) := by split <;> omega
                rw [e4]
                unfold F117_1 F258_1
                rw [ec]
                by_cases q4 : hm 14 (7 + 3 * c + 2) ≤ most
                · rw [if_pos q4, if_neg (show ¬ most < hm 14 (7 + 3 * c + 2) by omega)]
                  exact ih n' (c + 1) _ _ (by omega) (by omega) (by omega) (by omega)
                · rw [if_neg q4, if_pos (show most < hm 14 (7 + 3 * c + 2) by omega)]
                  exact ih n' (c + 1) _ _ (by omega) (by omega) (by omega) (by omega)
              · rw [if_neg q3]
                simp only [Option.bind_some]
                have e4 : (if hm 14 (7 + 3 * c + 2) < D then hm 14 (7 + 3 * c + 2) else D) = D := by rw [if_neg (by omega)]
                rw [e4]
                unfold F117_1 F258_1
                rw [ec]
                by_cases q4 : D ≤ most
                · rw [if_pos q4, if_neg (show ¬ most < D by omega)]
                  exact ih n' (c + 1) _ _ (by omega) (by omega) (by omega) (by omega)
                · rw [if_neg q4, if_pos (show most < D by omega)]
                  exact ih n' (c + 1) _ _ (by omega) (by omega) (by omega) (by omega)
      obtain ⟨r, e1, e2⟩ := key zFu zFu 0 (-1) 0 (by decide) (by omega) (by omega) (by omega)
      exact ⟨r, r, _, e1, e2, h0, fun _ => rfl⟩
    · simp only [if_pos q1, if_neg q2, z10, zn10, zn00]
      obtain ⟨L, hL⟩ := F77_e (l := if 0 < l then l else 0) h.2.1.1 x0 x1
      rw [hL]
      simp only [Option.bind_some]
      obtain ⟨r, e1, e2⟩ := F117_e h x0 x1 zFu L 0 (-1) 0 (by decide) (by omega) (by omega)
      exact ⟨r, -1, _, e1, rfl, h0, fun z => z.elim (fun z => absurd z q2) (fun z => e2 z)⟩
  · simp only [if_neg q1, z00, zn00]
    exact ⟨_, _, _, rfl, rfl, h0, fun _ => rfl⟩