/-! Runs aside. -/
theorem L244 {m : zHM} : ∃ m', F244 m = some m' ∧ (∀ j, 0 ≤ j → j < 1689 → m' 18 j = m 14 (209 + j)) ∧ ∀ r j, r ≠ 18 → m' r j = m r j := by
  have key : ∀ (n : Nat) (q : Int) (m1 : zHM), 0 ≤ q → q ≤ 1689 → 1689 - q < n → (∀ j, 0 ≤ j → j < q → m1 18 j = m 14 (209 + j)) → (∀ r j, r ≠ 18 → m1 r j = m r j) → ∃ m', F244_0 n q m1 = some m' ∧ (∀ j, 0 ≤ j → j < 1689 → m' 18 j = m 14 (209 + j)) ∧ ∀ r j, r ≠ 18 → m' r j = m r j := by
    intro n
    induction n with
    | zero => intro q m1 q0 q1 g; omega
    | succ n ih =>
      intro q m1 q0 q1 g e1 e2
      rw [F244_0]
      by_cases e : q = 1689
      · subst e
        rw [if_pos (by omega)]
        exact ⟨m1, rfl, e1, e2⟩
      · rw [if_neg (by omega), wadd_eq (x := 209) (by omega) (by omega), zG_t (by omega), zG_t (by omega), wadd_eq (by omega) (by omega)]
        refine ih (q + 1) _ (by omega) (by omega) (by omega) (fun j j0 j1 => ?_) (fun r j hne => ?_)
        · by_cases u : j = q
          · subst u
            rw [mset_eq]
            exact e2 14 _ (by decide)
          · rw [mset_ne (by omega)]
            exact e1 j j0 (by omega)
        · rw [mset_ne (by omega)]
          exact e2 r j hne
  have big := zFu_big
  exact key zFu 0 m (by decide) (by decide) (by omega) (fun j j0 j1 => by omega) (fun _ _ _ => rfl)
def mA (m m2 : zHM) : Prop := (∀ j, 0 ≤ j → j < 1689 → m2 18 j = m 14 (209 + j)) ∧ ∀ r j, ¬ ((r = 14 ∧ 209 ≤ j ∧ j < 1898) ∨ (r = 0 ∨ (3 ≤ r ∧ r ≤ 9) ∨ (11 ≤ r ∧ r ≤ 13) ∨ r = 15 ∨ r = 18 ∨ r = 20 ∨ (24 ≤ r ∧ r ≤ 28) ∨ (30 ≤ r ∧ r ≤ 34) ∨ (36 ≤ r ∧ r ≤ 40) ∨ r = 43 ∨ (45 ≤ r ∧ r ≤ 49))) → m2 r j = m r j
def mfN (m m' : zHM) : Prop := ∀ r j, ¬ ((r = 14 ∧ 209 ≤ j ∧ j < 1898) ∨ (38 ≤ r ∧ r ≤ 40) ∨ r = 25) → m' r j = m r j
theorem mfD_N {m m' : zHM} (h : mfD m m') : mfN m m' := fun r j hne => h.2.2 r j (by omega)
theorem mfE_N {m m' : zHM} (h : mfE m m') : mfN m m' := fun r j hne => h r j (by omega)
theorem mA_N {m m1 m2 : zHM} (h : mA m m1) (h2 : mfN m1 m2) : mA m m2 :=
  ⟨fun j j0 j1 => by rw [h2 18 j (by omega)]; exact h.1 j j0 j1, fun r j hne => by rw [h2 r j (by omega)]; exact h.2 r j hne⟩
theorem A_end {m m2 : zHM} (h : mA m m2) : ∃ m3, F245 m2 = some m3 ∧ scM m m3 ∧ ∀ r j, r ≠ 14 → m3 r j = m2 r j := by
  obtain ⟨a1, a2⟩ := h
  have key : ∀ (n : Nat) (q : Int) (m1 : zHM), 0 ≤ q → q ≤ 1689 → 1689 - q < n → (∀ j, 209 ≤ j → j < 209 + q → m1 14 j = m 14 j) → (∀ r j, ¬ (r = 14 ∧ 209 ≤ j ∧ j < 209 + q) → m1 r j = m2 r j) → ∃ m3, F245_0 n q m1 = some m3 ∧ scM m m3 ∧ ∀ r j, r ≠ 14 → m3 r j = m2 r j := by
    intro n
    induction n with
    | zero => intro q m1 q0 q1 g; omega
    | succ n ih =>
      intro q m1 q0 q1 g e1 e2
      rw [F245_0]
      by_cases e : q = 1689
      · subst e
        rw [if_pos (by omega)]
        refine ⟨m1, rfl, fun r j hne => ?_, fun r j hne => e2 r j (fun w => hne w.1)⟩
        by_cases u : r = 14 ∧ 209 ≤ j ∧ j < 1898
        · obtain ⟨u1, u2, u3⟩ := u
          subst u1
          exact e1 j u2 (by omega)
        · rw [e2 r j (by omega)]
          exact a2 r j (by omega)
      · rw [if_neg (by omega), wadd_eq (x := 209) (by omega) (by omega), zG_t (by omega), zG_t (by omega), wadd_eq (by omega) (by omega)]
        refine ih (q + 1) _ (by omega) (by omega) (by omega) (fun j j0 j1 => ?_) (fun r j hne => ?_)
        · by_cases u : j = 209 + q
          · subst u
            rw [mset_eq, e2 18 q (by omega)]
            exact a1 q q0 (by omega)
          · rw [mset_ne (by omega)]
            exact e1 j j0 (by omega)
        · rw [mset_ne (by omega)]
          exact e2 r j (by omega)
  have big := zFu_big
  exact key zFu 0 m2 (by decide) (by decide) (by omega) (fun j j0 j1 => by omega) (fun _ _ _ => rfl)
theorem A_beg {hc : zHC} {hm : zHM} (h : RG hc hm) : ∃ h1 m1, F71 1 0 hc = some h1 ∧ F244 hm = some m1 ∧ CI h1 m1 1 0 0 (hm 19) ∧ (∀ r n j, ¬ (64 ≤ r ∧ r ≤ 72 ∧ n = 1) → h1 r n j = hc r n j) ∧ mA hm m1 ∧ (∀ j, m1 14 j = hm 14 j) := by
  obtain ⟨hV, hR⟩ := h.2.1
  obtain ⟨h1, a1, a2, a3⟩ := L71 (h := hc) (i := 1) (j := 0) (a := hm 14) (by decide) hR (VR_n hV)
  obtain ⟨m1, b1, b2, b3⟩ := L244 (m := hm)
  have e14 : m1 14 = hm 14 := by funext j; exact b3 14 j (by decide)
  refine ⟨h1, m1, a1, b1, CR_CI ?_ ?_, a3, ⟨b2, fun r j hne => b3 r j (by omega)⟩, fun j => b3 14 j (by decide)⟩
  · rw [e14]
    exact VR_keep (fun r j g0 g1 => a3 r 0 j (by omega)) (fun _ _ _ => rfl) (fun _ _ _ => rfl) hV
  · rw [e14]
    exact a2
/-- with nothing said -/
theorem A_beg0 {hc : zHC} {hm : zHM} (h : RG hc hm) : ∃ h1 m1, F72 1 0 hc = some h1 ∧ F244 hm = some m1 ∧ CI h1 m1 1 0 (hm 14 216) (hm 19) ∧ h1 65 1 0 = 0 ∧ (∀ r n j, ¬ (64 ≤ r ∧ r ≤ 72 ∧ n = 1) → h1 r n j = hc r n j) ∧ mA hm m1 ∧ (∀ j, m1 14 j = hm 14 j) := by
  obtain ⟨hV, hR⟩ := h.2.1
  obtain ⟨h1, a1, a2, a3, a4, a5, a6⟩ := L72 (h := hc) (i := 1) (j := 0) (by decide) hV hR
  obtain ⟨m1, b1, b2, b3⟩ := L244 (m := hm)
  have e14 : m1 14 = hm 14 := by funext j; exact b3 14 j (by decide)
  obtain ⟨n0, n1, hq⟩ := CW_n hR.2.2
  refine ⟨h1, m1, a1, b1, ⟨by rw [e14]; exact a2, by rw [e14]; exact a3, by rw [a5, e14]; exact n0, fun s0 => ?_, by rw [e14]; exact hR.2.2⟩, a4, a6, ⟨b2, fun r j hne => b3 r j (by omega)⟩, fun j => b3 14 j (by decide)⟩
  have z : hm 14 997 = 0 := by
    rw [hq.1.2, s0]
    rfl
  refine ⟨by rw [a5, e14, z], fun j j0 j1 => ?_⟩
  rw [e14, z] at j1
  omega
theorem scC_1 {hc h1 h2 : zHC} (f1 : ∀ r n j, ¬ (64 ≤ r ∧ r ≤ 72 ∧ n = 1) → h1 r n j = hc r n j) (f2 : ∀ r n j, ¬ (64 ≤ r ∧ r ≤ 72 ∧ n = 1) → h2 r n j = h1 r n j) : scC hc h2 := fun r n j hne => by rw [f2 r n j (by omega), f1 r n j (by omega)]
theorem cfC_1 {h h' : zHC} (hc : cfC 1 h h') : ∀ r n j, ¬ (64 ≤ r ∧ r ≤ 72 ∧ n = 1) → h' r n j = h r n j := fun r n j hne => hc.2.2 r n j (by omega)
theorem P_camp {hc : zHC} {hm : zHM} {p x n : Int} (h : RG hc hm) (p0 : 0 ≤ p) (p1 : p < hm 14 3) (x0 : 0 ≤ x) (x1 : x < 100) (n1 : n ≤ 1000) : ∃ r hc' hm', F100 p x n hc = some (r, hc') ∧ F243 p x n hm = some (r, hm') ∧ scC hc hc' ∧ scM hm hm' ∧ 0 ≤ r := by
  have w6 := RG_WN h
  unfold WN at w6
  obtain ⟨h1, m1, a1, a2, a3, a4, a5, a6⟩ := A_beg h
  unfold F100 F243
  rw [a1, a2]
  simp only [Option.bind_some]
  rw [zG_t (by omega), wadd_eq (by omega) (by omega), zG_t (by omega)]
  have hI := CI_place (p := p) (x := x) a3 p0 (by omega) x0 x1
  obtain ⟨r, h2, m2, b1, b2, b3, b4, b5⟩ := P_hours' n1 hI
  rw [b1, b2]
  simp only [Option.bind_some]
  obtain ⟨q, c1, c2, c3, c4⟩ := L101 (p := p) p0 (by omega) (CI_CR b3)
  obtain ⟨m3, d1, d2, d3⟩ := A_end (mA_N a5 (m2 := m2) (fun r j hne => by rw [mfD_N b5 r j hne, mset_ne (by omega)]))
  rw [c1, c2, d1]
  exact ⟨q, h2, m3, rfl, rfl, scC_1 a4 (fun r n j hne => by rw [cfC_1 b4 r n j hne, hset_ne (by omega)]), d2, c3⟩
theorem C_camping {hc : zHC} {hm : zHM} {p x n : Int} (h : RG hc hm) (hx : zR32 x) : ∃ r hc' hm', F102 p x n hc = some (r, hc') ∧ F246 p x n hm = some (r, hm') ∧ RG hc' hm' := by
  have w6 := RG_WN h
  unfold WN at w6
  have h0 := RG_0 (x := 0) h
  unfold F102 F246
  rw [E61 (RG_VN h).2.2.2.1, E210 (m := mset hm 0 0 0) (b := hm 14 3) (m0_ne (by decide)), E69 (RG_VN h), E224 (m := mset hm 0 0 0) (a := hm 14) (m0_ne (by decide)) (m0_ne (by decide)), E99, E242]
  simp only [Option.bind_some]
  by_cases q1 : 0 ≤ p ∧ p < hm 14 3
  · by_cases q2 : zCell (hm 14) x
    · by_cases q3 : 1 ≤ n ∧ n ≤ 60
      · simp only [if_pos q1, if_pos q2, if_pos q3, z10, zn10]
        obtain ⟨r, h', m', e1, e2, e3, e4, e5⟩ := P_camp (p := p) (x := x) (n := n) h0 q1.1 (by rw [m0_ne (by decide)]; exact q1.2) q2.1 (zCell_lt q2 hx.2 (by omega)) (by omega)
        rw [e1, e2]
        exact ⟨r, h', m', rfl, rfl, RG_sc h0 e3 e4⟩
      · simp only [if_pos q1, if_pos q2, if_neg q3, z10, z00, zn00]
        exact ⟨_, _, _, rfl, rfl, h0⟩
    · simp only [if_pos q1, if_neg q2, z10, z00]
      exact ⟨_, _, _, rfl, rfl, h0⟩
  · simp only [if_neg q1, z00]
    exact ⟨_, _, _, rfl, rfl, h0⟩
theorem C_camp {hc : zHC} {hm : zHM} {p n : Int} (h : RG hc hm) : ∃ r hc' hm', F98 p n hc = some (r, hc') ∧ F241 p n hm = some (r, hm') ∧ RG hc' hm' := by
  have w6 := RG_WN h
  unfold WN at w6
  have h0 := RG_0 (x := 0) h
  have big := zFu_big
  unfold F98 F241
  rw [E61 (RG_VN h).2.2.2.1, E210 (m := mset hm 0 0 0) (b := hm 14 3) (m0_ne (by decide)), E99, E242]
  simp only [Option.bind_some]
  by_cases q1 : 0 ≤ p ∧ p < hm 14 3
  · by_cases q3 : 1 ≤ n ∧ n ≤ 60
    · simp only [if_pos q1, if_pos q3, z10, zn10]
      have key : ∀ (k k' : Nat) (best most x : Int) (h1 : zHC) (m1 : zHM), RG h1 m1 → (∀ j, m1 14 j = hm 14 j) → 0 ≤ x → x ≤ 100 → 100 - x < k → 100 - x < k' → ∃ r hc' hm', F98_0 k p n best most x h1 = some (r, hc') ∧ F241_0 k' p n best most x m1 = some (r, hm') ∧ RG hc' hm' := by
        intro k
        induction k with
        | zero => intro k' best most x h1 m1 g e x0 x1 g1 g2; omega
        | succ k ih =>
          intro k' best most x h1 m1 g e x0 x1 g1 g2
          cases k' with
          | zero => omega
          | succ k' =>
            rw [F98_0, F241_0]
            by_cases u : 100 ≤ x
            · rw [if_pos u, if_pos u]
              exact ⟨_, _, _, rfl, rfl, g⟩
            · have ex : wadd x 1 = x + 1 := wadd_eq (by omega) (by omega)
              rw [if_neg u, if_neg u, E69 (RG_VN g), E224 (m := m1) (a := m1 14) rfl rfl]
              simp only [Option.bind_some]
              unfold F98_1 F98_2 F241_1 F241_2
              rw [ex]
              by_cases q2 : zCell (m1 14) x
              · simp only [if_pos q2, z10]
                obtain ⟨r, h', m', e1, e2, e3, e4, e5⟩ := P_camp (p := p) (x := x) (n := n) g q1.1 (by rw [e]; exact q1.2) x0 (by omega) (by omega)
                rw [e1, e2]
                simp only [Option.bind_some]
                have g' := RG_sc g e3 e4
                have e' : ∀ j, m' 14 j = hm 14 j := fun j => by rw [e4 14 j (by omega)]; exact e j
                by_cases q4 : r ≤ most
                · rw [if_pos q4, if_neg (show ¬ most < r by omega)]
                  exact ih k' _ _ (x + 1) h' m' g' e' (by omega) (by omega) (by omega) (by omega)
                · rw [if_neg q4, if_pos (show most < r by omega)]
                  exact ih k' _ _ (x + 1) h' m' g' e' (by omega) (by omega) (by omega) (by omega)
              · simp only [if_neg q2, z00]
                by_cases q4 : -1 ≤ most
                · rw [if_pos q4, if_neg (show ¬ most < -1 by omega)]
                  exact ih k' _ _ (x + 1) h1 m1 g e (by omega) (by omega) (by omega) (by omega)
                · rw [if_neg q4, if_pos (show most < -1 by omega)]
                  exact ih k' _ _ (x + 1) h1 m1 g e (by omega) (by omega) (by omega) (by omega)
      exact key zFu zFu (-1) (-1) 0 hc _ h0 (fun j => m0_ne (by decide)) (by decide) (by decide) (by omega) (by omega)
    · simp only [if_pos q1, if_neg q3, z10, z00, zn00]
      exact ⟨_, _, _, rfl, rfl, h0⟩
  · simp only [if_neg q1, z00]
    exact ⟨_, _, _, rfl, rfl, h0⟩
theorem C_heirs {hc : zHC} {hm : zHM} {s n : Int} (h : RG hc hm) : ∃ r hc' hm', F114 s n hc = some (r, hc') ∧ F255 s n hm = some (r, hm') ∧ RG hc' hm' := by
  have h0 := RG_0 (x := 0) h
  have e65 : hc 65 0 0 = hm 14 216 := by have := h.2.1.2.1.2.1; omega
  have c34 := h.2.1.2.2.2.2.1
  unfold F114 F255
  rw [E58 e65, E217 (m := mset hm 0 0 0) (b := hm 14 216) (m0_ne (by decide)), E99, E242]
  simp only [Option.bind_some]
  by_cases q1 : 0 ≤ s ∧ s < hm 14 216
  · by_cases q3 : 1 ≤ n ∧ n ≤ 60
    · simp only [if_pos q1, if_pos q3, z10, zn10]
      obtain ⟨h1, m1, a1, a2, a3, a4, a5, a6⟩ := A_beg h0
      rw [a1, a2]
      simp only [Option.bind_some]
      obtain ⟨r, h2, m2, b1, b2, b3, b4, b5⟩ := P_hours' (n := n) (by omega) a3
      rw [b1, b2]
      simp only [Option.bind_some]
      have e2 : m2 14 216 = hm 14 216 := by rw [b5.2.1, a6, m0_ne (by decide)]
      have t1 := (b3.2.1.2.2.2.2.2.2 s q1.1 (by have := b3.2.1.2.1; omega)).1 5 (by decide) (by decide)
      rw [show (0 : Int) + s = s by omega] at t1
      obtain ⟨m3, d1, d2, d3⟩ := A_end (mA_N a5 (mfD_N b5))
      rw [F63_s q1.1 (by omega) (by decide) (by decide), F213_s q1.1 (by omega) (by decide) (by decide), t1, d1]
      exact ⟨_, _, _, rfl, rfl, RG_sc h0 (scC_1 a4 (cfC_1 b4)) d2⟩
    · simp only [if_pos q1, if_neg q3, z10, z00, zn00]
      exact ⟨_, _, _, rfl, rfl, h0⟩
  · simp only [if_neg q1, z00]
    exact ⟨_, _, _, rfl, rfl, h0⟩
theorem C_next {hc : zHC} {hm : zHM} {n : Int} (h : RG hc hm) : ∃ r hc' hm', F113 n hc = some (r, hc') ∧ F254 n hm = some (r, hm') ∧ RG hc' hm' := by
  have h0 := RG_0 (x := 0) h
  have big := zFu_big
  unfold F113 F254
  rw [E188]
  simp only [Option.bind_some]
  by_cases q1 : 1 ≤ n ∧ n ≤ 100
  · rw [if_neg (show ¬ n < 1 by omega), if_pos (show n ≤ 100 by omega)]
    simp only [if_pos q1, zn10]
    obtain ⟨h1, m1, a1, a2, a3, a4, a5, a6⟩ := A_beg h0
    rw [a1, a2]
    simp only [Option.bind_some]
    have hN := CW_n a3.2.2.2.2
    have e0 : h1 66 0 0 = m1 14 997 := by rw [a4 _ _ _ (by omega), a6]; exact h0.2.1.2.2.1.1
    have key : ∀ (k k' : Nat) (p : Int) (h2 : zHC) (m2 : zHM), CI h2 m2 1 0 0 (hm 19) → h2 66 0 0 = m1 14 997 → m2 14 997 = m1 14 997 → (∀ r n j, ¬ (64 ≤ r ∧ r ≤ 72 ∧ n = 1) → h2 r n j = h1 r n j) → mfN m1 m2 → 0 ≤ p → n - p < k → n - p < k' → 0 < k → 0 < k' → ∃ r q hc' m3, F113_0 k n p h2 = some (r, hc') ∧ F235_0 k' n p m2 = some (q, m3) ∧ ((r = -1 ∧ m3 14 997 = m1 14 997) ∨ (m1 14 997 < m3 14 997 ∧ r = m3 14 (998 + 5 * m1 14 997 + 2))) ∧ (∀ r n j, ¬ (64 ≤ r ∧ r ≤ 72 ∧ n = 1) → hc' r n j = h1 r n j) ∧ mfN m1 m3 := by
      intro k
      induction k with
      | zero => intro k' p h2 m2 i1 i2 i3 i4 i5 p0 g1 g2 g3 g4; omega
      | succ k ih =>
        intro k' p h2 m2 i1 i2 i3 i4 i5 p0 g1 g2 g3 g4
        cases k' with
        | zero => omega
        | succ k' =>
          obtain ⟨j1, j2, j3, j4, j5⟩ := id i1
          rw [F113_0, F235_0, j2.1]
          by_cases e : n ≤ p
          · rw [if_pos e, if_pos e]
            exact ⟨_, _, _, _, rfl, rfl, Or.inl ⟨rfl, i3⟩, i4, i5⟩
          · rw [if_neg e, if_neg e]
            by_cases e2 : 400 ≤ m2 14 209
            · rw [if_pos e2, if_pos e2]
              exact ⟨_, _, _, _, rfl, rfl, Or.inl ⟨rfl, i3⟩, i4, i5⟩
            · rw [if_neg e2, if_neg e2]
              obtain ⟨h3, m3, b1, b2, b3, b4, b5, b6, b7, b8, b9, b10⟩ := P_pass (st := 0) j1 j2 j3 j4 j5 (by omega) (by decide) (by decide)
              rw [b1, b2]
              simp only [Option.bind_some]
              have ep : wadd p 1 = p + 1 := wadd_eq (by omega) (by omega)
              have e66 : h3 66 1 0 = m3 14 997 := (b6 rfl).1
              have e660 : h3 66 0 0 = m1 14 997 := by rw [cfC_1 b9 _ _ _ (by omega)]; exact i2
              have f3 : ∀ r n j, ¬ (64 ≤ r ∧ r ≤ 72 ∧ n = 1) → h3 r n j = h1 r n j := fun r n j hne => by rw [cfC_1 b9 r n j hne]; exact i4 r n j hne
              have n3 : mfN m1 m3 := fun r j hne => by rw [b10.2.2.2 r j (by omega)]; exact i5 r j hne
              rw [e66, e660, ep]
              by_cases e3 : m3 14 997 ≤ m1 14 997
              · rw [if_pos e3]
                exact ih k' (p + 1) h3 m3 ⟨b3, b4, b5, b6, b7⟩ e660 (by have := b10.1; omega) f3 n3 (by omega) (by omega) (by omega) (by omega) (by omega)
              · rw [if_neg e3]
                obtain ⟨q, h4, m4, c1, c2, c3, c4, c5⟩ := P_hours (i := 1) (v := 0) (σ := 0) (n := n) (by omega) k k' (p + 1) h3 m3 ⟨b3, b4, b5, b6, b7⟩ (by omega) (by omega) (by omega) (by omega) (by omega)
                refine ⟨_, q, h3, m4, rfl, c2, Or.inr ⟨by have := c5.1; omega, ?_⟩, f3, fun r j hne => by rw [mfD_N c5 r j hne]; exact n3 r j hne⟩
                rw [c5.2.2 14 _ (by omega), b10.2.1 (m1 14 997) hN.1 (by omega) (by omega)]
                exact b4.1
    obtain ⟨r, q, h2, m2, b1, b2, b3, b4, b5⟩ := key zFu zFu 0 h1 m1 a3 e0 rfl (fun _ _ _ _ => rfl) (fun _ _ _ => rfl) (by decide) (by omega) (by omega) (by omega) (by omega)
    unfold F235
    rw [b1, b2]
    simp only [Option.bind_some]
    obtain ⟨m3, d1, d2, d3⟩ := A_end (mA_N a5 b5)
    unfold F254_0
    rw [d1, wmul_eq (by omega) (by omega), wadd_eq (x := 998) (by omega) (by omega), wadd_eq (y := 2) (by omega) (by omega)]
    refine ⟨r, h2, m3, rfl, ?_, RG_sc h0 (scC_1 a4 b4) d2⟩
    rcases b3 with ⟨u1, u2⟩ | ⟨u1, u2⟩
    · rw [if_pos (by omega), u1]
      rfl
    · rw [if_neg (by omega), zG_t (by omega), u2]
      rfl
  · simp only [if_neg q1, zn00]
    refine ⟨-1, hc, _, ?_, rfl, h0⟩
    by_cases u : n < 1
    · rw [if_pos u]
    · rw [if_neg u, if_neg (by omega)]
