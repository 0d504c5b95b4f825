/-! Hours, copies, what is said. -/
def CI (h : zHC) (m : zHM) (i v σ : Int) (nm : Int → Int) : Prop := VR h v (m 14) nm ∧ RC h i (m 14) σ ∧ h 66 i 0 ≤ m 14 997 ∧ (σ = 0 → RL h i (m 14)) ∧ CW (m 14)
def mfD (m m' : zHM) : Prop := m 14 997 ≤ m' 14 997 ∧ m' 14 216 = m 14 216 ∧ ∀ r j, ¬ (r = 14 ∧ ((209 ≤ j ∧ j < 216) ∨ j = 997 ∨ (998 ≤ j ∧ 998 + 5 * m 14 997 ≤ j ∧ j < 1898) ∨ (217 ≤ j ∧ j < 997))) → m' r j = m r j
theorem mfD_trans {m m' m'' : zHM} (h1 : mfD m m') (h2 : mfD m' m'') : mfD m m'' := by
  obtain ⟨a1, a2, a3⟩ := h1
  obtain ⟨b1, b2, b3⟩ := h2
  refine ⟨Int.le_trans a1 b1, b2.trans a2, fun r j hne => ?_⟩
  rw [b3 r j (by omega), a3 r j hne]
theorem mfD_refl {m : zHM} : mfD m m := ⟨Int.le_refl _, rfl, fun _ _ _ => rfl⟩
theorem cfC_refl {i : Int} {h : zHC} : cfC i h h := ⟨Int.le_refl _, rfl, fun _ _ _ _ => rfl⟩
theorem P_hours {i v σ n : Int} {nm : Int → Int} (n1 : n ≤ 1000) : ∀ (k k' : Nat) (p : Int) (h : zHC) (m : zHM), CI h m i v σ nm → 0 ≤ p → n - p < k → n - p < k' → 0 < k → 0 < k' → ∃ r h' m', F88_0 k i v n p h = some (r, h') ∧ F235_0 k' n p m = some (r, m') ∧ CI h' m' i v σ nm ∧ cfC i h h' ∧ mfD m m' := by
  intro k
  induction k with
  | zero => intro k' p h m hI p0 g1 g2 g3 g4; omega
  | succ k ih =>
    intro k' p h m hI p0 g1 g2 g3 g4
    cases k' with
    | zero => omega
    | succ k' =>
      obtain ⟨i1, i2, i3, i4, i5⟩ := id hI
      rw [F88_0, F235_0, i2.1]
      by_cases e : n ≤ p
      · rw [if_pos e, if_pos e]
        exact ⟨p, h, m, rfl, rfl, hI, cfC_refl, mfD_refl⟩
      · rw [if_neg e, if_neg e]
        by_cases e2 : 400 ≤ m 14 209
        · rw [if_pos e2, if_pos e2]
          exact ⟨p, h, m, rfl, rfl, hI, cfC_refl, mfD_refl⟩
        · rw [if_neg e2, if_neg e2]
          obtain ⟨h1, m1, q1, q2, q3, q4, q5, q6, q7, q8, q9, q10⟩ := P_pass (st := 0) i1 i2 i3 i4 i5 (by omega) (by decide) (by decide)
          rw [q1, q2]
          obtain ⟨r, h2, m2, z1, z2, z3, z4, z5⟩ := ih k' (p + 1) h1 m1 ⟨q3, q4, q5, q6, q7⟩ (by omega) (by omega) (by omega) (by omega) (by omega)
          refine ⟨r, h2, m2, ?_, ?_, z3, cfC_trans q9 z4, mfD_trans ⟨q10.1, q10.2.2.1, q10.2.2.2⟩ z5⟩
          · show F88_0 k i v n (wadd p 1) h1 = _
            rw [wadd_eq (by omega) (by omega)]
            exact z1
          · show F235_0 k' n (wadd p 1) m1 = _
            rw [wadd_eq (by omega) (by omega)]
            exact z2
theorem P_hours' {i v σ n : Int} {nm : Int → Int} {h : zHC} {m : zHM} (n1 : n ≤ 1000) (hI : CI h m i v σ nm) : ∃ r h' m', F88 i v n h = some (r, h') ∧ F235 n m = some (r, m') ∧ CI h' m' i v σ nm ∧ cfC i h h' ∧ mfD m m' := by
  have big := zFu_big
  unfold F88 F235
  exact P_hours n1 zFu zFu 0 h m hI (by decide) (by omega) (by omega) (by omega) (by omega)
/-- the course i holds what the row a tells, whole -/
def CR (h : zHC) (i : Int) (a : Int → Int) : Prop := RC h i a 0 ∧ RL h i a ∧ CW a
theorem CR_CI {h : zHC} {m : zHM} {i v : Int} {nm : Int → Int} (hV : VR h v (m 14) nm) (hR : CR h i (m 14)) : CI h m i v 0 nm :=
  ⟨hV, hR.1, Int.le_of_eq hR.2.1.1, fun _ => hR.2.1, hR.2.2⟩
theorem CI_CR {h : zHC} {m : zHM} {i v : Int} {nm : Int → Int} (hI : CI h m i v 0 nm) : CR h i (m 14) := ⟨hI.2.1, hI.2.2.2.1 rfl, hI.2.2.2.2⟩
theorem CW_n {a : Int → Int} (h : CW a) : 0 ≤ a 997 ∧ a 997 ≤ 180 ∧ EQ a := by
  obtain ⟨⟨c1, c2⟩, ⟨c3, c4⟩, c5, c6, c7⟩ := h
  have hq : EQ a := by
    refine ⟨c6, c7, fun s g0 g1 => ?_⟩
    obtain ⟨x1, x2⟩ := c5 s g0 g1
    obtain ⟨-, -, -, -, -, -, t7, -⟩ := x2
    have l0 := SD_le1 x1 (c := 0) (by decide) (by decide)
    have l1 := SD_le1 x1 (c := 1) (by decide) (by decide)
    have l2 := SD_le1 x1 (c := 2) (by decide) (by decide)
    have l3 := SD_le1 x1 (c := 3) (by decide) (by decide)
    have l4 := SD_le1 x1 (c := 4) (by decide) (by decide)
    have l5 := SD_le1 x1 (c := 5) (by decide) (by decide)
    omega
  have := EQ_le hq c3 c4
  exact ⟨this.1, this.2, hq⟩
/-- a course told by two heaps and rows that agree -/
theorem CR_cong {h h' : zHC} {i i' : Int} {a a' : Int → Int} (h64 : h' 64 i' 0 = h 64 i 0) (h65 : h' 65 i' 0 = h 65 i 0) (h66 : h' 66 i' 0 = h 66 i 0) (h67 : ∀ j, 0 ≤ j → j < 6 → h' 67 i' j = h 67 i j) (h68 : ∀ j, 0 ≤ j → j < 6 * h 65 i 0 → h' 68 i' j = h 68 i j) (h69 : ∀ j, 0 ≤ j → j < 6 * h 65 i 0 → h' 69 i' j = h 69 i j) (h70 : ∀ j, 0 ≤ j → j < 8 * h 65 i 0 → h' 70 i' j = h 70 i j) (h71 : ∀ j, 0 ≤ j → j < 5 * h 66 i 0 → h' 71 i' j = h 71 i j) (h72 : ∀ j, 0 ≤ j → j < h 65 i 0 → h' 72 i' j = h 72 i j) (ha : ∀ j, 209 ≤ j → j < 1898 → a' j = a j) (ha2 : a' 2 = a 2) (ha3 : a' 3 = a 3) (h6 : a 3 ≤ 6) (h : CR h i a) : CR h' i' a' := by
  obtain ⟨⟨r1, r2, r3, r4, r5, r6, r7⟩, ⟨l1, l2⟩, hW⟩ := h
  obtain ⟨n0, n1, hq⟩ := CW_n hW
  obtain ⟨⟨c1, c2⟩, ⟨c3, c4⟩, c5, c6, c7⟩ := hW
  have e216 := ha 216 (by decide) (by decide)
  have e209 := ha 209 (by decide) (by decide)
  have e997 := ha 997 (by decide) (by decide)
  refine ⟨⟨by rw [h64, e209]; exact r1, by rw [h65, e216]; exact r2, r3, by rw [h65]; exact r4, by rw [h66]; exact r5, ?_, ?_⟩, ⟨by rw [h66, e997]; exact l1, ?_⟩, ⟨by rw [e209]; exact ⟨c1, c2⟩, by rw [e216]; exact ⟨c3, c4⟩, ?_, ?_⟩⟩
  · intro p g0 g1
    rw [ha3] at g1
    rw [h67 p g0 (by omega), ha _ (by omega) (by omega)]
    exact r6 p g0 g1
  · intro k g0 g1
    rw [h65] at g1
    obtain ⟨x1, x2, x3⟩ := r7 k g0 g1
    refine ⟨?_, ?_, ?_⟩
    · intro w w0 w1
      rw [h70 _ (by omega) (by omega), ha _ (by omega) (by omega)]
      exact x1 w w0 w1
    · intro c q0 q1
      rw [h68 _ (by omega) (by omega), h69 _ (by omega) (by omega), ha _ (by omega) (by omega), ha _ (by omega) (by omega)]
      exact x2 c q0 q1
    · rw [e209]
      refine ⟨fun c q0 q1 => ?_, ?_⟩
      · rw [h68 _ (by omega) (by omega), h72 _ (by omega) (by omega)]
        exact x3.1 c q0 q1
      · rw [h72 _ (by omega) (by omega)]
        rcases x3.2 with l | ⟨c, q1, q2, q3, q4⟩
        · exact Or.inl l
        · exact Or.inr ⟨c, q1, q2, by rw [h68 _ (by omega) (by omega)]; exact q3, q4⟩
  · intro j g0 g1 w w0 w1
    rw [e997] at g1
    rw [h71 _ (by omega) (by omega), ha _ (by omega) (by omega)]
    exact l2 j g0 g1 w w0 w1
  · intro s g0 g1
    rw [e216] at g1
    obtain ⟨x1, x2⟩ := c5 s g0 g1
    refine ⟨?_, ?_⟩
    · intro c q0 q1
      rw [ha (457 + 18 * s + 3 * c) (by omega) (by omega), ha (457 + 18 * s + 3 * c + 1) (by omega) (by omega), ha (457 + 18 * s + 3 * c + 2) (by omega) (by omega), e209, ha2]
      exact x1 c q0 q1
    · unfold SF at *
      rw [ha (217 + 8 * s) (by omega) (by omega), ha (217 + 8 * s + 1) (by omega) (by omega), ha (217 + 8 * s + 2) (by omega) (by omega), ha (217 + 8 * s + 3) (by omega) (by omega), ha (217 + 8 * s + 4) (by omega) (by omega), ha (217 + 8 * s + 5) (by omega) (by omega), ha (217 + 8 * s + 6) (by omega) (by omega), ha (217 + 8 * s + 7) (by omega) (by omega), ha (457 + 18 * s + 3 * 0 + 2) (by omega) (by omega), ha (457 + 18 * s + 3 * 1 + 2) (by omega) (by omega), ha (457 + 18 * s + 3 * 2 + 2) (by omega) (by omega), ha (457 + 18 * s + 3 * 3 + 2) (by omega) (by omega), ha (457 + 18 * s + 3 * 4 + 2) (by omega) (by omega), ha (457 + 18 * s + 3 * 5 + 2) (by omega) (by omega)]
      exact x2
  · have := EQ_cong (a := a) (a' := a') e216 ha2 e997 (fun s g0 g1 => ha _ (by omega) (by omega)) (fun j g0 g1 => ha _ (by omega) (by omega)) hq
    exact ⟨this.1, this.2.1⟩
theorem CR_keep {h h' : zHC} {i : Int} {a a' : Int → Int} (hh : ∀ r j, 64 ≤ r → r ≤ 72 → h' r i j = h r i j) (ha : ∀ j, 209 ≤ j → j < 1898 → a' j = a j) (ha2 : a' 2 = a 2) (ha3 : a' 3 = a 3) (h6 : a 3 ≤ 6) (hR : CR h i a) : CR h' i a' :=
  CR_cong (hh 64 0 (by decide) (by decide)) (hh 65 0 (by decide) (by decide)) (hh 66 0 (by decide) (by decide)) (fun j _ _ => hh 67 j (by decide) (by decide)) (fun j _ _ => hh 68 j (by decide) (by decide)) (fun j _ _ => hh 69 j (by decide) (by decide)) (fun j _ _ => hh 70 j (by decide) (by decide)) (fun j _ _ => hh 71 j (by decide) (by decide)) (fun j _ _ => hh 72 j (by decide) (by decide)) ha ha2 ha3 h6 hR
theorem hcpy_ne {h : zHC} {rd : Nat} {nd : Int} {rs : Nat} {ns sp dp n : Int} {r' : Nat} {n' i' : Int} (hn : ¬ (r' = rd ∧ n' = nd ∧ dp ≤ i' ∧ i' < dp + n)) : hcpy h rd nd rs ns sp dp n r' n' i' = h r' n' i' := if_neg hn
theorem hcpy_eq {h : zHC} {rd : Nat} {nd : Int} {rs : Nat} {ns n i' : Int} (h0 : 0 ≤ i') (h1 : i' < n) : hcpy h rd nd rs ns 0 0 n rd nd i' = h rs ns i' := by
  have e : hcpy h rd nd rs ns 0 0 n rd nd i' = h rs ns (0 + (i' - 0)) := if_pos ⟨rfl, rfl, h0, by omega⟩
  rw [e, show (0 : Int) + (i' - 0) = i' by omega]
/-- a course copied -/
theorem L71 {h : zHC} {i j : Int} {a : Int → Int} (hij : i ≠ j) (hR : CR h j a) (h6 : a 3 ≤ 6) : ∃ h', F71 i j h = some h' ∧ CR h' i a ∧ (∀ r n q, ¬ (64 ≤ r ∧ r ≤ 72 ∧ n = i) → h' r n q = h r n q) := by
  obtain ⟨⟨r1, r2, r3, r4, r5, r6, r7⟩, ⟨l1, l2⟩, hW⟩ := id hR
  obtain ⟨n0, n1, hq⟩ := CW_n hW
  have c4 := hW.2.1
  unfold F71 F72
  show ∃ h', zG _ _ = some h' ∧ _
  have e0 : ∀ r n q, ¬ (64 ≤ r ∧ r ≤ 72 ∧ n = i) → (hcpy (hset (hset (hset h 64 i 0 (h 64 j 0)) 65 i 0 0) 66 i 0 0) 67 i 67 j 0 0 6) r n q = h r n q := by
    intro r n q hne
    rw [hcpy_ne (by omega), hset_ne (by omega), hset_ne (by omega), hset_ne (by omega)]
  have e64 : (hcpy (hset (hset (hset h 64 i 0 (h 64 j 0)) 65 i 0 0) 66 i 0 0) 67 i 67 j 0 0 6) 64 i 0 = h 64 j 0 := by
    rw [hcpy_ne (by omega), hset_ne (by omega), hset_ne (by omega), hset_eq]
  have e67 : ∀ q, 0 ≤ q → q < 6 → (hcpy (hset (hset (hset h 64 i 0 (h 64 j 0)) 65 i 0 0) 66 i 0 0) 67 i 67 j 0 0 6) 67 i q = h 67 j q := by
    intro q q0 q1
    rw [hcpy_eq q0 q1, hset_ne (by omega), hset_ne (by omega), hset_ne (by omega)]
  generalize hcpy (hset (hset (hset h 64 i 0 (h 64 j 0)) 65 i 0 0) 66 i 0 0) 67 i 67 j 0 0 6 = h1 at e0 e64 e67 ⊢
  have f1 : (hset h1 65 i 0 (h1 65 j 0)) 65 i 0 = h 65 j 0 := by rw [hset_eq, e0 _ _ _ (by omega)]
  have f2 : (hset (hset h1 65 i 0 (h1 65 j 0)) 66 i 0 (h1 66 j 0)) 66 i 0 = h 66 j 0 := by rw [hset_eq, e0 _ _ _ (by omega)]
  rw [f1, f2, wmul_eq (x := h 65 j 0) (y := 6) (by omega) (by omega), wmul_eq (x := h 65 j 0) (y := 8) (by omega) (by omega), wmul_eq (x := h 66 j 0) (y := 5) (by omega) (by omega)]
  rw [zG_t (by omega), zG_t (by omega), zG_t (by omega), zG_t (by omega), zG_t (by omega), zG_t (by omega), zG_t (by omega), zG_t (by omega), zG_t (by omega), zG_t (by omega), zG_t (by omega), zG_t (by omega), zG_t (by omega), zG_t (by omega), zG_t (by omega)]
  refine ⟨_, rfl, CR_cong (h := h) (i := j) (a := a) ?_ ?_ ?_ ?_ ?_ ?_ ?_ ?_ ?_ (fun _ _ _ => rfl) rfl rfl h6 hR, ?_⟩
  · rw [hcpy_ne (by omega), hcpy_ne (by omega), hcpy_ne (by omega), hcpy_ne (by omega), hcpy_ne (by omega), hset_ne (by omega), hset_ne (by omega)]
    exact e64
  · rw [hcpy_ne (by omega), hcpy_ne (by omega), hcpy_ne (by omega), hcpy_ne (by omega), hcpy_ne (by omega), hset_ne (by omega)]
    exact f1
  · rw [hcpy_ne (by omega), hcpy_ne (by omega), hcpy_ne (by omega), hcpy_ne (by omega), hcpy_ne (by omega)]
    exact f2
  · intro q q0 q1
    rw [hcpy_ne (by omega), hcpy_ne (by omega), hcpy_ne (by omega), hcpy_ne (by omega), hcpy_ne (by omega), hset_ne (by omega), hset_ne (by omega)]
    exact e67 q q0 q1
  · intro q q0 q1
    rw [hcpy_ne (by omega), hcpy_ne (by omega), hcpy_ne (by omega), hcpy_ne (by omega), hcpy_eq q0 (by omega), hset_ne (by omega), hset_ne (by omega)]
    exact e0 _ _ _ (by omega)
  · intro q q0 q1
    rw [hcpy_ne (by omega), hcpy_ne (by omega), hcpy_ne (by omega), hcpy_eq q0 (by omega), hcpy_ne (by omega), hset_ne (by omega), hset_ne (by omega)]
    exact e0 _ _ _ (by omega)
  · intro q q0 q1
    rw [hcpy_ne (by omega), hcpy_ne (by omega), hcpy_eq q0 (by omega), hcpy_ne (by omega), hcpy_ne (by omega), hset_ne (by omega), hset_ne (by omega)]
    exact e0 _ _ _ (by omega)
  · intro q q0 q1
    rw [hcpy_eq q0 (by omega), hcpy_ne (by omega), hcpy_ne (by omega), hcpy_ne (by omega), hcpy_ne (by omega), hset_ne (by omega), hset_ne (by omega)]
    exact e0 _ _ _ (by omega)
  · intro q q0 q1
    rw [hcpy_ne (by omega), hcpy_eq q0 (by omega), hcpy_ne (by omega), hcpy_ne (by omega), hcpy_ne (by omega), hset_ne (by omega), hset_ne (by omega)]
    exact e0 _ _ _ (by omega)
  · intro r n q hne
    rw [hcpy_ne (by omega), hcpy_ne (by omega), hcpy_ne (by omega), hcpy_ne (by omega), hcpy_ne (by omega), hset_ne (by omega), hset_ne (by omega)]
    exact e0 r n q hne
/-- the hour and the places copied, with nothing said -/
theorem L72 {h : zHC} {i j : Int} {m : zHM} {v : Int} {nm : Int → Int} (hij : i ≠ j) (hV : VR h v (m 14) nm) (hR : CR h j (m 14)) : ∃ h', F72 i j h = some h' ∧ VR h' v (m 14) nm ∧ RC h' i (m 14) (m 14 216) ∧ h' 65 i 0 = 0 ∧ h' 66 i 0 = 0 ∧ (∀ r n q, ¬ (64 ≤ r ∧ r ≤ 72 ∧ n = i) → h' r n q = h r n q) := by
  obtain ⟨⟨r1, r2, r3, r4, r5, r6, r7⟩, ⟨l1, l2⟩, hW⟩ := id hR
  have w6 := hV.2.2.2.2.2.2.2.1
  unfold WN at w6
  have fr : ∀ r n q, ¬ (64 ≤ r ∧ r ≤ 72 ∧ n = i) → (hcpy (hset (hset (hset h 64 i 0 (h 64 j 0)) 65 i 0 0) 66 i 0 0) 67 i 67 j 0 0 6) r n q = h r n q := by
    intro r n q hne
    rw [hcpy_ne (by omega), hset_ne (by omega), hset_ne (by omega), hset_ne (by omega)]
  have e64 : (hcpy (hset (hset (hset h 64 i 0 (h 64 j 0)) 65 i 0 0) 66 i 0 0) 67 i 67 j 0 0 6) 64 i 0 = h 64 j 0 := by
    rw [hcpy_ne (by omega), hset_ne (by omega), hset_ne (by omega), hset_eq]
  have e65 : (hcpy (hset (hset (hset h 64 i 0 (h 64 j 0)) 65 i 0 0) 66 i 0 0) 67 i 67 j 0 0 6) 65 i 0 = 0 := by
    rw [hcpy_ne (by omega), hset_ne (by omega), hset_eq]
  have e66 : (hcpy (hset (hset (hset h 64 i 0 (h 64 j 0)) 65 i 0 0) 66 i 0 0) 67 i 67 j 0 0 6) 66 i 0 = 0 := by
    rw [hcpy_ne (by omega), hset_eq]
  have e67 : ∀ q, 0 ≤ q → q < 6 → (hcpy (hset (hset (hset h 64 i 0 (h 64 j 0)) 65 i 0 0) 66 i 0 0) 67 i 67 j 0 0 6) 67 i q = h 67 j q := by
    intro q q0 q1
    rw [hcpy_eq q0 q1, hset_ne (by omega), hset_ne (by omega), hset_ne (by omega)]
  have c3 := hW.2.1
  refine ⟨_, rfl, VR_keep (fun r q g0 g1 => fr r v q (by omega)) (fun _ _ _ => rfl) (fun _ _ _ => rfl) hV, ⟨by rw [e64]; exact r1, by rw [e65]; omega, c3.1, by rw [e65]; exact Int.le_refl _, by rw [e66]; exact Int.le_refl _, ?_, ?_⟩, e65, e66, fr⟩
  · intro p p0 p1
    rw [e67 p p0 (by omega)]
    exact r6 p p0 p1
  · intro k k0 k1
    rw [e65] at k1
    omega
