section
/-! One saying in one hour. -/
theorem EQ_le {a : Int → Int} (h : EQ a) (h0 : 0 ≤ a 216) (h1 : a 216 ≤ 30) : 0 ≤ a 997 ∧ a 997 ≤ 180 := by
  obtain ⟨⟨b1, b2⟩, -, t⟩ := h
  refine ⟨b1, ?_⟩
  rw [b2]
  have := zsum_le (f := fun s => a (217 + 8 * s + 6)) (n := (a 216).toNat) (b := 6) (fun j j0 j1 => t j j0 (by omega))
  omega
def BS (h : zHC) (m : zHM) (i v k s H : Int) : Prop := (0 ≤ k ∧ k < 30) ∧ (0 ≤ s ∧ s < m 14 216 ∧ m 14 216 ≤ 30) ∧ (VN h v (m 14) ∧ VC h v (m 14) ∧ VW (m 14)) ∧ h 64 i 0 = H ∧ m 14 209 = H ∧ (1 ≤ H ∧ H ≤ 400) ∧ RP h i (m 14) ∧ 0 ≤ h 66 i 0
theorem VN_keep {h h' : zHC} {v : Int} {a a' : Int → Int} (hh : ∀ r j, 576 ≤ r → r ≤ 595 → h' r v j = h r v j) (ha : ∀ k, 0 ≤ k → k < 209 → a' k = a k) (hN : VN h v a) : VN h' v a' := by
  unfold VN
  rw [hh 576 0 (by decide) (by decide), hh 577 0 (by decide) (by decide), hh 578 0 (by decide) (by decide), hh 579 0 (by decide) (by decide), hh 580 0 (by decide) (by decide), hh 581 0 (by decide) (by decide), hh 582 0 (by decide) (by decide), ha 0 (by decide) (by decide), ha 1 (by decide) (by decide), ha 2 (by decide) (by decide), ha 3 (by decide) (by decide), ha 4 (by decide) (by decide), ha 5 (by decide) (by decide), ha 6 (by decide) (by decide)]
  exact hN
theorem VC_keep {h h' : zHC} {v : Int} {a a' : Int → Int} (hh : ∀ r j, 576 ≤ r → r ≤ 595 → h' r v j = h r v j) (ha : ∀ k, 0 ≤ k → k < 209 → a' k = a k) (h6 : a 2 ≤ 6) (hC : VC h v a) : VC h' v a' := by
  intro c c0 c1
  rw [ha 2 (by decide) (by decide)] at c1
  rw [hh 584 c (by decide) (by decide), hh 585 c (by decide) (by decide), hh 586 c (by decide) (by decide), ha _ (by omega) (by omega), ha _ (by omega) (by omega), ha _ (by omega) (by omega)]
  exact hC c c0 c1
theorem BS_keep {h h1 : zHC} {m m1 : zHM} {i v k s H : Int} (hB : BS h m i v k s H) (hc : cfS i k h h1) (hm : mfS s m m1) : BS h1 m1 i v k s H := by
  obtain ⟨b1, b2, ⟨b3, b4, b5⟩, b6, b7, b8, b9, b10⟩ := hB
  have a209 : ∀ k, 0 ≤ k → k < 209 → m1 14 k = m 14 k := fun k g0 g1 => hm.2.2.2 14 k (by omega)
  have w6 := b5.1
  unfold WN at w6
  refine ⟨b1, ?_, ⟨VN_keep (fun r j g0 g1 => hc.2 r v j (by omega)) a209 b3, VC_keep (fun r j g0 g1 => hc.2 r v j (by omega)) a209 (by omega) b4, VW_cong a209 b5⟩, ?_, ?_, b8, ?_, ?_⟩
  · rw [hm.2.2.2 14 216 (by omega)]
    exact b2
  · rw [hc.2 64 i 0 (by omega)]
    exact b6
  · rw [hm.2.2.2 14 209 (by omega)]
    exact b7
  · intro p p0 p1
    rw [a209 3 (by decide) (by decide)] at p1
    rw [hc.2 67 i p (by omega), hm.2.2.2 14 (210 + p) (by omega)]
    exact b9 p p0 p1
  · exact Int.le_trans b10 hc.1
def SI (h : zHC) (m : zHM) (i k s H C : Int) (h1 : zHC) (m1 : zHM) : Prop := CF h1 i k (m1 14) s ∧ CD h1 i k (m1 14) s ∧ SD (m1 14) s H C ∧ SF (m1 14) s ∧ EQ (m1 14) ∧ cfS i k h h1 ∧ mfS s m m1 ∧ h1 66 i 0 ≤ m1 14 997 ∧ (k = s → RL h i (m 14) → RL h1 i (m1 14))
theorem SD_next {a : Int → Int} {s H c : Int} (h : SD a s H c) (hd : ¬ a (457 + 18 * s + 3 * c) = H) : SD a s H (c + 1) := by
  intro c' g0 g1
  obtain ⟨w1, w2, w3, w4, w5⟩ := h c' g0 g1
  refine ⟨w1, w2, w3, ?_, w5⟩
  rw [w4]
  by_cases e : c' = c
  · subst e
    by_cases q : ¬ a (457 + 18 * s + 3 * c') = 0 ∧ (a (457 + 18 * s + 3 * c') < H ∨ a (457 + 18 * s + 3 * c') = H ∧ c' < c')
    · rw [if_pos q, if_pos (by omega)]
    · rw [if_neg q, if_neg (by omega)]
  · by_cases q : ¬ a (457 + 18 * s + 3 * c') = 0 ∧ (a (457 + 18 * s + 3 * c') < H ∨ a (457 + 18 * s + 3 * c') = H ∧ c' < c)
    · rw [if_pos q, if_pos (by omega)]
    · rw [if_neg q, if_neg (by omega)]
theorem SD_end {a : Int → Int} {s H C : Int} (h : SD a s H (a 2)) (h6 : a 2 ≤ 6) (hC : C = 6) : SD a s H C := by
  subst hC
  intro c' g0 g1
  obtain ⟨w1, w2, w3, w4, w5⟩ := h c' g0 g1
  refine ⟨w1, w2, w3, ?_, w5⟩
  rw [w4]
  by_cases q : ¬ a (457 + 18 * s + 3 * c') = 0 ∧ (a (457 + 18 * s + 3 * c') < H ∨ a (457 + 18 * s + 3 * c') = H ∧ c' < a 2)
  · rw [if_pos q, if_pos (by omega)]
  · rw [if_neg q, if_neg]
    intro w
    apply q
    by_cases u : a 2 ≤ c'
    · exact absurd (w5 u) w.1
    · omega
theorem SD_hour {a : Int → Int} {s H : Int} (h : SD a s H 6) : SD a s (H + 1) 0 := by
  intro c' g0 g1
  obtain ⟨w1, w2, w3, w4, w5⟩ := h c' g0 g1
  refine ⟨w1, by omega, w3, ?_, w5⟩
  rw [w4]
  by_cases q : ¬ a (457 + 18 * s + 3 * c') = 0 ∧ (a (457 + 18 * s + 3 * c') < H ∨ a (457 + 18 * s + 3 * c') = H ∧ c' < 6)
  · rw [if_pos q, if_pos (by omega)]
  · rw [if_neg q, if_neg (by omega)]
theorem SD_le1 {a : Int → Int} {s H C c : Int} (h : SD a s H C) (c0 : 0 ≤ c) (c1 : c < 6) : 0 ≤ a (457 + 18 * s + 3 * c + 2) ∧ a (457 + 18 * s + 3 * c + 2) ≤ 1 := by
  obtain ⟨w1, w2, w3, w4, w5⟩ := h c c0 c1
  rw [w4]
  split <;> omega
theorem S_inner {h : zHC} {m : zHM} {i v k s H sn st : Int} (hB : BS h m i v k s H) (sn0 : 0 ≤ sn) (sn1 : sn ≤ 9) (st0 : 0 ≤ st) (st1 : st ≤ 9) (K : Int → Int → zHM → Option zHM) : ∀ (n n' : Nat) (c : Int) (h1 : zHC) (m1 : zHM), 0 ≤ c → c ≤ m 14 2 → m 14 2 - c < n → m 14 2 - c < n' → SI h m i k s H c h1 m1 → ∃ h2 m2, F90_0 n i v k st sn c h1 = (F86 i k h2).bind (fun r1 => some r1) ∧ F236_1 K n' (sn + st) s c m1 = K (sn + st) (s + 1) m2 ∧ SI h m i k s H 6 h2 m2 := by
  intro n
  induction n with
  | zero => intro n' c h1 m1 c0 c1 g1 g2; omega
  | succ n ih =>
    intro n' c h1 m1 c0 c1 g1 g2 hI
    cases n' with
    | zero => omega
    | succ n' =>
      obtain ⟨i1, i2, i3, i4, i5, i6, i7, i8, i9⟩ := id hI
      have hB1 := BS_keep hB i6 i7
      obtain ⟨⟨k0, k1⟩, ⟨s0, s1, s2⟩, ⟨b3, b4, b5⟩, b6, b7, ⟨b8, b8'⟩, b9, b10⟩ := hB1
      have w6 := b5.1
      unfold WN at w6
      have m2e : m1 14 2 = m 14 2 := i7.2.2.2 14 2 (by omega)
      have h2e : h1 578 v 0 = m 14 2 := by rw [← m2e]; exact b3.2.2.1
      rw [F90_0, F236_1, h2e, m2e]
      by_cases e : c = m 14 2
      · rw [if_pos (by omega), if_pos (by omega), wadd_eq (x := s) (by omega) (by omega)]
        refine ⟨h1, m1, rfl, rfl, i1, i2, SD_end (C := 6) (by rw [m2e, ← e]; exact i3) (by omega) rfl, i4, i5, i6, i7, i8, i9⟩
      · have e1 : wadd c 1 = c + 1 := wadd_eq (by omega) (by omega)
        have hcc : ¬ m 14 2 ≤ c := by omega
        rw [if_neg hcc, if_neg hcc, wmul_eq (x := k) (by omega) (by omega), wadd_eq (x := k * 6) (by omega) (by omega), wmul_eq (x := 18) (by omega) (by omega), wmul_eq (x := 3) (by omega) (by omega), wadd_eq (x := 457) (by omega) (by omega), wadd_eq (x := 457 + 18 * s) (by omega) (by omega), wadd_eq (y := 2) (by omega) (by omega), wadd_eq (x := 457 + 18 * s + 3 * c) (y := 1) (by omega) (by omega)]
        simp (disch := omega) only [zG_t]
        rw [b6, b7]
        obtain ⟨d1, d2⟩ := i2 c c0 (by omega)
        obtain ⟨u1, u2, u3, u4, u5⟩ := i3 c c0 (by omega)
        by_cases q1 : m1 14 (457 + 18 * s + 3 * c) = H
        · have q0 : ¬ m1 14 (457 + 18 * s + 3 * c) = 0 := by omega
          rw [if_neg q0, q1] at d1
          have d2 := d2 q0
          obtain ⟨u6, u7⟩ := u3 q0
          rw [if_neg (by omega)] at u4
          have nq : ¬ ¬ H = H := fun w => w rfl
          rw [d1, q1, if_neg nq, if_neg nq, if_pos (show m1 14 (457 + 18 * s + 3 * c + 2) ≤ 0 by omega)]
          obtain ⟨x1, x2, x3, x4, x5, x6⟩ := b5.2.1 c c0 (by omega)
          have y1 := (b4 c c0 (by omega)).2.2
          have m0d : ∀ r j, ¬ (r = 14 ∧ j = 457 + 18 * s + 3 * c + 2) → (mset m1 14 (457 + 18 * s + 3 * c + 2) 1) r j = m1 r j := fun r j hne => mset_ne (by omega)
          have m0e : (mset m1 14 (457 + 18 * s + 3 * c + 2) 1) 14 (457 + 18 * s + 3 * c + 2) = 1 := mset_eq
          rw [F207_s c0 (by omega)]
          show ∃ h2 m2, _ ∧ Option.bind (F238 _ _) _ = K _ _ m2 ∧ _
          generalize hm0 : mset m1 14 (457 + 18 * s + 3 * c + 2) 1 = m0 at m0d m0e ⊢
          rw [m0d 14 (7 + 3 * c + 2) (by omega), m0d 14 (457 + 18 * s + 3 * c + 1) (by omega), y1, d2, wsub_eq (x := m1 14 (7 + 3 * c + 2)) (y := sn) (by omega) (by omega), wsub_eq (y := st) (by omega) (by omega), wsub_eq (y := sn + st) (by omega) (by omega)]
          have hmin : ∃ f, f ≤ 9 ∧ (if m1 14 (7 + 3 * c + 2) - sn - st < m1 14 (457 + 18 * s + 3 * c + 1) then m1 14 (7 + 3 * c + 2) - sn - st else m1 14 (457 + 18 * s + 3 * c + 1)) = f ∧ F238 (m1 14 (457 + 18 * s + 3 * c + 1)) (m1 14 (7 + 3 * c + 2) - (sn + st)) = some f := by
            unfold F238
            by_cases q : m1 14 (7 + 3 * c + 2) - (sn + st) ≤ m1 14 (457 + 18 * s + 3 * c + 1)
            · rw [if_pos q]
              refine ⟨_, ?_, ?_, rfl⟩
              · omega
              · split <;> omega
            · rw [if_neg q]
              refine ⟨_, ?_, ?_, rfl⟩
              · omega
              · split <;> omega
          obtain ⟨f, f9, fe1, fe2⟩ := hmin
          rw [fe1, fe2]
          show ∃ h2 m2, _ ∧ (if f ≤ 0 then _ else _) = K _ _ m2 ∧ _
          have sd0 : SD (m0 14) s H (c + 1) := by
            intro c' g0 g1
            obtain ⟨w1, w2, w3, w4, w5⟩ := i3 c' g0 g1
            rw [m0d _ (457 + 18 * s + 3 * c') (by omega), m0d _ (457 + 18 * s + 3 * c' + 1) (by omega), m0d _ 2 (by omega)]
            refine ⟨w1, w2, w3, ?_, w5⟩
            by_cases e : c' = c
            · subst e
              rw [m0e, if_pos (by omega)]
            · rw [m0d _ _ (by omega), w4]
              by_cases q : ¬ m1 14 (457 + 18 * s + 3 * c') = 0 ∧ (m1 14 (457 + 18 * s + 3 * c') < H ∨ m1 14 (457 + 18 * s + 3 * c') = H ∧ c' < c)
              · rw [if_pos q, if_pos (by omega)]
              · rw [if_neg q, if_neg (by omega)]
          have cf0 : CF h1 i k (m0 14) s := by
            intro w g0 g1
            rw [m0d _ _ (by omega)]
            exact i1 w g0 g1
          have cd0 : CD h1 i k (m0 14) s := by
            intro c' g0 g1
            rw [m0d _ _ (by omega), m0d _ _ (by omega)]
            exact i2 c' g0 g1
          have eq0 : EQ (m0 14) := EQ_cong (m0d _ _ (by omega)) (m0d _ _ (by omega)) (m0d _ _ (by omega)) (fun s' g0 g1 => m0d _ _ (by omega)) (fun j g0 g1 => m0d _ _ (by omega)) i5
          have n997 := EQ_le i5 (by omega) s2
          have mf0 : mfS s m1 m0 := by
            refine ⟨by rw [m0d _ _ (by omega)]; exact Int.le_refl _, by rw [m0d _ _ (by omega)]; exact n997.2, fun j _ g0 g1 => by rw [m0d _ 997 (by omega)] at g1; omega, fun r j hne => m0d _ _ (by omega)⟩
          have sums : m0 14 (217 + 8 * s + 6) < m0 14 (457 + 18 * s + 3 * 0 + 2) + m0 14 (457 + 18 * s + 3 * 1 + 2) + m0 14 (457 + 18 * s + 3 * 2 + 2) + m0 14 (457 + 18 * s + 3 * 3 + 2) + m0 14 (457 + 18 * s + 3 * 4 + 2) + m0 14 (457 + 18 * s + 3 * 5 + 2) := by
            obtain ⟨-, -, -, -, -, -, t7, -⟩ := i4
            rw [m0d _ (217 + 8 * s + 6) (by omega)]
            have o : c = 0 ∨ c = 1 ∨ c = 2 ∨ c = 3 ∨ c = 4 ∨ c = 5 := by omega
            rcases o with o | o | o | o | o | o
            · subst o
              rw [m0e, m0d _ (457 + 18 * s + 3 * 1 + 2) (by omega), m0d _ (457 + 18 * s + 3 * 2 + 2) (by omega), m0d _ (457 + 18 * s + 3 * 3 + 2) (by omega), m0d _ (457 + 18 * s + 3 * 4 + 2) (by omega), m0d _ (457 + 18 * s + 3 * 5 + 2) (by omega)]
              omega
            · subst o
              rw [m0e, m0d _ (457 + 18 * s + 3 * 0 + 2) (by omega), m0d _ (457 + 18 * s + 3 * 2 + 2) (by omega), m0d _ (457 + 18 * s + 3 * 3 + 2) (by omega), m0d _ (457 + 18 * s + 3 * 4 + 2) (by omega), m0d _ (457 + 18 * s + 3 * 5 + 2) (by omega)]
              omega
            · subst o
              rw [m0e, m0d _ (457 + 18 * s + 3 * 0 + 2) (by omega), m0d _ (457 + 18 * s + 3 * 1 + 2) (by omega), m0d _ (457 + 18 * s + 3 * 3 + 2) (by omega), m0d _ (457 + 18 * s + 3 * 4 + 2) (by omega), m0d _ (457 + 18 * s + 3 * 5 + 2) (by omega)]
              omega
            · subst o
              rw [m0e, m0d _ (457 + 18 * s + 3 * 0 + 2) (by omega), m0d _ (457 + 18 * s + 3 * 1 + 2) (by omega), m0d _ (457 + 18 * s + 3 * 2 + 2) (by omega), m0d _ (457 + 18 * s + 3 * 4 + 2) (by omega), m0d _ (457 + 18 * s + 3 * 5 + 2) (by omega)]
              omega
            · subst o
              rw [m0e, m0d _ (457 + 18 * s + 3 * 0 + 2) (by omega), m0d _ (457 + 18 * s + 3 * 1 + 2) (by omega), m0d _ (457 + 18 * s + 3 * 2 + 2) (by omega), m0d _ (457 + 18 * s + 3 * 3 + 2) (by omega), m0d _ (457 + 18 * s + 3 * 5 + 2) (by omega)]
              omega
            · subst o
              rw [m0e, m0d _ (457 + 18 * s + 3 * 0 + 2) (by omega), m0d _ (457 + 18 * s + 3 * 1 + 2) (by omega), m0d _ (457 + 18 * s + 3 * 2 + 2) (by omega), m0d _ (457 + 18 * s + 3 * 3 + 2) (by omega), m0d _ (457 + 18 * s + 3 * 4 + 2) (by omega)]
              omega
          have l0 := SD_le1 sd0 (c := 0) (by decide) (by decide)
          have l1 := SD_le1 sd0 (c := 1) (by decide) (by decide)
          have l2 := SD_le1 sd0 (c := 2) (by decide) (by decide)
          have l3 := SD_le1 sd0 (c := 3) (by decide) (by decide)
          have l4 := SD_le1 sd0 (c := 4) (by decide) (by decide)
          have l5 := SD_le1 sd0 (c := 5) (by decide) (by decide)
          have sf0 : SF (m0 14) s := by
            obtain ⟨t1, t2, t3, t4, t5, t6, t7, t8⟩ := i4
            refine ⟨?_, ?_, ?_, ?_, ?_, ?_, ⟨?_, Int.le_of_lt sums⟩, ?_⟩
            · rw [m0d _ _ (by omega)]; exact t1
            · rw [m0d _ _ (by omega)]; exact t2
            · rw [m0d _ _ (by omega)]; exact t3
            · rw [m0d _ _ (by omega)]; exact t4
            · rw [m0d _ _ (by omega)]; exact t5
            · rw [m0d _ _ (by omega)]; exact t6
            · rw [m0d _ _ (by omega)]; exact t7.1
            · rw [m0d _ _ (by omega)]; exact t8
          have rl0 : RL h1 i (m1 14) → RL h1 i (m0 14) := by
            intro hr
            refine ⟨by rw [m0d _ _ (by omega)]; exact hr.1, fun j j0 j1 w w0 w1 => ?_⟩
            rw [m0d _ 997 (by omega)] at j1
            rw [m0d _ _ (by omega)]
            exact hr.2 j j0 j1 w w0 w1
          by_cases q2 : f ≤ 0
          · have eF : F92 i v k c f h1 = some h1 := by
              unfold F92
              rw [if_neg (by omega)]
            rw [if_pos q2, eF]
            show ∃ h2 m2, F90_1 _ _ _ _ _ _ _ _ = _ ∧ F236_2 K _ _ _ _ _ = _ ∧ _
            unfold F90_1 F236_2
            rw [e1]
            exact ih n' (c + 1) h1 m0 (by omega) (by omega) (by omega) (by omega) ⟨cf0, cd0, sd0, sf0, eq0, i6, mfS_trans s0 (by omega) i7 mf0, by rw [m0d _ _ (by omega)]; exact i8, fun ks hr => rl0 (i9 ks hr)⟩
          · rw [if_neg q2]
            obtain ⟨h2, m2, z1, z2, z3, z4, z5, z6, z7, z8, z9, z10, z11, z12, z13, z14⟩ := S_sound (h := h1) (m := m0) (i := i) (v := v) (k := k) (s := s) (H := H) (C := c + 1) (c := c) (f := f) k0 k1 s0 (by rw [m0d _ _ (by omega)]; exact s1) (by rw [m0d _ _ (by omega)]; exact s2) c0 (by rw [m0d _ _ (by omega)]; omega) (by omega) f9 (by omega) b8' (VN_keep (fun _ _ _ _ => rfl) (fun j g0 g1 => m0d _ _ (by omega)) b3) (VC_keep (fun _ _ _ _ => rfl) (fun j g0 g1 => m0d _ _ (by omega)) (by omega) b4) (VW_cong (fun j g0 g1 => m0d _ _ (by omega)) b5) b6 (by rw [m0d _ _ (by omega)]; exact b7) (by intro p p0 p1; rw [m0d _ 3 (by omega)] at p1; rw [m0d _ _ (by omega)]; exact b9 p p0 p1) b10 (by have := EQ_lt eq0 s0 (by rw [m0d _ _ (by omega)]; exact s1) (by rw [m0d _ _ (by omega)]; exact s2) (by omega); rw [m0d _ 997 (by omega)] at this; omega) cf0 cd0 sd0 sf0 sums (by omega) eq0
            rw [z1, z2]
            show ∃ h2 m2, F90_1 _ _ _ _ _ _ _ _ = _ ∧ F236_2 K _ _ _ _ _ = _ ∧ _
            unfold F90_1 F236_2
            rw [e1]
            exact ih n' (c + 1) h2 m2 (by omega) (by omega) (by omega) (by omega) ⟨z3, z4, z5, z6, z7, cfS_trans i6 z8, mfS_trans s0 (by omega) i7 (mfS_trans s0 (by omega) mf0 z9), by rw [z10, z11, m0d _ 997 (by omega)]; omega, fun ks hr => z14 ks (rl0 (i9 ks hr))⟩
        · have d3 : ¬ h1 68 i (k * 6 + c) = H := by
            rw [d1]
            split <;> omega
          rw [if_pos d3, if_pos q1]
          unfold F90_1 F236_2
          rw [e1]
          exact ih n' (c + 1) h1 m1 (by omega) (by omega) (by omega) (by omega) ⟨i1, i2, SD_next i3 q1, i4, i5, i6, i7, i8, i9⟩
theorem F86_s {h : zHC} {i k H : Int} (k0 : 0 ≤ k) (k1 : k < 30) (hH : h 64 i 0 = H) (hd : ∀ c, 0 ≤ c → c < 6 → h 68 i (k * 6 + c) < 1000000) : ∃ h', F86 i k h = some h' ∧ CS h' i k H ∧ ∀ r n j, ¬ (r = 72 ∧ n = i ∧ j = k) → h' r n j = h r n j := by
  have key : ∀ (n : Nat) (c f : Int), 0 ≤ c → c ≤ 6 → 6 - c < n → (∀ c', 0 ≤ c' → c' < c → H < h 68 i (k * 6 + c') → f ≤ h 68 i (k * 6 + c')) → (f = 1000000 ∨ ∃ c', 0 ≤ c' ∧ c' < 6 ∧ h 68 i (k * 6 + c') = f ∧ H < f) → ∃ f', F86_0 n i k f (k * 6 + c) h = some (hset h 72 i k f') ∧ (∀ c', 0 ≤ c' → c' < 6 → H < h 68 i (k * 6 + c') → f' ≤ h 68 i (k * 6 + c')) ∧ (f' = 1000000 ∨ ∃ c', 0 ≤ c' ∧ c' < 6 ∧ h 68 i (k * 6 + c') = f' ∧ H < f') := by
    intro n
    induction n with
    | zero => intro c f c0 c1 g; omega
    | succ n ih =>
      intro c f c0 c1 g q1 q2
      rw [F86_0, wadd_eq (x := k) (by omega) (by omega), wmul_eq (by omega) (by omega)]
      by_cases e : c = 6
      · subst e
        rw [if_pos (by omega), zG_t (by omega)]
        exact ⟨f, rfl, q1, q2⟩
      · have e1 : wadd (k * 6 + c) 1 = k * 6 + (c + 1) := by rw [wadd_eq (by omega) (by omega)]; omega
        have hl := hd c c0 (by omega)
        rw [if_neg (by omega), zG_t (by omega), zG_t (by omega), zG_t (by omega), hH]
        unfold F86_1
        rw [e1]
        by_cases w1 : h 68 i (k * 6 + c) ≤ H
        · rw [if_pos w1]
          refine ih (c + 1) f (by omega) (by omega) (by omega) (fun c' g0 g1 g2 => ?_) q2
          by_cases u : c' = c
          · subst u; omega
          · exact q1 c' g0 (by omega) g2
        · rw [if_neg w1]
          by_cases w2 : f ≤ h 68 i (k * 6 + c)
          · rw [if_pos w2]
            refine ih (c + 1) f (by omega) (by omega) (by omega) (fun c' g0 g1 g2 => ?_) q2
            by_cases u : c' = c
            · subst u; exact w2
            · exact q1 c' g0 (by omega) g2
          · rw [if_neg w2]
            refine ih (c + 1) _ (by omega) (by omega) (by omega) (fun c' g0 g1 g2 => ?_) (Or.inr ⟨c, c0, by omega, rfl, by omega⟩)
            by_cases u : c' = c
            · subst u; exact Int.le_refl _
            · have := q1 c' g0 (by omega) g2
              omega
  obtain ⟨f', g1, g2, g3⟩ := key zFu 0 1000000 (by decide) (by decide) (by have := zFu_big; omega) (fun c' g0 g1 => by omega) (Or.inl rfl)
  rw [Int.add_zero] at g1
  refine ⟨hset h 72 i k f', ?_, ⟨?_, ?_⟩, ?_⟩
  · unfold F86
    rw [wmul_eq (by omega) (by omega)]
    exact g1
  · intro c c0 c1
    rw [hset_ne (by omega), hset_eq]
    exact g2 c c0 c1
  · rw [hset_eq]
    rcases g3 with g3 | ⟨c, c0, c1, c2, c3⟩
    · exact Or.inl g3
    · exact Or.inr ⟨c, c0, c1, by rw [hset_ne (by omega)]; exact c2, c3⟩
  · intro r n j hne
    exact hset_ne (by omega)
theorem L91 {h : zHC} {m : zHM} {v H : Int} (hN : h 582 v 0 = m 14 6) (n0 : 0 ≤ m 14 6) (n1 : m 14 6 ≤ 6) (hS : VS h v (m 14)) (hW : WS (m 14)) : ∃ sn, F91 v H h = some sn ∧ F208 H m = some sn ∧ 0 ≤ sn ∧ sn ≤ 9 := by
  have key : ∀ (n n' : Nat) (j la d : Int), 0 ≤ j → j ≤ m 14 6 → m 14 6 - j < n → m 14 6 - j < n' → 0 ≤ d → d ≤ 9 → (la = -1 ∨ ∃ q, 0 ≤ q ∧ q < j ∧ m 14 (197 + 2 * q) = la) → ∃ sn, F91_0 h n v H la d j = some sn ∧ F208_0 m n' H d la j = some sn ∧ 0 ≤ sn ∧ sn ≤ 9 := by
    intro n
    induction n with
    | zero => intro n' j la d j0 j1 g1 g2; omega
    | succ n ih =>
      intro n' j la d j0 j1 g1 g2 d0 d1 hl
      cases n' with
      | zero => omega
      | succ n' =>
        rw [F91_0, F208_0, hN]
        by_cases e : j = m 14 6
        · rw [if_pos (by omega), if_pos (by omega)]
          exact ⟨d, rfl, rfl, d0, d1⟩
        · obtain ⟨x1, x2⟩ := hS j j0 (by omega)
          obtain ⟨y1, y2, y3, y4, y5⟩ := hW j j0 (by omega)
          have e1 : wadd j 1 = j + 1 := wadd_eq (by omega) (by omega)
          have hj : ¬ m 14 6 ≤ j := by omega
          rw [if_neg hj, if_neg hj, wmul_eq (by omega) (by omega), wadd_eq (x := 197) (by omega) (by omega), wadd_eq (x := 197 + 2 * j) (by omega) (by omega)]
          simp (disch := omega) only [zG_t]
          rw [x1, x2]
          unfold F91_1 F208_1
          rw [e1]
          have hl' : la = -1 ∨ ∃ q, 0 ≤ q ∧ q < j + 1 ∧ m 14 (197 + 2 * q) = la := by
            rcases hl with hl | ⟨q, q0, q1, q2⟩
            · exact Or.inl hl
            · exact Or.inr ⟨q, q0, by omega, q2⟩
          by_cases w1 : H < m 14 (197 + 2 * j)
          · rw [if_pos w1, if_pos w1]
            exact ih n' (j + 1) la d (by omega) (by omega) (by omega) (by omega) d0 d1 hl'
          · rw [if_neg w1, if_neg w1]
            by_cases w2 : m 14 (197 + 2 * j) ≤ la
            · have w3 : ¬ la ≤ m 14 (197 + 2 * j) := by
                intro w
                rcases hl with hl | ⟨q, q0, q1, q2⟩
                · omega
                · exact y5 q q0 q1 (by omega)
              rw [if_pos w2, if_neg w3]
              exact ih n' (j + 1) la d (by omega) (by omega) (by omega) (by omega) d0 d1 hl'
            · rw [if_neg w2, if_pos (show la ≤ m 14 (197 + 2 * j) by omega)]
              exact ih n' (j + 1) _ _ (by omega) (by omega) (by omega) (by omega) y3 y4 (Or.inr ⟨j, j0, by omega, rfl⟩)
  unfold F91 F208
  exact key zFu zFu 0 (-1) 0 (by decide) n0 (by have := zFu_big; omega) (by have := zFu_big; omega) (by decide) (by decide) (Or.inl rfl)
end
section
/-! An hour. -/
theorem S_give {h : zHC} {m : zHM} {i v k s H st : Int} (hB : BS h m i v k s H) (hVS : VS h v (m 14)) (st0 : 0 ≤ st) (st1 : st ≤ 9) (h1 : CF h i k (m 14) s) (h2 : CD h i k (m 14) s) (h3 : SD (m 14) s H 0) (h4 : SF (m 14) s) (h5 : EQ (m 14)) (h6 : h 66 i 0 ≤ m 14 997) : ∃ sn h' , F208 H m = some sn ∧ 0 ≤ sn ∧ sn ≤ 9 ∧ F90 i v k st h = some h' ∧ ∀ K, ∃ m', F236_1 K zFu (sn + st) s 0 m = K (sn + st) (s + 1) m' ∧ CF h' i k (m' 14) s ∧ CD h' i k (m' 14) s ∧ CS h' i k H ∧ SW (m' 14) s H 6 ∧ EQ (m' 14) ∧ cfS i k h h' ∧ mfS s m m' ∧ h' 66 i 0 ≤ m' 14 997 ∧ (k = s → RL h i (m 14) → RL h' i (m' 14)) := by
  obtain ⟨⟨k0, k1⟩, ⟨s0, s1, s2⟩, ⟨b3, b4, b5⟩, b6, b7, ⟨b8, b8'⟩, b9, b10⟩ := id hB
  have w6 := b5.1
  unfold WN at w6
  obtain ⟨sn, g1, g2, g3, g4⟩ := L91 (h := h) (m := m) (v := v) (H := H) b3.2.2.2.2.2.2 (by omega) (by omega) hVS b5.2.2.2.2
  have n997 := EQ_le h5 (by omega) s2
  have hI : SI h m i k s H 0 h m := ⟨h1, h2, h3, h4, h5, ⟨Int.le_refl _, fun _ _ _ _ => rfl⟩, ⟨Int.le_refl _, n997.2, fun j _ j0 j1 => by omega, fun _ _ _ => rfl⟩, h6, fun _ q => q⟩
  have big := zFu_big
  obtain ⟨ha, ma, q1, q2, q3⟩ := S_inner hB g3 g4 st0 st1 (fun _ _ m => some m) zFu zFu 0 h m (by decide) (by omega) (by omega) (by omega) hI
  have q2' := q2
  obtain ⟨i1, i2, i3, i4, i5, i6, i7, i8, i9⟩ := q3
  have hda : ∀ c, 0 ≤ c → c < 6 → ha 68 i (k * 6 + c) < 1000000 := by
    intro c c0 c1
    obtain ⟨d1, d2⟩ := i2 c c0 c1
    obtain ⟨u1, u2, u3, u4, u5⟩ := i3 c c0 c1
    rw [d1]
    split <;> omega
  obtain ⟨hb, e1, e2, e3⟩ := F86_s (h := ha) (i := i) (k := k) (H := H) k0 k1 (by rw [i6.2 64 i 0 (by omega)]; exact b6) hda
  refine ⟨sn, hb, g2, g3, g4, ?_, fun K => ?_⟩
  · unfold F90
    rw [b6, g1]
    show F90_0 zFu i v k st sn 0 h = _
    rw [q1, e1]
    rfl
  · obtain ⟨ha', mb, r1, r2, r3⟩ := S_inner hB g3 g4 st0 st1 K zFu zFu 0 h m (by decide) (by omega) (by omega) (by omega) hI
    obtain ⟨j1, j2, j3, j4, j5, j6, j7, j8, j9⟩ := r3
    have hda' : ∀ c, 0 ≤ c → c < 6 → ha' 68 i (k * 6 + c) < 1000000 := by
      intro c c0 c1
      obtain ⟨d1, d2⟩ := j2 c c0 c1
      obtain ⟨u1, u2, u3, u4, u5⟩ := j3 c c0 c1
      rw [d1]
      split <;> omega
    obtain ⟨hb', f1, f2, f3⟩ := F86_s (h := ha') (i := i) (k := k) (H := H) k0 k1 (by rw [j6.2 64 i 0 (by omega)]; exact b6) hda'
    have eb : hb' = hb := by
      have x := r1.symm.trans q1
      rw [f1, e1] at x
      exact Option.some.inj x
    subst eb
    refine ⟨mb, r2, ?_, ?_, f2, ⟨j3, j4⟩, j5, ?_, j7, ?_, ?_⟩
    · intro w g0 g1
      rw [f3 _ _ _ (by omega)]
      exact j1 w g0 g1
    · intro c g0 g1
      rw [f3 _ _ _ (by omega), f3 _ _ _ (by omega)]
      exact j2 c g0 g1
    · exact cfS_trans j6 ⟨by rw [f3 _ _ _ (by omega)]; exact Int.le_refl _, fun r n j hne => f3 r n j (by omega)⟩
    · rw [f3 _ _ _ (by omega)]
      exact j8
    · intro ks hr
      obtain ⟨l1, l2⟩ := j9 ks hr
      refine ⟨by rw [f3 _ _ _ (by omega)]; exact l1, fun j j0 j1 w w0 w1 => ?_⟩
      rw [f3 _ _ _ (by omega)]
      exact l2 j j0 j1 w w0 w1
/-- the model's hour of one saying, without the class's -/
theorem M_step {h : zHC} {m : zHM} {v s H st : Int} (s0 : 0 ≤ s) (s1 : s < m 14 216) (s2 : m 14 216 ≤ 30) (hN : VN h v (m 14)) (hC : VC h v (m 14)) (hVS : VS h v (m 14)) (hW : VW (m 14)) (hHm : m 14 209 = H) (H0 : 1 ≤ H) (H1 : H ≤ 400) (hP : ∀ p, 0 ≤ p → p < m 14 3 → 0 ≤ m 14 (210 + p) ∧ m 14 (210 + p) < 100) (st0 : 0 ≤ st) (st1 : st ≤ 9) (h3 : SD (m 14) s H 0) (h4 : SF (m 14) s) (h5 : EQ (m 14)) : ∃ sn, F208 H m = some sn ∧ 0 ≤ sn ∧ sn ≤ 9 ∧ ∀ K, ∃ m', F236_1 K zFu (sn + st) s 0 m = K (sn + st) (s + 1) m' ∧ SW (m' 14) s H 6 ∧ EQ (m' 14) ∧ mfS s m m' := by
  let vh : zHC := fun r n j => if r = 64 then H else if r = 66 then 0 else if r = 67 then m 14 (210 + j) else if r = 68 then (if m 14 (457 + 3 * j) = 0 then -1 else m 14 (457 + 3 * j)) else if r = 69 then m 14 (457 + 3 * j + 1) else if r = 70 then m 14 (217 + j) else h r n j
  have hv : ∀ r n j, 576 ≤ r → vh r n j = h r n j := by
    intro r n j hr
    show (if r = 64 then _ else _) = _
    rw [if_neg (by omega), if_neg (by omega), if_neg (by omega), if_neg (by omega), if_neg (by omega), if_neg (by omega)]
  have n997 := EQ_le h5 (by omega) s2
  have w6 := hW.1
  unfold WN at w6
  have hB : BS vh m 0 v s s H := by
    refine ⟨⟨s0, by omega⟩, ⟨s0, s1, s2⟩, ⟨VN_keep (fun r j g0 g1 => hv r v j g0) (fun _ _ _ => rfl) hN, VC_keep (fun r j g0 g1 => hv r v j g0) (fun _ _ _ => rfl) (by omega) hC, hW⟩, rfl, hHm, ⟨H0, H1⟩, ?_, Int.le_refl 0⟩
    intro p p0 p1
    exact ⟨rfl, hP p p0 p1⟩
  have hVS' : VS vh v (m 14) := by
    intro c c0 c1
    rw [hv _ _ _ (by decide), hv _ _ _ (by decide)]
    exact hVS c c0 c1
  have cf : CF vh 0 s (m 14) s := by
    intro w w0 w1
    show m 14 (217 + (s * 8 + w)) = _
    rw [show 217 + (s * 8 + w) = 217 + 8 * s + w by omega]
  have cd : CD vh 0 s (m 14) s := by
    intro c c0 c1
    refine ⟨?_, fun _ => ?_⟩
    · show (if m 14 (457 + 3 * (s * 6 + c)) = 0 then -1 else m 14 (457 + 3 * (s * 6 + c))) = _
      rw [show 457 + 3 * (s * 6 + c) = 457 + 18 * s + 3 * c by omega]
    · show m 14 (457 + 3 * (s * 6 + c) + 1) = _
      rw [show 457 + 3 * (s * 6 + c) + 1 = 457 + 18 * s + 3 * c + 1 by omega]
  obtain ⟨sn, h', g1, g2, g3, g4, g5⟩ := S_give hB hVS' st0 st1 cf cd h3 h4 h5 (by show (0 : Int) ≤ _; exact n997.1)
  refine ⟨sn, g1, g2, g3, fun K => ?_⟩
  obtain ⟨m', e1, e2, e3, e4, e5, e6, e7, e8, e9⟩ := g5 K
  exact ⟨m', e1, e5, e6, e8⟩
/-- nothing of this saying comes in this hour -/
theorem S_skip {m : zHM} {s H less : Int} (s0 : 0 ≤ s) (s1 : s < 30) (n0 : 0 ≤ m 14 2) (n1 : m 14 2 ≤ 6) (hHm : m 14 209 = H) (K : Int → Int → zHM → Option zHM) (hd : ∀ c, 0 ≤ c → c < m 14 2 → ¬ m 14 (457 + 18 * s + 3 * c) = H) : ∀ (n : Nat) (c : Int), 0 ≤ c → c ≤ m 14 2 → m 14 2 - c < n → F236_1 K n less s c m = K less (s + 1) m := by
  intro n
  induction n with
  | zero => intro c c0 c1 g; omega
  | succ n ih =>
    intro c c0 c1 g
    rw [F236_1]
    by_cases e : c = m 14 2
    · rw [if_pos (by omega), wadd_eq (by omega) (by omega)]
    · rw [if_neg (by omega), wmul_eq (x := 18) (by omega) (by omega), wmul_eq (x := 3) (by omega) (by omega), wadd_eq (x := 457) (by omega) (by omega), wadd_eq (x := 457 + 18 * s) (by omega) (by omega), zG_t (by omega), hHm, if_pos (hd c c0 (by omega))]
      unfold F236_2
      rw [wadd_eq (by omega) (by omega)]
      exact ih (c + 1) (by omega) (by omega) (by omega)
theorem SD_keep {m m' : zHM} {s s' H C : Int} (t0 : 0 ≤ s) (t1 : s < 30) (hm : mfS s m m') (hs : s' ≠ s) (s0 : 0 ≤ s') (s1 : s' < 30) (h : SD (m 14) s' H C) : SD (m' 14) s' H C := by
  intro c c0 c1
  rw [hm.2.2.2 14 _ (by omega), hm.2.2.2 14 _ (by omega), hm.2.2.2 14 _ (by omega), hm.2.2.2 14 2 (by omega)]
  exact h c c0 c1
theorem SF_keep {m m' : zHM} {s s' : Int} (t0 : 0 ≤ s) (t1 : s < 30) (hm : mfS s m m') (hs : s' ≠ s) (s0 : 0 ≤ s') (s1 : s' < 30) (h : SF (m 14) s') : SF (m' 14) s' := by
  unfold SF at *
  rw [hm.2.2.2 14 (217 + 8 * s') (by omega), hm.2.2.2 14 (217 + 8 * s' + 1) (by omega), hm.2.2.2 14 (217 + 8 * s' + 2) (by omega), hm.2.2.2 14 (217 + 8 * s' + 3) (by omega), hm.2.2.2 14 (217 + 8 * s' + 4) (by omega), hm.2.2.2 14 (217 + 8 * s' + 5) (by omega), hm.2.2.2 14 (217 + 8 * s' + 6) (by omega), hm.2.2.2 14 (217 + 8 * s' + 7) (by omega), hm.2.2.2 14 (457 + 18 * s' + 3 * 0 + 2) (by omega), hm.2.2.2 14 (457 + 18 * s' + 3 * 1 + 2) (by omega), hm.2.2.2 14 (457 + 18 * s' + 3 * 2 + 2) (by omega), hm.2.2.2 14 (457 + 18 * s' + 3 * 3 + 2) (by omega), hm.2.2.2 14 (457 + 18 * s' + 3 * 4 + 2) (by omega), hm.2.2.2 14 (457 + 18 * s' + 3 * 5 + 2) (by omega)]
  exact h
theorem CF_keep {h h' : zHC} {m m' : zHM} {i k k' s s' : Int} (t0 : 0 ≤ s) (t1 : s < 30) (hc : cfS i k h h') (hm : mfS s m m') (hk : k' ≠ k) (hs : s' ≠ s) (s0 : 0 ≤ s') (s1 : s' < 30) (h1 : CF h i k' (m 14) s') : CF h' i k' (m' 14) s' := by
  intro w g0 g1
  rw [hc.2 _ _ _ (by omega), hm.2.2.2 14 _ (by omega)]
  exact h1 w g0 g1
theorem CD_keep {h h' : zHC} {m m' : zHM} {i k k' s s' : Int} (t0 : 0 ≤ s) (t1 : s < 30) (hc : cfS i k h h') (hm : mfS s m m') (hk : k' ≠ k) (hs : s' ≠ s) (s0 : 0 ≤ s') (s1 : s' < 30) (h1 : CD h i k' (m 14) s') : CD h' i k' (m' 14) s' := by
  intro c g0 g1
  rw [hc.2 _ _ _ (by omega), hc.2 _ _ _ (by omega), hm.2.2.2 14 _ (by omega), hm.2.2.2 14 _ (by omega)]
  exact h1 c g0 g1
theorem CS_keep {h h' : zHC} {i k k' H : Int} (hc : cfS i k h h') (hk : k' ≠ k) (h1 : CS h i k' H) : CS h' i k' H := by
  have e72 := hc.2 72 i k' (by omega)
  refine ⟨fun c g0 g1 => ?_, ?_⟩
  · rw [hc.2 _ _ _ (by omega), e72]
    exact h1.1 c g0 g1
  · rw [e72]
    rcases h1.2 with q | ⟨c, q1, q2, q3, q4⟩
    · exact Or.inl q
    · exact Or.inr ⟨c, q1, q2, by rw [hc.2 _ _ _ (by omega)]; exact q3, q4⟩
/-- within an hour: sayings below q have had it -/
def PI (h : zHC) (m : zHM) (i v σ H q : Int) : Prop := (VN h v (m 14) ∧ VC h v (m 14) ∧ VS h v (m 14) ∧ VW (m 14)) ∧ (h 64 i 0 = H ∧ m 14 209 = H ∧ 1 ≤ H ∧ H ≤ 400) ∧ RP h i (m 14) ∧ (0 ≤ h 66 i 0 ∧ h 66 i 0 ≤ m 14 997) ∧ (h 65 i 0 + σ = m 14 216 ∧ 0 ≤ σ ∧ 0 ≤ h 65 i 0 ∧ m 14 216 ≤ 30) ∧ (∀ s, 0 ≤ s → s < m 14 216 → SD (m 14) s H (if s < q then 6 else 0) ∧ SF (m 14) s) ∧ (∀ k, 0 ≤ k → k < h 65 i 0 → CF h i k (m 14) (σ + k) ∧ CD h i k (m 14) (σ + k) ∧ CS h i k (if σ + k < q then H else H - 1)) ∧ EQ (m 14) ∧ (σ = 0 → RL h i (m 14))
def mfC (m m' : zHM) : Prop := m 14 997 ≤ m' 14 997 ∧ (∀ j, 0 ≤ j → m 14 997 ≤ j → j < m' 14 997 → m' 14 (998 + 5 * j + 2) = m' 14 209) ∧ m' 14 216 = m 14 216 ∧ ∀ r j, ¬ (r = 14 ∧ ((209 ≤ j ∧ j < 216) ∨ j = 997 ∨ (998 ≤ j ∧ 998 + 5 * m 14 997 ≤ j ∧ j < 1898) ∨ (217 ≤ j ∧ j < 997))) → m' r j = m r j
def cfC (i : Int) (h h' : zHC) : Prop := h 66 i 0 ≤ h' 66 i 0 ∧ h' 65 i 0 = h 65 i 0 ∧ ∀ r n j, ¬ (n = i ∧ 64 ≤ r ∧ r ≤ 72 ∧ ¬ (r = 71 ∧ j < 5 * h 66 i 0)) → h' r n j = h r n j
theorem mfS_C {s : Int} {m m' : zHM} (s0 : 0 ≤ s) (s1 : s < 30) (h : mfS s m m') : mfC m m' :=
  ⟨h.1, fun j gz g0 g1 => by rw [h.2.2.1 j gz g0 g1, h.2.2.2 14 209 (by omega)], h.2.2.2 14 216 (by omega), fun r j hne => h.2.2.2 r j (by omega)⟩
theorem cfS_C {i k : Int} {h h' : zHC} (hc : cfS i k h h') : cfC i h h' :=
  ⟨hc.1, hc.2 65 i 0 (by omega), fun r n j hne => hc.2 r n j (by omega)⟩
/-- within the hour (209 stays) -/
def mfH (m m' : zHM) : Prop := mfC m m' ∧ m' 14 209 = m 14 209
theorem mfH_trans {m m' m'' : zHM} (h1 : mfH m m') (h2 : mfH m' m'') : mfH m m'' := by
  obtain ⟨⟨a1, a2, a3, a4⟩, a5⟩ := h1
  obtain ⟨⟨b1, b2, b3, b4⟩, b5⟩ := h2
  refine ⟨⟨Int.le_trans a1 b1, fun j gz g0 g1 => ?_, b3.trans a3, fun r j hne => ?_⟩, b5.trans a5⟩
  · by_cases q : j < m' 14 997
    · rw [b4 _ _ (by omega), b5]
      exact a2 j gz g0 q
    · exact b2 j gz (by omega) g1
  · rw [b4 r j (by omega), a4 r j hne]
theorem cfC_trans {i : Int} {h h' h'' : zHC} (h1 : cfC i h h') (h2 : cfC i h' h'') : cfC i h h'' := by
  obtain ⟨a1, a2, a3⟩ := h1
  obtain ⟨b1, b2, b3⟩ := h2
  refine ⟨Int.le_trans a1 b1, b2.trans a2, fun r n j hne => ?_⟩
  rw [b3 r n j (by omega), a3 r n j hne]
theorem VS_keep {h h' : zHC} {v : Int} {a a' : Int → Int} (hh : ∀ r j, 576 ≤ r → r ≤ 595 → h' r v j = h r v j) (ha : ∀ k, 0 ≤ k → k < 209 → a' k = a k) (h6 : a 6 ≤ 6) (hC : VS h v a) : VS h' v a' := by
  intro c c0 c1
  rw [ha 6 (by decide) (by decide)] at c1
  rw [hh 594 c (by decide) (by decide), hh 595 c (by decide) (by decide), ha _ (by omega) (by omega), ha _ (by omega) (by omega)]
  exact hC c c0 c1
/-- the model's part of an hour, before the class's first saying -/
theorem PI_model {h : zHC} {i v σ H st : Int} (st0 : 0 ≤ st) (st1 : st ≤ 9) : ∀ (d n : Nat) (q : Int) (m : zHM), PI h m i v σ H q → 0 ≤ q → q ≤ σ → σ - q ≤ d → d < n → ∃ n' m' sn, F208 H m = some sn ∧ F208 H m' = some sn ∧ 0 ≤ sn ∧ sn ≤ 9 ∧ n ≤ n' + d ∧ F236_0 n (sn + st) q m = F236_0 n' (sn + st) σ m' ∧ PI h m' i v σ H σ ∧ mfH m m' := by
  intro d
  induction d with
  | zero =>
    intro n q m hI q0 q1 g0 g1
    have e : q = σ := by omega
    subst e
    obtain ⟨⟨p1, p2, p3, p4⟩, ⟨p5, p6, p7, p8⟩, p9, ⟨p10, p11⟩, ⟨p12, p13, p14, p15⟩, p16, p17, p18, p19⟩ := id hI
    have w6 := p4.1
    unfold WN at w6
    obtain ⟨sn, e1, e2, e3, e4⟩ := L91 (h := h) (m := m) (v := v) (H := H) p1.2.2.2.2.2.2 (by omega) (by omega) p3 p4.2.2.2.2
    exact ⟨n, m, sn, e2, e2, e3, e4, by omega, rfl, hI, ⟨Int.le_refl _, fun j _ j0 j1 => by omega, rfl, fun _ _ _ => rfl⟩, rfl⟩
  | succ d ih =>
    intro n q m hI q0 q1 g0 g1
    by_cases e : q = σ
    · obtain ⟨n', m', sn, z1, z2, z3, z4, z5, z6⟩ := ih n q m hI q0 q1 (by omega) (by omega)
      exact ⟨n', m', sn, z1, z2, z3, z4, by omega, z6⟩
    · obtain ⟨⟨p1, p2, p3, p4⟩, ⟨p5, p6, p7, p8⟩, p9, ⟨p10, p11⟩, ⟨p12, p13, p14, p15⟩, p16, p17, p18, p19⟩ := id hI
      cases n with
      | zero => omega
      | succ n =>
        have w6 := p4.1
        unfold WN at w6
        obtain ⟨sq1, sq2⟩ := p16 q q0 (by omega)
        rw [if_neg (by omega)] at sq1
        obtain ⟨sn, e1, e2, e3, e4⟩ := M_step (h := h) (m := m) (v := v) (s := q) (H := H) (st := st) q0 (by omega) p15 p1 p2 p3 p4 p6 p7 p8 (fun p g0 g1 => (p9 p g0 g1).2) st0 st1 sq1 sq2 p18
        obtain ⟨m1, f1, f2, f3, f4⟩ := e4 (F236_0 n)
        have a209 : ∀ k, 0 ≤ k → k < 209 → m1 14 k = m 14 k := fun k g0 g1 => f4.2.2.2 14 k (by omega)
        have e216 : m1 14 216 = m 14 216 := f4.2.2.2 14 216 (by omega)
        have e6 : m1 14 6 = m 14 6 := a209 6 (by decide) (by decide)
        have hI1 : PI h m1 i v σ H (q + 1) := by
          refine ⟨⟨VN_keep (fun _ _ _ _ => rfl) a209 p1, VC_keep (fun _ _ _ _ => rfl) a209 (by omega) p2, VS_keep (fun _ _ _ _ => rfl) a209 (by omega) p3, VW_cong a209 p4⟩, ⟨p5, by rw [f4.2.2.2 14 209 (by omega)]; exact p6, p7, p8⟩, ?_, ⟨p10, Int.le_trans p11 f4.1⟩, ⟨by rw [e216]; exact p12, p13, p14, by rw [e216]; exact p15⟩, ?_, ?_, f3, fun s0 => ?_⟩
          · intro p g0 g1
            rw [a209 3 (by decide) (by decide)] at g1
            rw [f4.2.2.2 14 (210 + p) (by omega)]
            exact p9 p g0 g1
          · intro s g0 g1
            rw [e216] at g1
            by_cases u : s = q
            · subst u
              rw [if_pos (by omega)]
              exact f2
            · obtain ⟨x1, x2⟩ := p16 s g0 g1
              refine ⟨?_, SF_keep q0 (by omega) f4 u g0 (by omega) x2⟩
              by_cases u2 : s < q
              · rw [if_pos u2] at x1
                rw [if_pos (by omega)]
                exact SD_keep q0 (by omega) f4 u g0 (by omega) x1
              · rw [if_neg u2] at x1
                rw [if_neg (by omega)]
                exact SD_keep q0 (by omega) f4 u g0 (by omega) x1
          · intro k g0 g1
            obtain ⟨x1, x2, x3⟩ := p17 k g0 g1
            refine ⟨?_, ?_, ?_⟩
            · intro w w0 w1
              rw [f4.2.2.2 14 _ (by omega)]
              exact x1 w w0 w1
            · intro c c0 c1
              rw [f4.2.2.2 14 _ (by omega), f4.2.2.2 14 _ (by omega)]
              exact x2 c c0 c1
            · rw [if_neg (by omega)] at x3
              rw [if_neg (by omega)]
              exact x3
          · omega
        obtain ⟨n', m', sn', z1, z2, z3, z4, z5, z6, z7, z8⟩ := ih n (q + 1) m1 hI1 (by omega) (by omega) (by omega) (by omega)
        have esn : sn' = sn := by
          obtain ⟨sn2, y1, y2, y3, y4⟩ := L91 (h := h) (m := m) (v := v) (H := H) p1.2.2.2.2.2.2 (by omega) (by omega) p3 p4.2.2.2.2
          obtain ⟨sn3, t1, t2, t3, t4⟩ := L91 (h := h) (m := m1) (v := v) (H := H) hI1.1.1.2.2.2.2.2.2 (by omega) (by omega) hI1.1.2.2.1 hI1.1.2.2.2.2.2.2.2
          have := y1.symm.trans t1
          have := y2.symm.trans e1
          have := t2.symm.trans z1
          simp_all
        subst esn
        refine ⟨n', m', sn', e1, z2, z3, z4, by omega, ?_, z7, mfH_trans ⟨mfS_C q0 (by omega) f4, f4.2.2.2 14 209 (by omega)⟩ z8⟩
        rw [F236_0, if_neg (by omega), f1]
        exact z6
theorem PI_both {i v σ H st : Int} (st0 : 0 ≤ st) (st1 : st ≤ 9) : ∀ (d n n' : Nat) (k : Int) (h : zHC) (m : zHM) (sn : Int), PI h m i v σ H (σ + k) → F208 H m = some sn → 0 ≤ k → k ≤ h 65 i 0 → h 65 i 0 - k ≤ d → d < n → d < n' → ∃ h' m', F89_1 n i v st k h = some h' ∧ F236_0 n' (sn + st) (σ + k) m = some m' ∧ PI h' m' i v σ H (m' 14 216) ∧ cfC i h h' ∧ mfH m m' := by
  intro d
  induction d with
  | zero =>
    intro n n' k h m sn hI hsn k0 k1 g0 g1 g2
    cases n with
    | zero => omega
    | succ n =>
      cases n' with
      | zero => omega
      | succ n' =>
        have e := hI.2.2.2.2.1.1
        rw [F89_1, F236_0, if_pos (by omega), if_pos (by omega)]
        refine ⟨h, m, rfl, rfl, ?_, ⟨Int.le_refl _, rfl, fun _ _ _ _ => rfl⟩, ⟨⟨Int.le_refl _, fun j _ j0 j1 => by omega, rfl, fun _ _ _ => rfl⟩, rfl⟩⟩
        rw [show m 14 216 = σ + k by omega]
        exact hI
  | succ d ih =>
    intro n n' k h m sn hI hsn k0 k1 g0 g1 g2
    cases n with
    | zero => omega
    | succ n =>
      cases n' with
      | zero => omega
      | succ n' =>
        obtain ⟨⟨p1, p2, p3, p4⟩, ⟨p5, p6, p7, p8⟩, p9, ⟨p10, p11⟩, ⟨p12, p13, p14, p15⟩, p16, p17, p18, p19⟩ := id hI
        have w6 := p4.1
        unfold WN at w6
        rw [F89_1, F236_0]
        by_cases e : k = h 65 i 0
        · rw [if_pos (by omega), if_pos (by omega)]
          refine ⟨h, m, rfl, rfl, ?_, ⟨Int.le_refl _, rfl, fun _ _ _ _ => rfl⟩, ⟨⟨Int.le_refl _, fun j _ j0 j1 => by omega, rfl, fun _ _ _ => rfl⟩, rfl⟩⟩
          rw [show m 14 216 = σ + k by omega]
          exact hI
        · obtain ⟨x1, x2, x3⟩ := p17 k k0 (by omega)
          obtain ⟨y1, y2⟩ := p16 (σ + k) (by omega) (by omega)
          rw [if_neg (by omega)] at x3
          rw [if_neg (by omega)] at y1
          rw [if_neg (show ¬ h 65 i 0 ≤ k by omega), if_neg (show ¬ m 14 216 ≤ σ + k by omega), zG_t (by omega), p5]
          have e1 : wadd k 1 = k + 1 := wadd_eq (by omega) (by omega)
          have big := zFu_big
          by_cases q : h 72 i k = H
          · rw [if_neg (by omega)]
            have hB : BS h m i v k (σ + k) H := ⟨⟨k0, by omega⟩, ⟨by omega, by omega, p15⟩, ⟨p1, p2, p4⟩, p5, p6, ⟨p7, p8⟩, p9, p10⟩
            obtain ⟨sn2, h1, u1, u2, u3, u4, u5⟩ := S_give hB p3 st0 st1 x1 x2 y1 y2 p18 p11
            have esn : sn2 = sn := Option.some.inj (u1.symm.trans hsn)
            subst esn
            obtain ⟨m1, t1, t2, t3, t4, t5, t6, t7, t8, t9, t10⟩ := u5 (F236_0 n')
            rw [u4, t1]
            show ∃ h' m', F89_3 _ _ _ _ _ _ = some h' ∧ _
            unfold F89_3
            rw [e1]
            have a209 : ∀ k, 0 ≤ k → k < 209 → m1 14 k = m 14 k := fun k g0 g1 => t8.2.2.2 14 k (by omega)
            have e216 : m1 14 216 = m 14 216 := t8.2.2.2 14 216 (by omega)
            have e65 : h1 65 i 0 = h 65 i 0 := t7.2 65 i 0 (by omega)
            have hh : ∀ r j, 576 ≤ r → r ≤ 595 → h1 r v j = h r v j := fun r j g0 g1 => t7.2 r v j (by omega)
            have hI1 : PI h1 m1 i v σ H (σ + (k + 1)) := by
              refine ⟨⟨VN_keep hh a209 p1, VC_keep hh a209 (by omega) p2, VS_keep hh a209 (by omega) p3, VW_cong a209 p4⟩, ⟨by rw [t7.2 64 i 0 (by omega)]; exact p5, by rw [t8.2.2.2 14 209 (by omega)]; exact p6, p7, p8⟩, ?_, ⟨Int.le_trans p10 t7.1, t9⟩, ⟨by rw [e216, e65]; exact p12, p13, by rw [e65]; exact p14, by rw [e216]; exact p15⟩, ?_, ?_, t6, fun s0 => t10 (by omega) (p19 s0)⟩
              · intro p g0 g1
                rw [a209 3 (by decide) (by decide)] at g1
                rw [t7.2 67 i p (by omega), t8.2.2.2 14 (210 + p) (by omega)]
                exact p9 p g0 g1
              · intro s g0 g1
                rw [e216] at g1
                by_cases u : s = σ + k
                · subst u
                  rw [if_pos (by omega)]
                  exact t5
                · obtain ⟨z1, z2⟩ := p16 s g0 g1
                  refine ⟨?_, SF_keep (by omega) (by omega) t8 u g0 (by omega) z2⟩
                  by_cases u2 : s < σ + k
                  · rw [if_pos u2] at z1
                    rw [if_pos (by omega)]
                    exact SD_keep (by omega) (by omega) t8 u g0 (by omega) z1
                  · rw [if_neg u2] at z1
                    rw [if_neg (by omega)]
                    exact SD_keep (by omega) (by omega) t8 u g0 (by omega) z1
              · intro k' g0 g1
                rw [e65] at g1
                by_cases u : k' = k
                · subst u
                  rw [if_pos (by omega)]
                  exact ⟨t2, t3, t4⟩
                · obtain ⟨z1, z2, z3⟩ := p17 k' g0 g1
                  refine ⟨CF_keep (by omega) (by omega) t7 t8 u (by omega) (by omega) (by omega) z1, CD_keep (by omega) (by omega) t7 t8 u (by omega) (by omega) (by omega) z2, ?_⟩
                  by_cases u2 : σ + k' < σ + k
                  · rw [if_pos u2] at z3
                    rw [if_pos (by omega)]
                    exact CS_keep t7 u z3
                  · rw [if_neg u2] at z3
                    rw [if_neg (by omega)]
                    exact CS_keep t7 u z3
            have hsn1 : F208 H m1 = some sn2 := by
              obtain ⟨sn3, y1, y2, y3, y4⟩ := L91 (h := h) (m := m) (v := v) (H := H) p1.2.2.2.2.2.2 (by omega) (by omega) p3 p4.2.2.2.2
              obtain ⟨sn4, w1, w2, w3, w4⟩ := L91 (h := h) (m := m1) (v := v) (H := H) (by rw [a209 6 (by decide) (by decide)]; exact p1.2.2.2.2.2.2) (by rw [a209 6 (by decide) (by decide)]; omega) (by rw [a209 6 (by decide) (by decide)]; omega) (VS_keep (fun _ _ _ _ => rfl) a209 (by omega) p3) hI1.1.2.2.2.2.2.2.2
              rw [w2, ← y1.symm.trans w1, ← y2, hsn]
            obtain ⟨h2, m2, r1, r2, r3, r4, r5⟩ := ih n n' (k + 1) h1 m1 sn2 hI1 hsn1 (by omega) (by omega) (by omega) (by omega) (by omega)
            refine ⟨h2, m2, r1, ?_, r3, cfC_trans (cfS_C t7) r4, mfH_trans ⟨mfS_C (by omega) (by omega) t8, t8.2.2.2 14 209 (by omega)⟩ r5⟩
            rw [show σ + k + 1 = σ + (k + 1) by omega]
            exact r2
          · rw [if_pos q]
            have hd : ∀ c, 0 ≤ c → c < 6 → ¬ m 14 (457 + 18 * (σ + k) + 3 * c) = H := by
              intro c c0 c1 w
              have d1 := (x2 c c0 c1).1
              rw [if_neg (by omega), w] at d1
              have l1 := x3.1 c c0 c1 (by omega)
              rcases x3.2 with l2 | ⟨c', -, -, -, l2⟩
              · omega
              · omega
            rw [S_skip (m := m) (s := σ + k) (H := H) (less := sn + st) (by omega) (by omega) (by omega) (by omega) p6 (F236_0 n') (fun c c0 c1 => hd c c0 (by omega)) zFu 0 (by decide) (by omega) (by omega)]
            show ∃ h' m', F89_3 _ _ _ _ _ _ = some h' ∧ _
            unfold F89_3
            rw [e1]
            have hI1 : PI h m i v σ H (σ + (k + 1)) := by
              refine ⟨⟨p1, p2, p3, p4⟩, ⟨p5, p6, p7, p8⟩, p9, ⟨p10, p11⟩, ⟨p12, p13, p14, p15⟩, ?_, ?_, p18, p19⟩
              · intro s g0 g1
                obtain ⟨z1, z2⟩ := p16 s g0 g1
                refine ⟨?_, z2⟩
                by_cases u : s = σ + k
                · subst u
                  rw [if_neg (by omega)] at z1
                  rw [if_pos (by omega)]
                  intro c c0 c1
                  obtain ⟨a1, a2, a3, a4, a5⟩ := z1 c c0 c1
                  refine ⟨a1, a2, a3, ?_, a5⟩
                  have := hd c c0 c1
                  rw [a4]
                  by_cases b : ¬ m 14 (457 + 18 * (σ + k) + 3 * c) = 0 ∧ (m 14 (457 + 18 * (σ + k) + 3 * c) < H ∨ m 14 (457 + 18 * (σ + k) + 3 * c) = H ∧ c < 0)
                  · rw [if_pos b, if_pos (by omega)]
                  · rw [if_neg b, if_neg (by omega)]
                · by_cases u2 : s < σ + k
                  · rw [if_pos u2] at z1
                    rw [if_pos (by omega)]
                    exact z1
                  · rw [if_neg u2] at z1
                    rw [if_neg (by omega)]
                    exact z1
              · intro k' g0' g1'
                obtain ⟨z1, z2, z3⟩ := p17 k' g0' g1'
                refine ⟨z1, z2, ?_⟩
                by_cases u : k' = k
                · subst u
                  rw [if_neg (by omega)] at z3
                  rw [if_pos (by omega)]
                  refine ⟨fun c c0 c1 c2 => z3.1 c c0 c1 (by omega), ?_⟩
                  rcases z3.2 with l | ⟨c, l1, l2, l3, l4⟩
                  · exact Or.inl l
                  · exact Or.inr ⟨c, l1, l2, l3, by omega⟩
                · by_cases u2 : σ + k' < σ + k
                  · rw [if_pos u2] at z3
                    rw [if_pos (by omega)]
                    exact z3
                  · rw [if_neg u2] at z3
                    rw [if_neg (by omega)]
                    exact z3
            obtain ⟨h2, m2, r1, r2, r3, r4, r5⟩ := ih n n' (k + 1) h m sn hI1 hsn (by omega) (by omega) (by omega) (by omega) (by omega)
            refine ⟨h2, m2, r1, ?_, r3, r4, r5⟩
            rw [show σ + k + 1 = σ + (k + 1) by omega]
            exact r2
theorem L_moves {v i st H : Int} {nM nP : Int} (M1 : nM ≤ 20) (P1 : nP ≤ 6) : ∀ (n n' : Nat) (j : Int) (h : zHC) (m : zHM), h 580 v 0 = nM → m 14 4 = nM → m 14 3 = nP → h 64 i 0 = H → VM h v (m 14) → WM (m 14) → RP h i (m 14) → 0 ≤ j → j ≤ nM → nM - j < n → nM - j < n' → ∃ h' m', F89_0 n i v st j h = F89_1 zFu i v st 0 h' ∧ F237_0 n' H j m = some m' ∧ RP h' i (m' 14) ∧ (∀ r n j, ¬ (r = 67 ∧ n = i) → h' r n j = h r n j) ∧ (∀ r j, ¬ (r = 14 ∧ 210 ≤ j ∧ j < 216) → m' r j = m r j) := by
  intro n
  induction n with
  | zero => intro n' j h m e1 e2 e3 e4 e5 e6 e7 j0 j1 g1 g2; omega
  | succ n ih =>
    intro n' j h m e1 e2 e3 e4 e5 e6 e7 j0 j1 g1 g2
    cases n' with
    | zero => omega
    | succ n' =>
      rw [F89_0, F237_0, e1, e2]
      by_cases e : j = nM
      · rw [if_pos (by omega), if_pos (by omega)]
        exact ⟨h, m, rfl, rfl, e7, fun _ _ _ _ => rfl, fun _ _ _ => rfl⟩
      · obtain ⟨a1, a2, a3⟩ := e5 j j0 (by omega)
        obtain ⟨b1, b2, b3, b4, b5, b6⟩ := e6 j j0 (by omega)
        have w1 : wadd j 1 = j + 1 := wadd_eq (by omega) (by omega)
        have hj : ¬ nM ≤ j := by omega
        rw [if_neg hj, if_neg hj, wmul_eq (by omega) (by omega), wadd_eq (x := 37) (by omega) (by omega), wadd_eq (x := 37 + 3 * j) (y := 1) (by omega) (by omega), wadd_eq (x := 37 + 3 * j) (y := 2) (by omega) (by omega), a1, a2, a3, e4, wadd_eq (x := 210) (by omega) (by omega)]
        simp (disch := omega) only [zG_t]
        unfold F89_2 F237_1
        rw [w1]
        by_cases q : m 14 (37 + 3 * j + 1) = H
        · rw [if_neg (fun w => w q : ¬ ¬ m 14 (37 + 3 * j + 1) = H), if_neg (fun w => w q : ¬ ¬ m 14 (37 + 3 * j + 1) = H)]
          have hr : RP (hset h 67 i (m 14 (37 + 3 * j)) (m 14 (37 + 3 * j + 2))) i ((mset m 14 (210 + m 14 (37 + 3 * j)) (m 14 (37 + 3 * j + 2))) 14) := by
            intro p p0 p1
            rw [mset_ne (by omega)] at p1
            by_cases u : p = m 14 (37 + 3 * j)
            · subst u
              rw [hset_eq, mset_eq]
              exact ⟨rfl, b5, b6⟩
            · rw [hset_ne (by omega), mset_ne (by omega)]
              exact e7 p p0 p1
          have c5 : VM (hset h 67 i (m 14 (37 + 3 * j)) (m 14 (37 + 3 * j + 2))) v ((mset m 14 (210 + m 14 (37 + 3 * j)) (m 14 (37 + 3 * j + 2))) 14) := by
            intro c c0 c1
            rw [mset_ne (by omega)] at c1
            rw [mset_ne (by omega), mset_ne (by omega), mset_ne (by omega), hset_ne (by omega), hset_ne (by omega), hset_ne (by omega)]
            exact e5 c c0 c1
          have c6 : WM ((mset m 14 (210 + m 14 (37 + 3 * j)) (m 14 (37 + 3 * j + 2))) 14) := by
            intro c c0 c1
            rw [mset_ne (by omega)] at c1
            rw [mset_ne (by omega), mset_ne (by omega), mset_ne (by omega), mset_ne (by omega)]
            exact e6 c c0 c1
          obtain ⟨h', m', z1, z2, z3, z4, z5⟩ := ih n' (j + 1) _ _ (by rw [hset_ne (by omega)]; exact e1) (by rw [mset_ne (by omega)]; exact e2) (by rw [mset_ne (by omega)]; exact e3) (by rw [hset_ne (by omega)]; exact e4) c5 c6 hr (by omega) (by omega) (by omega) (by omega)
          exact ⟨h', m', z1, z2, z3, fun r n' j' hne => by rw [z4 r n' j' hne, hset_ne (by omega)], fun r j' hne => by rw [z5 r j' hne, mset_ne (by omega)]⟩
        · rw [if_pos q, if_pos q]
          exact ih n' (j + 1) h m e1 e2 e3 e4 e5 e6 e7 (by omega) (by omega) (by omega) (by omega)
/-- an hour of both -/
theorem P_pass {h : zHC} {m : zHM} {i v σ st : Int} {nm : Int → Int} (hV : VR h v (m 14) nm) (hR : RC h i (m 14) σ) (hE : h 66 i 0 ≤ m 14 997) (hL : σ = 0 → RL h i (m 14)) (hW : CW (m 14)) (hl : m 14 209 < 400) (st0 : 0 ≤ st) (st1 : st ≤ 9) : ∃ h' m', F89 i v st h = some h' ∧ F236 st m = some m' ∧ VR h' v (m' 14) nm ∧ RC h' i (m' 14) σ ∧ h' 66 i 0 ≤ m' 14 997 ∧ (σ = 0 → RL h' i (m' 14)) ∧ CW (m' 14) ∧ m' 14 209 = m 14 209 + 1 ∧ cfC i h h' ∧ mfC m m' := by
  obtain ⟨hN, hC, hP, hM, hF, hS, hQ, hVW⟩ := id hV
  obtain ⟨r1, r2, r3, r4, r5, r6, r7⟩ := hR
  obtain ⟨⟨c1, c2⟩, ⟨c3, c4⟩, c5, c6, c7⟩ := hW
  have w6 := hVW.1
  unfold WN at w6
  have big := zFu_big
  obtain ⟨n0, n1, n2, n3, n4, n5, n6⟩ := hN
  have EH : wadd (m 14 209) 1 = m 14 209 + 1 := wadd_eq (by omega) (by omega)
  have q0 : ∀ r n j, ¬ (r = 64 ∧ n = i ∧ j = 0) → hset h 64 i 0 (m 14 209 + 1) r n j = h r n j := fun r n j hne => hset_ne (by omega)
  have q1 : ∀ r j, ¬ (r = 14 ∧ j = 209) → mset m 14 209 (m 14 209 + 1) r j = m r j := fun r j hne => mset_ne (by omega)
  have q2 : hset h 64 i 0 (m 14 209 + 1) 64 i 0 = m 14 209 + 1 := hset_eq
  have q3 : mset m 14 209 (m 14 209 + 1) 14 209 = m 14 209 + 1 := mset_eq
  have a0 : ∀ k, 0 ≤ k → k < 209 → mset m 14 209 (m 14 209 + 1) 14 k = m 14 k := fun k g0 g1 => q1 _ _ (by omega)
  unfold F89 F236
  rw [r1, EH]
  generalize hset h 64 i 0 (m 14 209 + 1) = h0 at q0 q2 ⊢
  generalize mset m 14 209 (m 14 209 + 1) = m0 at q1 q3 a0 ⊢
  have hVM0 : VM h0 v (m0 14) := by
    intro c g0 g1
    rw [a0 4 (by decide) (by decide)] at g1
    rw [a0 _ (by omega) (by omega), a0 _ (by omega) (by omega), a0 _ (by omega) (by omega), q0 _ _ _ (by omega), q0 _ _ _ (by omega), q0 _ _ _ (by omega)]
    exact hM c g0 g1
  have hRP0 : RP h0 i (m0 14) := by
    intro p g0 g1
    rw [a0 3 (by decide) (by decide)] at g1
    rw [q0 _ _ _ (by omega), q1 _ _ (by omega)]
    exact r6 p g0 g1
  obtain ⟨h1, m1, z1, z2, z3, z4, z5⟩ := L_moves (v := v) (i := i) (st := st) (H := m 14 209 + 1) (nM := m 14 4) (nP := m 14 3) (by omega) (by omega) zFu zFu 0 h0 m0 (by rw [q0 _ _ _ (by omega)]; exact n4) (a0 4 (by decide) (by decide)) (a0 3 (by decide) (by decide)) q2 hVM0 (VW_cong a0 hVW).2.2.2.1 hRP0 (by decide) (by omega) (by omega) (by omega)
  unfold F237
  rw [z1, z2]
  show ∃ h' m', _ ∧ Option.bind (F208 (m1 14 209) m1) _ = some m' ∧ _
  have H1 : m1 14 209 = m 14 209 + 1 := by rw [z5 _ _ (by omega), q3]
  rw [H1]
  have a1 : ∀ k, 0 ≤ k → k < 209 → m1 14 k = m 14 k := fun k g0 g1 => by rw [z5 _ _ (by omega), a0 k g0 g1]
  have b1 : ∀ r n j, ¬ (n = i ∧ (r = 67 ∨ r = 64)) → h1 r n j = h r n j := fun r n j hne => by rw [z4 r n j (by omega), q0 r n j (by omega)]
  have b2 : ∀ r j, ¬ (r = 14 ∧ 209 ≤ j ∧ j < 216) → m1 r j = m r j := fun r j hne => by rw [z5 r j (by omega), q1 r j (by omega)]
  have hh : ∀ r j, 576 ≤ r → r ≤ 595 → h1 r v j = h r v j := fun r j g0 g1 => b1 r v j (by omega)
  have hV1 := VR_keep (nm' := nm) hh a1 (fun _ _ _ => rfl) hV
  obtain ⟨hN1, hC1, hP1, hM1, hF1, hS1, hQ1, hVW1⟩ := id hV1
  have e216 : m1 14 216 = m 14 216 := b2 _ _ (by omega)
  have e65 : h1 65 i 0 = h 65 i 0 := b1 _ _ _ (by omega)
  have e66 : h1 66 i 0 = h 66 i 0 := b1 _ _ _ (by omega)
  have e997 : m1 14 997 = m 14 997 := b2 _ _ (by omega)
  have hI : PI h1 m1 i v σ (m 14 209 + 1) 0 := by
    refine ⟨⟨hN1, hC1, hS1, hVW1⟩, ⟨by rw [z4 _ _ _ (by omega), q2], H1, by omega, by omega⟩, z3, ⟨by rw [e66]; exact r5, by rw [e66, e997]; exact hE⟩, ⟨by rw [e65, e216]; exact r2, r3, by rw [e65]; exact r4, by rw [e216]; exact c4⟩, ?_, ?_, ?_, fun s0 => ?_⟩
    · intro s g0 g1
      rw [e216] at g1
      rw [if_neg (by omega)]
      obtain ⟨x1, x2⟩ := c5 s g0 g1
      refine ⟨?_, ?_⟩
      · have := SD_hour x1
        intro c c0 c1
        rw [b2 _ _ (by omega), b2 _ _ (by omega), b2 _ _ (by omega), b2 _ 2 (by omega)]
        exact this c c0 c1
      · unfold SF at *
        rw [b2 _ (217 + 8 * s) (by omega), b2 _ (217 + 8 * s + 1) (by omega), b2 _ (217 + 8 * s + 2) (by omega), b2 _ (217 + 8 * s + 3) (by omega), b2 _ (217 + 8 * s + 4) (by omega), b2 _ (217 + 8 * s + 5) (by omega), b2 _ (217 + 8 * s + 6) (by omega), b2 _ (217 + 8 * s + 7) (by omega), b2 _ (457 + 18 * s + 3 * 0 + 2) (by omega), b2 _ (457 + 18 * s + 3 * 1 + 2) (by omega), b2 _ (457 + 18 * s + 3 * 2 + 2) (by omega), b2 _ (457 + 18 * s + 3 * 3 + 2) (by omega), b2 _ (457 + 18 * s + 3 * 4 + 2) (by omega), b2 _ (457 + 18 * s + 3 * 5 + 2) (by omega)]
        exact x2
    · intro k g0 g1
      rw [e65] at g1
      rw [if_neg (by omega)]
      obtain ⟨x1, x2, x3⟩ := r7 k g0 g1
      refine ⟨?_, ?_, ?_⟩
      · intro w w0 w1
        rw [b1 _ _ _ (by omega), b2 _ _ (by omega)]
        exact x1 w w0 w1
      · intro c c0 c1
        rw [b1 _ _ _ (by omega), b1 _ _ _ (by omega), b2 _ _ (by omega), b2 _ _ (by omega)]
        exact x2 c c0 c1
      · rw [show m 14 209 + 1 - 1 = m 14 209 by omega]
        refine ⟨fun c c0 c1 => ?_, ?_⟩
        · rw [b1 _ _ _ (by omega), b1 _ _ _ (by omega)]
          exact x3.1 c c0 c1
        · rw [b1 72 _ _ (by omega)]
          rcases x3.2 with l | ⟨c, l1, l2, l3, l4⟩
          · exact Or.inl l
          · exact Or.inr ⟨c, l1, l2, by rw [b1 _ _ _ (by omega)]; exact l3, l4⟩
    · refine EQ_cong e216 (b2 _ _ (by omega)) e997 (fun s g0 g1 => b2 _ _ (by omega)) (fun j g0 g1 => b2 _ _ (by omega)) ⟨c6, c7, fun s g0 g1 => ?_⟩
      obtain ⟨x1, x2⟩ := c5 s g0 g1
      obtain ⟨-, -, -, -, -, -, t7, -⟩ := x2
      have l0 := SD_le1 x1 (c := 0) (by decide) (by decide)
      have l1 := SD_le1 x1 (c := 1) (by decide) (by decide)
      have l2 := SD_le1 x1 (c := 2) (by decide) (by decide)
      have l3 := SD_le1 x1 (c := 3) (by decide) (by decide)
      have l4 := SD_le1 x1 (c := 4) (by decide) (by decide)
      have l5 := SD_le1 x1 (c := 5) (by decide) (by decide)
      omega
    · obtain ⟨l1, l2⟩ := hL s0
      refine ⟨by rw [e66, e997]; exact l1, fun j j0 j1 w w0 w1 => ?_⟩
      rw [e997] at j1
      rw [b1 _ _ _ (by omega), b2 _ _ (by omega)]
      exact l2 j j0 j1 w w0 w1
  obtain ⟨n', m2, sn, y1, y2, y3, y4, y5, y6, y7, y8⟩ := PI_model (h := h1) st0 st1 30 zFu 0 m1 hI (by decide) r3 (by omega) (by omega)
  rw [y1]
  show ∃ h' m', _ ∧ F236_0 zFu (wadd sn st) 0 m1 = some m' ∧ _
  rw [wadd_eq (x := sn) (y := st) (by omega) (by omega), y6]
  have y7' : PI h1 m2 i v σ (m 14 209 + 1) (σ + 0) := by rw [Int.add_zero]; exact y7
  obtain ⟨h3, m3, x1, x2, x3, x4, x5⟩ := PI_both st0 st1 30 zFu n' 0 h1 m2 sn y7' y2 (by decide) (by omega) (by omega) (by omega) (by omega)
  rw [Int.add_zero] at x2
  rw [x1, x2]
  obtain ⟨⟨p1, p2, p3, p4⟩, ⟨p5, p6, p7, p8⟩, p9, ⟨p10, p11⟩, ⟨p12, p13, p14, p15⟩, p16, p17, p18, p19⟩ := x3
  have mh := mfH_trans y8 x5
  have a3 : ∀ k, 0 ≤ k → k < 209 → m3 14 k = m 14 k := fun k g0 g1 => by rw [mh.1.2.2.2 14 k (by omega), a1 k g0 g1]
  have hh3 : ∀ r j, 576 ≤ r → r ≤ 595 → h3 r v j = h r v j := fun r j g0 g1 => by rw [x4.2.2 r v j (by omega), hh r j g0 g1]
  refine ⟨h3, m3, rfl, rfl, VR_keep hh3 a3 (fun _ _ _ => rfl) hV, ⟨by rw [p5, p6], p12, p13, p14, p10, p9, ?_⟩, p11, p19, ⟨⟨by omega, by omega⟩, ⟨by omega, p15⟩, ?_, p18.1, p18.2.1⟩, p6, ?_, ?_⟩
  · intro k g0 g1
    obtain ⟨t1, t2, t3⟩ := p17 k g0 g1
    rw [if_pos (by omega)] at t3
    rw [p6]
    exact ⟨t1, t2, t3⟩
  · intro s g0 g1
    obtain ⟨t1, t2⟩ := p16 s g0 g1
    rw [if_pos (by omega)] at t1
    rw [p6]
    exact ⟨t1, t2⟩
  · refine ⟨by have := x4.1; omega, by rw [x4.2.1, e65], fun r n j hne => ?_⟩
    rw [x4.2.2 r n j (by omega), b1 r n j (by omega)]
  · obtain ⟨⟨s1, s2, s3, s4⟩, s5⟩ := mh
    refine ⟨by omega, fun j gz g0 g1 => s2 j gz (by omega) g1, by rw [s3, e216], fun r j hne => ?_⟩
    rw [s4 r j (by omega), b2 r j (by omega)]
end
section
/-! Hours, copies, what is said. -/
def CI (h : zHC) (m : zHM) (i v σ : Int) (nm : Int → Int) : Prop := VR h v (m 14) nm ∧ RC h i (m 14) σ ∧ h 66 i 0 ≤ m 14 997 ∧ (σ = 0 → RL h i (m 14)) ∧ CW (m 14)
def mfD (m m' : zHM) : Prop := m 14 997 ≤ m' 14 997 ∧ m' 14 216 = m 14 216 ∧ ∀ r j, ¬ (r = 14 ∧ ((209 ≤ j ∧ j < 216) ∨ j = 997 ∨ (998 ≤ j ∧ 998 + 5 * m 14 997 ≤ j ∧ j < 1898) ∨ (217 ≤ j ∧ j < 997))) → m' r j = m r j
theorem mfD_trans {m m' m'' : zHM} (h1 : mfD m m') (h2 : mfD m' m'') : mfD m m'' := by
  obtain ⟨a1, a2, a3⟩ := h1
  obtain ⟨b1, b2, b3⟩ := h2
  refine ⟨Int.le_trans a1 b1, b2.trans a2, fun r j hne => ?_⟩
  rw [b3 r j (by omega), a3 r j hne]
theorem mfD_refl {m : zHM} : mfD m m := ⟨Int.le_refl _, rfl, fun _ _ _ => rfl⟩
theorem cfC_refl {i : Int} {h : zHC} : cfC i h h := ⟨Int.le_refl _, rfl, fun _ _ _ _ => rfl⟩
theorem P_hours {i v σ n : Int} {nm : Int → Int} (n1 : n ≤ 1000) : ∀ (k k' : Nat) (p : Int) (h : zHC) (m : zHM), CI h m i v σ nm → 0 ≤ p → n - p < k → n - p < k' → 0 < k → 0 < k' → ∃ r h' m', F88_0 k i v n p h = some (r, h') ∧ F235_0 k' n p m = some (r, m') ∧ CI h' m' i v σ nm ∧ cfC i h h' ∧ mfD m m' := by
  intro k
  induction k with
  | zero => intro k' p h m hI p0 g1 g2 g3 g4; omega
  | succ k ih =>
    intro k' p h m hI p0 g1 g2 g3 g4
    cases k' with
    | zero => omega
    | succ k' =>
      obtain ⟨i1, i2, i3, i4, i5⟩ := id hI
      rw [F88_0, F235_0, i2.1]
      by_cases e : n ≤ p
      · rw [if_pos e, if_pos e]
        exact ⟨p, h, m, rfl, rfl, hI, cfC_refl, mfD_refl⟩
      · rw [if_neg e, if_neg e]
        by_cases e2 : 400 ≤ m 14 209
        · rw [if_pos e2, if_pos e2]
          exact ⟨p, h, m, rfl, rfl, hI, cfC_refl, mfD_refl⟩
        · rw [if_neg e2, if_neg e2]
          obtain ⟨h1, m1, q1, q2, q3, q4, q5, q6, q7, q8, q9, q10⟩ := P_pass (st := 0) i1 i2 i3 i4 i5 (by omega) (by decide) (by decide)
          rw [q1, q2]
          obtain ⟨r, h2, m2, z1, z2, z3, z4, z5⟩ := ih k' (p + 1) h1 m1 ⟨q3, q4, q5, q6, q7⟩ (by omega) (by omega) (by omega) (by omega) (by omega)
          refine ⟨r, h2, m2, ?_, ?_, z3, cfC_trans q9 z4, mfD_trans ⟨q10.1, q10.2.2.1, q10.2.2.2⟩ z5⟩
          · show F88_0 k i v n (wadd p 1) h1 = _
            rw [wadd_eq (by omega) (by omega)]
            exact z1
          · show F235_0 k' n (wadd p 1) m1 = _
            rw [wadd_eq (by omega) (by omega)]
            exact z2
theorem P_hours' {i v σ n : Int} {nm : Int → Int} {h : zHC} {m : zHM} (n1 : n ≤ 1000) (hI : CI h m i v σ nm) : ∃ r h' m', F88 i v n h = some (r, h') ∧ F235 n m = some (r, m') ∧ CI h' m' i v σ nm ∧ cfC i h h' ∧ mfD m m' := by
  have big := zFu_big
  unfold F88 F235
  exact P_hours n1 zFu zFu 0 h m hI (by decide) (by omega) (by omega) (by omega) (by omega)
/-- the course i holds what the row a tells, whole -/
def CR (h : zHC) (i : Int) (a : Int → Int) : Prop := RC h i a 0 ∧ RL h i a ∧ CW a
theorem CR_CI {h : zHC} {m : zHM} {i v : Int} {nm : Int → Int} (hV : VR h v (m 14) nm) (hR : CR h i (m 14)) : CI h m i v 0 nm :=
  ⟨hV, hR.1, Int.le_of_eq hR.2.1.1, fun _ => hR.2.1, hR.2.2⟩
theorem CI_CR {h : zHC} {m : zHM} {i v : Int} {nm : Int → Int} (hI : CI h m i v 0 nm) : CR h i (m 14) := ⟨hI.2.1, hI.2.2.2.1 rfl, hI.2.2.2.2⟩
theorem CW_n {a : Int → Int} (h : CW a) : 0 ≤ a 997 ∧ a 997 ≤ 180 ∧ EQ a := by
  obtain ⟨⟨c1, c2⟩, ⟨c3, c4⟩, c5, c6, c7⟩ := h
  have hq : EQ a := by
    refine ⟨c6, c7, fun s g0 g1 => ?_⟩
    obtain ⟨x1, x2⟩ := c5 s g0 g1
    obtain ⟨-, -, -, -, -, -, t7, -⟩ := x2
    have l0 := SD_le1 x1 (c := 0) (by decide) (by decide)
    have l1 := SD_le1 x1 (c := 1) (by decide) (by decide)
    have l2 := SD_le1 x1 (c := 2) (by decide) (by decide)
    have l3 := SD_le1 x1 (c := 3) (by decide) (by decide)
    have l4 := SD_le1 x1 (c := 4) (by decide) (by decide)
    have l5 := SD_le1 x1 (c := 5) (by decide) (by decide)
    omega
  have := EQ_le hq c3 c4
  exact ⟨this.1, this.2, hq⟩
/-- a course told by two heaps and rows that agree -/
theorem CR_cong {h h' : zHC} {i i' : Int} {a a' : Int → Int} (h64 : h' 64 i' 0 = h 64 i 0) (h65 : h' 65 i' 0 = h 65 i 0) (h66 : h' 66 i' 0 = h 66 i 0) (h67 : ∀ j, 0 ≤ j → j < 6 → h' 67 i' j = h 67 i j) (h68 : ∀ j, 0 ≤ j → j < 6 * h 65 i 0 → h' 68 i' j = h 68 i j) (h69 : ∀ j, 0 ≤ j → j < 6 * h 65 i 0 → h' 69 i' j = h 69 i j) (h70 : ∀ j, 0 ≤ j → j < 8 * h 65 i 0 → h' 70 i' j = h 70 i j) (h71 : ∀ j, 0 ≤ j → j < 5 * h 66 i 0 → h' 71 i' j = h 71 i j) (h72 : ∀ j, 0 ≤ j → j < h 65 i 0 → h' 72 i' j = h 72 i j) (ha : ∀ j, 209 ≤ j → j < 1898 → a' j = a j) (ha2 : a' 2 = a 2) (ha3 : a' 3 = a 3) (h6 : a 3 ≤ 6) (h : CR h i a) : CR h' i' a' := by
  obtain ⟨⟨r1, r2, r3, r4, r5, r6, r7⟩, ⟨l1, l2⟩, hW⟩ := h
  obtain ⟨n0, n1, hq⟩ := CW_n hW
  obtain ⟨⟨c1, c2⟩, ⟨c3, c4⟩, c5, c6, c7⟩ := hW
  have e216 := ha 216 (by decide) (by decide)
  have e209 := ha 209 (by decide) (by decide)
  have e997 := ha 997 (by decide) (by decide)
  refine ⟨⟨by rw [h64, e209]; exact r1, by rw [h65, e216]; exact r2, r3, by rw [h65]; exact r4, by rw [h66]; exact r5, ?_, ?_⟩, ⟨by rw [h66, e997]; exact l1, ?_⟩, ⟨by rw [e209]; exact ⟨c1, c2⟩, by rw [e216]; exact ⟨c3, c4⟩, ?_, ?_⟩⟩
  · intro p g0 g1
    rw [ha3] at g1
    rw [h67 p g0 (by omega), ha _ (by omega) (by omega)]
    exact r6 p g0 g1
  · intro k g0 g1
    rw [h65] at g1
    obtain ⟨x1, x2, x3⟩ := r7 k g0 g1
    refine ⟨?_, ?_, ?_⟩
    · intro w w0 w1
      rw [h70 _ (by omega) (by omega), ha _ (by omega) (by omega)]
      exact x1 w w0 w1
    · intro c q0 q1
      rw [h68 _ (by omega) (by omega), h69 _ (by omega) (by omega), ha _ (by omega) (by omega), ha _ (by omega) (by omega)]
      exact x2 c q0 q1
    · rw [e209]
      refine ⟨fun c q0 q1 => ?_, ?_⟩
      · rw [h68 _ (by omega) (by omega), h72 _ (by omega) (by omega)]
        exact x3.1 c q0 q1
      · rw [h72 _ (by omega) (by omega)]
        rcases x3.2 with l | ⟨c, q1, q2, q3, q4⟩
        · exact Or.inl l
        · exact Or.inr ⟨c, q1, q2, by rw [h68 _ (by omega) (by omega)]; exact q3, q4⟩
  · intro j g0 g1 w w0 w1
    rw [e997] at g1
    rw [h71 _ (by omega) (by omega), ha _ (by omega) (by omega)]
    exact l2 j g0 g1 w w0 w1
  · intro s g0 g1
    rw [e216] at g1
    obtain ⟨x1, x2⟩ := c5 s g0 g1
    refine ⟨?_, ?_⟩
    · intro c q0 q1
      rw [ha (457 + 18 * s + 3 * c) (by omega) (by omega), ha (457 + 18 * s + 3 * c + 1) (by omega) (by omega), ha (457 + 18 * s + 3 * c + 2) (by omega) (by omega), e209, ha2]
      exact x1 c q0 q1
    · unfold SF at *
      rw [ha (217 + 8 * s) (by omega) (by omega), ha (217 + 8 * s + 1) (by omega) (by omega), ha (217 + 8 * s + 2) (by omega) (by omega), ha (217 + 8 * s + 3) (by omega) (by omega), ha (217 + 8 * s + 4) (by omega) (by omega), ha (217 + 8 * s + 5) (by omega) (by omega), ha (217 + 8 * s + 6) (by omega) (by omega), ha (217 + 8 * s + 7) (by omega) (by omega), ha (457 + 18 * s + 3 * 0 + 2) (by omega) (by omega), ha (457 + 18 * s + 3 * 1 + 2) (by omega) (by omega), ha (457 + 18 * s + 3 * 2 + 2) (by omega) (by omega), ha (457 + 18 * s + 3 * 3 + 2) (by omega) (by omega), ha (457 + 18 * s + 3 * 4 + 2) (by omega) (by omega), ha (457 + 18 * s + 3 * 5 + 2) (by omega) (by omega)]
      exact x2
  · have := EQ_cong (a := a) (a' := a') e216 ha2 e997 (fun s g0 g1 => ha _ (by omega) (by omega)) (fun j g0 g1 => ha _ (by omega) (by omega)) hq
    exact ⟨this.1, this.2.1⟩
theorem CR_keep {h h' : zHC} {i : Int} {a a' : Int → Int} (hh : ∀ r j, 64 ≤ r → r ≤ 72 → h' r i j = h r i j) (ha : ∀ j, 209 ≤ j → j < 1898 → a' j = a j) (ha2 : a' 2 = a 2) (ha3 : a' 3 = a 3) (h6 : a 3 ≤ 6) (hR : CR h i a) : CR h' i a' :=
  CR_cong (hh 64 0 (by decide) (by decide)) (hh 65 0 (by decide) (by decide)) (hh 66 0 (by decide) (by decide)) (fun j _ _ => hh 67 j (by decide) (by decide)) (fun j _ _ => hh 68 j (by decide) (by decide)) (fun j _ _ => hh 69 j (by decide) (by decide)) (fun j _ _ => hh 70 j (by decide) (by decide)) (fun j _ _ => hh 71 j (by decide) (by decide)) (fun j _ _ => hh 72 j (by decide) (by decide)) ha ha2 ha3 h6 hR
theorem hcpy_ne {h : zHC} {rd : Nat} {nd : Int} {rs : Nat} {ns sp dp n : Int} {r' : Nat} {n' i' : Int} (hn : ¬ (r' = rd ∧ n' = nd ∧ dp ≤ i' ∧ i' < dp + n)) : hcpy h rd nd rs ns sp dp n r' n' i' = h r' n' i' := if_neg hn
theorem hcpy_eq {h : zHC} {rd : Nat} {nd : Int} {rs : Nat} {ns n i' : Int} (h0 : 0 ≤ i') (h1 : i' < n) : hcpy h rd nd rs ns 0 0 n rd nd i' = h rs ns i' := by
  have e : hcpy h rd nd rs ns 0 0 n rd nd i' = h rs ns (0 + (i' - 0)) := if_pos ⟨rfl, rfl, h0, by omega⟩
  rw [e, show (0 : Int) + (i' - 0) = i' by omega]
/-- a course copied -/
theorem L71 {h : zHC} {i j : Int} {a : Int → Int} (hij : i ≠ j) (hR : CR h j a) (h6 : a 3 ≤ 6) : ∃ h', F71 i j h = some h' ∧ CR h' i a ∧ (∀ r n q, ¬ (64 ≤ r ∧ r ≤ 72 ∧ n = i) → h' r n q = h r n q) := by
  obtain ⟨⟨r1, r2, r3, r4, r5, r6, r7⟩, ⟨l1, l2⟩, hW⟩ := id hR
  obtain ⟨n0, n1, hq⟩ := CW_n hW
  have c4 := hW.2.1
  unfold F71 F72
  show ∃ h', zG _ _ = some h' ∧ _
  have e0 : ∀ r n q, ¬ (64 ≤ r ∧ r ≤ 72 ∧ n = i) → (hcpy (hset (hset (hset h 64 i 0 (h 64 j 0)) 65 i 0 0) 66 i 0 0) 67 i 67 j 0 0 6) r n q = h r n q := by
    intro r n q hne
    rw [hcpy_ne (by omega), hset_ne (by omega), hset_ne (by omega), hset_ne (by omega)]
  have e64 : (hcpy (hset (hset (hset h 64 i 0 (h 64 j 0)) 65 i 0 0) 66 i 0 0) 67 i 67 j 0 0 6) 64 i 0 = h 64 j 0 := by
    rw [hcpy_ne (by omega), hset_ne (by omega), hset_ne (by omega), hset_eq]
  have e67 : ∀ q, 0 ≤ q → q < 6 → (hcpy (hset (hset (hset h 64 i 0 (h 64 j 0)) 65 i 0 0) 66 i 0 0) 67 i 67 j 0 0 6) 67 i q = h 67 j q := by
    intro q q0 q1
    rw [hcpy_eq q0 q1, hset_ne (by omega), hset_ne (by omega), hset_ne (by omega)]
  generalize hcpy (hset (hset (hset h 64 i 0 (h 64 j 0)) 65 i 0 0) 66 i 0 0) 67 i 67 j 0 0 6 = h1 at e0 e64 e67 ⊢
  have f1 : (hset h1 65 i 0 (h1 65 j 0)) 65 i 0 = h 65 j 0 := by rw [hset_eq, e0 _ _ _ (by omega)]
  have f2 : (hset (hset h1 65 i 0 (h1 65 j 0)) 66 i 0 (h1 66 j 0)) 66 i 0 = h 66 j 0 := by rw [hset_eq, e0 _ _ _ (by omega)]
  rw [f1, f2, wmul_eq (x := h 65 j 0) (y := 6) (by omega) (by omega), wmul_eq (x := h 65 j 0) (y := 8) (by omega) (by omega), wmul_eq (x := h 66 j 0) (y := 5) (by omega) (by omega)]
  rw [zG_t (by omega), zG_t (by omega), zG_t (by omega), zG_t (by omega), zG_t (by omega), zG_t (by omega), zG_t (by omega), zG_t (by omega), zG_t (by omega), zG_t (by omega), zG_t (by omega), zG_t (by omega), zG_t (by omega), zG_t (by omega), zG_t (by omega)]
  refine ⟨_, rfl, CR_cong (h := h) (i := j) (a := a) ?_ ?_ ?_ ?_ ?_ ?_ ?_ ?_ ?_ (fun _ _ _ => rfl) rfl rfl h6 hR, ?_⟩
  · rw [hcpy_ne (by omega), hcpy_ne (by omega), hcpy_ne (by omega), hcpy_ne (by omega), hcpy_ne (by omega), hset_ne (by omega), hset_ne (by omega)]
    exact e64
  · rw [hcpy_ne (by omega), hcpy_ne (by omega), hcpy_ne (by omega), hcpy_ne (by omega), hcpy_ne (by omega), hset_ne (by omega)]
    exact f1
  · rw [hcpy_ne (by omega), hcpy_ne (by omega), hcpy_ne (by omega), hcpy_ne (by omega), hcpy_ne (by omega)]
    exact f2
  · intro q q0 q1
    rw [hcpy_ne (by omega), hcpy_ne (by omega), hcpy_ne (by omega), hcpy_ne (by omega), hcpy_ne (by omega), hset_ne (by omega), hset_ne (by omega)]
    exact e67 q q0 q1
  · intro q q0 q1
    rw [hcpy_ne (by omega), hcpy_ne (by omega), hcpy_ne (by omega), hcpy_ne (by omega), hcpy_eq q0 (by omega), hset_ne (by omega), hset_ne (by omega)]
    exact e0 _ _ _ (by omega)
  · intro q q0 q1
    rw [hcpy_ne (by omega), hcpy_ne (by omega), hcpy_ne (by omega), hcpy_eq q0 (by omega), hcpy_ne (by omega), hset_ne (by omega), hset_ne (by omega)]
    exact e0 _ _ _ (by omega)
  · intro q q0 q1
    rw [hcpy_ne (by omega), hcpy_ne (by omega), hcpy_eq q0 (by omega), hcpy_ne (by omega), hcpy_ne (by omega), hset_ne (by omega), hset_ne (by omega)]
    exact e0 _ _ _ (by omega)
  · intro q q0 q1
    rw [hcpy_eq q0 (by omega), hcpy_ne (by omega), hcpy_ne (by omega), hcpy_ne (by omega), hcpy_ne (by omega), hset_ne (by omega), hset_ne (by omega)]
    exact e0 _ _ _ (by omega)
  · intro q q0 q1
    rw [hcpy_ne (by omega), hcpy_eq q0 (by omega), hcpy_ne (by omega), hcpy_ne (by omega), hcpy_ne (by omega), hset_ne (by omega), hset_ne (by omega)]
    exact e0 _ _ _ (by omega)
  · intro r n q hne
    rw [hcpy_ne (by omega), hcpy_ne (by omega), hcpy_ne (by omega), hcpy_ne (by omega), hcpy_ne (by omega), hset_ne (by omega), hset_ne (by omega)]
    exact e0 r n q hne
/-- the hour and the places copied, with nothing said -/
theorem L72 {h : zHC} {i j : Int} {m : zHM} {v : Int} {nm : Int → Int} (hij : i ≠ j) (hV : VR h v (m 14) nm) (hR : CR h j (m 14)) : ∃ h', F72 i j h = some h' ∧ VR h' v (m 14) nm ∧ RC h' i (m 14) (m 14 216) ∧ h' 65 i 0 = 0 ∧ h' 66 i 0 = 0 ∧ (∀ r n q, ¬ (64 ≤ r ∧ r ≤ 72 ∧ n = i) → h' r n q = h r n q) := by
  obtain ⟨⟨r1, r2, r3, r4, r5, r6, r7⟩, ⟨l1, l2⟩, hW⟩ := id hR
  have w6 := hV.2.2.2.2.2.2.2.1
  unfold WN at w6
  have fr : ∀ r n q, ¬ (64 ≤ r ∧ r ≤ 72 ∧ n = i) → (hcpy (hset (hset (hset h 64 i 0 (h 64 j 0)) 65 i 0 0) 66 i 0 0) 67 i 67 j 0 0 6) r n q = h r n q := by
    intro r n q hne
    rw [hcpy_ne (by omega), hset_ne (by omega), hset_ne (by omega), hset_ne (by omega)]
  have e64 : (hcpy (hset (hset (hset h 64 i 0 (h 64 j 0)) 65 i 0 0) 66 i 0 0) 67 i 67 j 0 0 6) 64 i 0 = h 64 j 0 := by
    rw [hcpy_ne (by omega), hset_ne (by omega), hset_ne (by omega), hset_eq]
  have e65 : (hcpy (hset (hset (hset h 64 i 0 (h 64 j 0)) 65 i 0 0) 66 i 0 0) 67 i 67 j 0 0 6) 65 i 0 = 0 := by
    rw [hcpy_ne (by omega), hset_ne (by omega), hset_eq]
  have e66 : (hcpy (hset (hset (hset h 64 i 0 (h 64 j 0)) 65 i 0 0) 66 i 0 0) 67 i 67 j 0 0 6) 66 i 0 = 0 := by
    rw [hcpy_ne (by omega), hset_eq]
  have e67 : ∀ q, 0 ≤ q → q < 6 → (hcpy (hset (hset (hset h 64 i 0 (h 64 j 0)) 65 i 0 0) 66 i 0 0) 67 i 67 j 0 0 6) 67 i q = h 67 j q := by
    intro q q0 q1
    rw [hcpy_eq q0 q1, hset_ne (by omega), hset_ne (by omega), hset_ne (by omega)]
  have c3 := hW.2.1
  refine ⟨_, rfl, VR_keep (fun r q g0 g1 => fr r v q (by omega)) (fun _ _ _ => rfl) (fun _ _ _ => rfl) hV, ⟨by rw [e64]; exact r1, by rw [e65]; omega, c3.1, by rw [e65]; exact Int.le_refl _, by rw [e66]; exact Int.le_refl _, ?_, ?_⟩, e65, e66, fr⟩
  · intro p p0 p1
    rw [e67 p p0 (by omega)]
    exact r6 p p0 p1
  · intro k k0 k1
    rw [e65] at k1
    omega
end
section
/-! What is said. -/
def zLoud (f l : Int) : Int := if f ≤ 0 then l else if 0 ≤ l - 2 then l - 2 else 0
theorem zLoud_rng {f l : Int} (h0 : 0 ≤ l) (h1 : l ≤ 9) : 0 ≤ zLoud f l ∧ zLoud f l ≤ 9 := by
  unfold zLoud
  split
  · omega
  · split <;> omega
theorem F228_s {m : zHM} {x l : Int} (x0 : 0 ≤ x) (x1 : x < 100) (h0 : 0 ≤ l) (h1 : l ≤ 9) : F228 x l m = some (zLoud (m 14 (97 + x)) l) := by
  unfold F228 F228_0 zLoud
  rw [wadd_eq (by omega) (by omega), zG_t (by omega), wsub_eq (x := l) (y := 0) (by omega) (by omega), wsub_eq (x := l) (y := 2) (by omega) (by omega)]
  split
  · rw [if_pos (by omega), show l - 0 = l by omega]
  · split <;> rfl
theorem F47_s {h : zHC} {v x : Int} {a : Int → Int} (hN : h 581 v 0 = a 5) (n0 : 0 ≤ a 5) (n1 : a 5 ≤ 8) (hF : VF h v a) (x0 : 0 ≤ x) (x1 : x < 100) : F47 v x h = some (if 0 < a (97 + x) then 1 else 0) := by
  have key : ∀ (n : Nat) (j : Int), 0 ≤ j → j ≤ a 5 → a 5 - j < n → (∀ k, 0 ≤ k → k < j → ¬ h 593 v k = x) → F47_0 h n v x j = some (if 0 < a (97 + x) then 1 else 0) := by
    intro n
    induction n with
    | zero => intro j j0 j1 g; omega
    | succ n ih =>
      intro j j0 j1 g hb
      rw [F47_0, hN]
      by_cases e : j = a 5
      · rw [if_pos (by omega), if_neg]
        intro w
        obtain ⟨k, k0, k1, k2⟩ := (hF x x0 x1).mp w
        exact hb k k0 (by omega) k2
      · rw [if_neg (by omega), zG_t (by omega)]
        by_cases q : h 593 v j = x
        · rw [if_neg (by omega), if_pos ((hF x x0 x1).mpr ⟨j, j0, by omega, q⟩)]
        · rw [if_pos q, wadd_eq (by omega) (by omega)]
          refine ih (j + 1) (by omega) (by omega) (by omega) (fun k k0 k1 => ?_)
          by_cases u : k = j
          · subst u; exact q
          · exact hb k k0 (by omega)
  have big := zFu_big
  exact key zFu 0 (by decide) n0 (by omega) (fun k k0 k1 => by omega)
theorem F77_s {h : zHC} {v x l : Int} {a nm : Int → Int} (hV : VR h v a nm) (x0 : 0 ≤ x) (x1 : x < 100) (h0 : 0 ≤ l) (h1 : l ≤ 9) : F77 v x l h = some (zLoud (a (97 + x)) l) := by
  obtain ⟨hN, hC, hP, hM, hF, hS, hQ, hW⟩ := hV
  have w6 := hW.1
  unfold WN at w6
  unfold F77 zLoud
  rw [F47_s hN.2.2.2.2.2.1 (by omega) (by omega) hF x0 x1]
  show (if _ = _ then _ else _) = _
  rw [wsub_eq (by omega) (by omega)]
  by_cases q : 0 < a (97 + x)
  · rw [if_pos q, if_neg (by decide), if_neg (show ¬ a (97 + x) ≤ 0 by omega)]
    by_cases u : 0 < l - 2
    · rw [if_pos u, if_pos (by omega)]
    · rw [if_neg u]
      split
      · congr 1; omega
      · rfl
  · rw [if_neg q, if_pos rfl, if_pos (by omega)]
/-- what comes straight from a cell -/
def zDir (a : Int → Int) (c at_ l : Int) : Int := if l < 1 then 0 else if l < zD (a (7 + 3 * c)) at_ then 0 else l - zD (a (7 + 3 * c)) at_ / 2
theorem F82_s {h : zHC} {v c x l : Int} {a : Int → Int} (hC : VC h v a) (hW : WC a) (h6 : a 2 ≤ 6) (c0 : 0 ≤ c) (c1 : c < a 2) (x0 : 0 ≤ x) (x1 : x < 100) (l0 : 0 ≤ l) (l1 : l ≤ 9) : F82 v c x l h = some (zDir a c x l) := by
  obtain ⟨w1, w2, -⟩ := hW c c0 c1
  have zr := zD_rng w1 w2 x0 x1
  unfold F82 zDir
  rw [zG_t (by omega), (hC c c0 c1).1, F83_s w1 w2 x0 x1]
  show (if _ then _ else _) = _
  rw [wdiv_eq (by omega) (by omega) (by decide) (by decide), wsub_eq (by omega) (by omega)]
  split
  · rfl
  · split <;> rfl
theorem zDir_rng {a : Int → Int} {c x l : Int} (hW : WC a) (c0 : 0 ≤ c) (c1 : c < a 2) (x0 : 0 ≤ x) (x1 : x < 100) (l0 : 0 ≤ l) (l1 : l ≤ 9) : 0 ≤ zDir a c x l ∧ zDir a c x l ≤ 9 := by
  obtain ⟨w1, w2, -⟩ := hW c c0 c1
  have zr := zD_rng w1 w2 x0 x1
  unfold zDir
  split
  · omega
  · split <;> omega
/-- the offers of a new saying -/
theorem U_offers {h : zHC} {m : zHM} {i v k s H C x l : Int} (k0 : 0 ≤ k) (k1 : k < 30) (s0 : 0 ≤ s) (s1 : s < 30) (x0 : 0 ≤ x) (x1 : x < 100) (l0 : 0 ≤ l) (l1 : l ≤ 9) (H0 : 0 ≤ H) (H1 : H ≤ 1000) (hN : h 578 v 0 = m 14 2) (hN1 : 0 ≤ m 14 2) (hN0 : m 14 2 ≤ 6) (hVC : VC h v (m 14)) (hWC : WC (m 14)) (hH : h 64 i 0 = H) (hHm : m 14 209 = H) : ∀ (n n' : Nat) (o : Int) (h1 : zHC) (m1 : zHM), 0 ≤ o → o ≤ m 14 2 → m 14 2 - o < n → m 14 2 - o < n' → CD h1 i k (m1 14) s → SD (m1 14) s H C → (∀ r n j, ¬ (n = i ∧ (r = 68 ∨ r = 69) ∧ k * 6 ≤ j ∧ j < k * 6 + 6) → h1 r n j = h r n j) → (∀ r j, ¬ (r = 14 ∧ 457 + 18 * s ≤ j ∧ j < 475 + 18 * s ∧ ¬ (j = 457 + 18 * s + 3 * 0 + 2 ∨ j = 457 + 18 * s + 3 * 1 + 2 ∨ j = 457 + 18 * s + 3 * 2 + 2 ∨ j = 457 + 18 * s + 3 * 3 + 2 ∨ j = 457 + 18 * s + 3 * 4 + 2 ∨ j = 457 + 18 * s + 3 * 5 + 2)) → m1 r j = m r j) → ∃ h2 m2, F79_0 n i v x l k o h1 = (F86 i k h2).bind (fun r1 => some (k, r1)) ∧ F227_1 n' s x l o m1 = some (s, m2) ∧ CD h2 i k (m2 14) s ∧ SD (m2 14) s H C ∧ (∀ r n j, ¬ (n = i ∧ (r = 68 ∨ r = 69) ∧ k * 6 ≤ j ∧ j < k * 6 + 6) → h2 r n j = h r n j) ∧ (∀ r j, ¬ (r = 14 ∧ 457 + 18 * s ≤ j ∧ j < 475 + 18 * s ∧ ¬ (j = 457 + 18 * s + 3 * 0 + 2 ∨ j = 457 + 18 * s + 3 * 1 + 2 ∨ j = 457 + 18 * s + 3 * 2 + 2 ∨ j = 457 + 18 * s + 3 * 3 + 2 ∨ j = 457 + 18 * s + 3 * 4 + 2 ∨ j = 457 + 18 * s + 3 * 5 + 2)) → m2 r j = m r j) := by
  intro n
  induction n with
  | zero => intro n' o h1 m1 o0 o1 g1 g2; omega
  | succ n ih =>
    intro n' o h1 m1 o0 o1 g1 g2 hD1 hS1 F1 F2
    cases n' with
    | zero => omega
    | succ n' =>
      have m2e : m1 14 2 = m 14 2 := F2 14 2 (by omega)
      have h2e : h1 578 v 0 = m 14 2 := by rw [F1 578 v 0 (by omega), hN]
      rw [F79_0, F227_1, h2e, m2e]
      by_cases e : o = m 14 2
      · rw [if_pos (by omega), if_pos (by omega)]
        exact ⟨h1, m1, rfl, rfl, hD1, hS1, F1, F2⟩
      · have e1 : wadd o 1 = o + 1 := wadd_eq (by omega) (by omega)
        obtain ⟨b1, b2, b3, b4, b5, b6⟩ := hWC o o0 (by omega)
        have cd := (hVC o o0 (by omega)).2.1
        have hVC1 : VC h1 v (m 14) := by
          intro c c0 c1
          rw [F1 _ _ _ (by omega), F1 _ _ _ (by omega), F1 _ _ _ (by omega)]
          exact hVC c c0 c1
        have mo : m1 14 (7 + 3 * o) = m 14 (7 + 3 * o) := F2 14 _ (by omega)
        have md : m1 14 (7 + 3 * o + 1) = m 14 (7 + 3 * o + 1) := F2 14 _ (by omega)
        have mh : m1 14 209 = H := by rw [F2 14 209 (by omega), hHm]
        have zr := zD_rng b1 b2 x0 x1
        have dr := zDir_rng hWC o0 (by omega) x0 x1 l0 l1
        have ho : ¬ m 14 2 ≤ o := by omega
        rw [if_neg ho, if_neg ho, F82_s hVC1 hWC hN0 o0 (by omega) x0 x1 l0 l1]
        show ∃ h2 m2, Option.bind (F85 i v k o (zDir (m 14) o x l) h1) _ = _ ∧ _
        by_cases q1 : l ≤ 0
        · have ez : zDir (m 14) o x l = 0 := by
            unfold zDir
            rw [if_pos (by omega)]
          rw [if_pos q1, ez, F85_0s k0 k1 o0 (by omega) (by decide)]
          show ∃ h2 m2, F79_0 n i v x l k (wadd o 1) h1 = _ ∧ _
          unfold F227_2
          rw [e1]
          exact ih n' (o + 1) h1 m1 (by omega) (by omega) (by omega) (by omega) hD1 hS1 F1 F2
        · rw [if_neg q1, F229_s o0 (by omega), mo]
          show ∃ h2 m2, _ ∧ Option.bind (F230 _ _) _ = some (s, m2) ∧ _
          rw [F230_s x0 x1 b1 b2]
          show ∃ h2 m2, _ ∧ (if l < zD _ _ then _ else _) = some (s, m2) ∧ _
          rw [zD_comm (a := x)]
          by_cases q2 : l < zD (m 14 (7 + 3 * o)) x
          · have ez : zDir (m 14) o x l = 0 := by
              unfold zDir
              rw [if_neg (by omega), if_pos q2]
            rw [if_pos q2, ez, F85_0s k0 k1 o0 (by omega) (by decide)]
            show ∃ h2 m2, F79_0 n i v x l k (wadd o 1) h1 = _ ∧ _
            unfold F227_2
            rw [e1]
            exact ih n' (o + 1) h1 m1 (by omega) (by omega) (by omega) (by omega) hD1 hS1 F1 F2
          · have ez : zDir (m 14) o x l = l - zD (m 14 (7 + 3 * o)) x / 2 := by
              unfold zDir
              rw [if_neg (by omega), if_neg q2]
            rw [if_neg q2, ez, F232_s o0 (by omega), md, mh]
            simp only [Option.bind_some]
            rw [F230_s x0 x1 b1 b2]
            simp only [Option.bind_some]
            rw [zD_comm (a := x), wadd_eq (x := H) (by omega) (by omega), wdiv_eq (by omega) (by omega) (by decide) (by decide), wsub_eq (by omega) (by omega)]
            obtain ⟨h3, m3, r1, r2, r3, r4, r5, r6⟩ := S_offer (v := v) (d := m 14 (7 + 3 * o + 1)) (f := l - zD (m 14 (7 + 3 * o)) x / 2) k0 k1 s0 s1 o0 (by omega : o < 6) (by rw [F1 585 v o (by omega)]; exact cd) b3 b4 (by rw [F1 64 i 0 (by omega)]; exact hH) H0 H1 (by omega) (by omega) hD1 hS1 (by rw [m2e]; omega)
            rw [r1, r2]
            show ∃ h2 m2, F79_0 n i v x l k (wadd o 1) h3 = _ ∧ F227_2 _ _ _ _ _ _ = _ ∧ _
            unfold F227_2
            rw [e1]
            exact ih n' (o + 1) h3 m3 (by omega) (by omega) (by omega) (by omega) r3 r4 (fun r n j hne => by rw [r5 r n j (by omega), F1 r n j hne]) (fun r j hne => by rw [r6 r j (by omega), F2 r j hne])
theorem F80_s {h : zHC} {i k : Int} (k0 : 0 ≤ k) (k1 : k < 30) : ∃ h', F80 i (k * 6) ((k + 1) * 6) (-1) h = some h' ∧ (∀ j, k * 6 ≤ j → j < k * 6 + 6 → h' 68 i j = -1) ∧ ∀ r n j, ¬ (n = i ∧ r = 68 ∧ k * 6 ≤ j ∧ j < k * 6 + 6) → h' r n j = h r n j := by
  have key : ∀ (n : Nat) (j : Int) (h1 : zHC), k * 6 ≤ j → j ≤ k * 6 + 6 → k * 6 + 6 - j < n → (∀ q, k * 6 ≤ q → q < j → h1 68 i q = -1) → (∀ r n q, ¬ (n = i ∧ r = 68 ∧ k * 6 ≤ q ∧ q < k * 6 + 6) → h1 r n q = h r n q) → ∃ h', F80_0 n i ((k + 1) * 6) (-1) j h1 = some h' ∧ (∀ j, k * 6 ≤ j → j < k * 6 + 6 → h' 68 i j = -1) ∧ ∀ r n j, ¬ (n = i ∧ r = 68 ∧ k * 6 ≤ j ∧ j < k * 6 + 6) → h' r n j = h r n j := by
    intro n
    induction n with
    | zero => intro j h1 j0 j1 g; omega
    | succ n ih =>
      intro j h1 j0 j1 g q1 q2
      rw [F80_0]
      by_cases e : j = k * 6 + 6
      · rw [if_pos (by omega)]
        exact ⟨h1, rfl, fun q g0 g1 => q1 q g0 (by omega), q2⟩
      · rw [if_neg (by omega), zG_t (by omega), wadd_eq (by omega) (by omega)]
        refine ih (j + 1) _ (by omega) (by omega) (by omega) (fun q g0 g1 => ?_) (fun r n q hne => ?_)
        · by_cases u : q = j
          · subst u; exact hset_eq
          · rw [hset_ne (by omega)]
            exact q1 q g0 (by omega)
        · rw [hset_ne (by omega)]
          exact q2 r n q hne
  have big := zFu_big
  obtain ⟨h', g1, g2, g3⟩ := key zFu (k * 6) h (Int.le_refl _) (by omega) (by omega) (fun q g0 g1 => by omega) (fun _ _ _ _ => rfl)
  refine ⟨h', ?_, g2, g3⟩
  unfold F80 F81
  rw [if_pos (by omega), if_pos (by omega), if_pos (by omega)]
  exact g1
theorem wshl_rng {p : Int} (h0 : 0 ≤ p) (h1 : p < 6) : 1 ≤ wshl 1 p ∧ wshl 1 p < 64 := by
  have k : (List.range 6).all (fun q => decide (1 ≤ wshl 1 (q : Int) ∧ wshl 1 (q : Int) < 64)) = true := by decide +kernel
  have e := of_decide_eq_true (z_all k (x := p) h0 (by omega))
  have e1 : ((p.toNat : Nat) : Int) = p := by omega
  rw [e1] at e
  exact e
/-- the class's rows of a new saying -/
theorem F79_pre {h : zHC} {i v p x w l k : Int} (hk : h 65 i 0 = k) (k0 : 0 ≤ k) (k1 : k < 30) : ∃ h1, F79 i v p x w l h = F79_0 zFu i v x l k 0 h1 ∧ h1 65 i 0 = k + 1 ∧ h1 70 i (k * 8) = w ∧ h1 70 i (k * 8 + 1) = p ∧ h1 70 i (k * 8 + 2) = h 64 i 0 ∧ h1 70 i (k * 8 + 3) = x ∧ h1 70 i (k * 8 + 4) = l ∧ h1 70 i (k * 8 + 5) = wshl 1 p ∧ h1 70 i (k * 8 + 6) = 0 ∧ h1 70 i (k * 8 + 7) = 0 ∧ (∀ j, k * 6 ≤ j → j < k * 6 + 6 → h1 68 i j = -1) ∧ ∀ r n j, ¬ (n = i ∧ ((r = 65 ∧ j = 0) ∨ (r = 68 ∧ k * 6 ≤ j ∧ j < k * 6 + 6) ∨ (r = 70 ∧ k * 8 ≤ j ∧ j < k * 8 + 8))) → h1 r n j = h r n j := by
  unfold F79
  rw [hk, if_pos k1, wmul_eq (x := k) (y := 8) (by omega) (by omega), wmul_eq (x := k) (y := 6) (by omega) (by omega), wadd_eq (x := k) (y := 1) (by omega) (by omega), wmul_eq (x := k + 1) (y := 6) (by omega) (by omega), wadd_eq (x := k * 8) (y := 0) (by omega) (by omega), wadd_eq (x := k * 8) (y := 1) (by omega) (by omega), wadd_eq (x := k * 8) (y := 2) (by omega) (by omega), wadd_eq (x := k * 8) (y := 3) (by omega) (by omega), wadd_eq (x := k * 8) (y := 4) (by omega) (by omega), wadd_eq (x := k * 8) (y := 5) (by omega) (by omega), wadd_eq (x := k * 8) (y := 6) (by omega) (by omega), wadd_eq (x := k * 8) (y := 7) (by omega) (by omega), Int.add_zero]
  rw [zG_t (by omega), zG_t (by omega), zG_t (by omega), zG_t (by omega), zG_t (by omega), zG_t (by omega), zG_t (by omega), zG_t (by omega)]
  obtain ⟨h2, g1, g2, g3⟩ := F80_s (h := hset (hset (hset (hset (hset (hset (hset (hset h 70 i (k * 8) w) 70 i (k * 8 + 1) p) 70 i (k * 8 + 2) (h 64 i 0)) 70 i (k * 8 + 3) x) 70 i (k * 8 + 4) l) 70 i (k * 8 + 5) (wshl 1 p)) 70 i (k * 8 + 6) 0) 70 i (k * 8 + 7) 0) (i := i) k0 k1
  rw [g1]
  refine ⟨_, rfl, hset_eq, ?_, ?_, ?_, ?_, ?_, ?_, ?_, ?_, ?_, ?_⟩
  · rw [hset_ne (by omega), g3 _ _ _ (by omega), hset_ne (by omega), hset_ne (by omega), hset_ne (by omega), hset_ne (by omega), hset_ne (by omega), hset_ne (by omega), hset_ne (by omega), hset_eq]
  · rw [hset_ne (by omega), g3 _ _ _ (by omega), hset_ne (by omega), hset_ne (by omega), hset_ne (by omega), hset_ne (by omega), hset_ne (by omega), hset_ne (by omega), hset_eq]
  · rw [hset_ne (by omega), g3 _ _ _ (by omega), hset_ne (by omega), hset_ne (by omega), hset_ne (by omega), hset_ne (by omega), hset_ne (by omega), hset_eq]
  · rw [hset_ne (by omega), g3 _ _ _ (by omega), hset_ne (by omega), hset_ne (by omega), hset_ne (by omega), hset_ne (by omega), hset_eq]
  · rw [hset_ne (by omega), g3 _ _ _ (by omega), hset_ne (by omega), hset_ne (by omega), hset_ne (by omega), hset_eq]
  · rw [hset_ne (by omega), g3 _ _ _ (by omega), hset_ne (by omega), hset_ne (by omega), hset_eq]
  · rw [hset_ne (by omega), g3 _ _ _ (by omega), hset_ne (by omega), hset_eq]
  · rw [hset_ne (by omega), g3 _ _ _ (by omega), hset_eq]
  · intro j j0 j1
    rw [hset_ne (by omega)]
    exact g2 j j0 j1
  · intro r n j hne
    rw [hset_ne (by omega), g3 _ _ _ (by omega), hset_ne (by omega), hset_ne (by omega), hset_ne (by omega), hset_ne (by omega), hset_ne (by omega), hset_ne (by omega), hset_ne (by omega), hset_ne (by omega)]
/-- the model's rows of a new saying -/
theorem F227_pre {m : zHM} {p w l s x : Int} (hs : m 14 216 = s) (s0 : 0 ≤ s) (s1 : s < 30) (p0 : 0 ≤ p) (p1 : p < 6) (hx : m 14 (210 + p) = x) (x0 : 0 ≤ x) (x1 : x < 100) (l0 : 0 ≤ l) (l1 : l ≤ 9) : ∃ m1, F227 p w l m = F227_1 zFu s x (zLoud (m 14 (97 + x)) l) 0 m1 ∧ m1 14 216 = s + 1 ∧ m1 14 (217 + 8 * s) = w ∧ m1 14 (217 + 8 * s + 1) = p ∧ m1 14 (217 + 8 * s + 2) = m 14 209 ∧ m1 14 (217 + 8 * s + 3) = x ∧ m1 14 (217 + 8 * s + 4) = zLoud (m 14 (97 + x)) l ∧ m1 14 (217 + 8 * s + 5) = wshl 1 p ∧ m1 14 (217 + 8 * s + 6) = 0 ∧ m1 14 (217 + 8 * s + 7) = 0 ∧ (∀ j, 457 + 18 * s ≤ j → j < 475 + 18 * s → m1 14 j = 0) ∧ ∀ r j, ¬ (r = 14 ∧ (j = 216 ∨ (217 + 8 * s ≤ j ∧ j < 225 + 8 * s) ∨ (457 + 18 * s ≤ j ∧ j < 475 + 18 * s))) → m1 r j = m r j := by
  have key : ∀ (n : Nat) (j : Int) (m0 m1 : zHM), 0 ≤ j → j ≤ 18 → 18 - j < n → m0 14 216 = s → (∀ q, 457 + 18 * s ≤ q → q < 457 + 18 * s + j → m1 14 q = 0) → (∀ r q, ¬ (r = 14 ∧ 457 + 18 * s ≤ q ∧ q < 475 + 18 * s) → m1 r q = m0 r q) → ∃ m2, F227_0 n s (217 + 8 * s) x j m1 = F227_1 zFu s x (m0 14 (217 + 8 * s + 4)) 0 m2 ∧ m2 14 216 = s + 1 ∧ (∀ q, 457 + 18 * s ≤ q → q < 475 + 18 * s → m2 14 q = 0) ∧ (∀ r q, ¬ (r = 14 ∧ (q = 216 ∨ 457 + 18 * s ≤ q ∧ q < 475 + 18 * s)) → m2 r q = m0 r q) := by
    intro n
    induction n with
    | zero => intro j m0 m1 j0 j1 g; omega
    | succ n ih =>
      intro j m0 m1 j0 j1 g e0 q1 q2
      rw [F227_0]
      by_cases e : j = 18
      · have e2 : m1 14 216 = s := by rw [q2 _ _ (by omega)]; exact e0
        rw [if_pos (by omega), wadd_eq (x := 217 + 8 * s) (by omega) (by omega), zG_t (by omega), e2, wadd_eq (x := s) (by omega) (by omega), mset_ne (by omega), q2 _ (217 + 8 * s + 4) (by omega)]
        refine ⟨_, rfl, mset_eq, fun q g0 g1 => ?_, fun r q hne => ?_⟩
        · rw [mset_ne (by omega)]
          exact q1 q g0 (by omega)
        · rw [mset_ne (by omega)]
          exact q2 r q (by omega)
      · rw [if_neg (by omega), wmul_eq (by omega) (by omega), wadd_eq (x := 457) (by omega) (by omega), wadd_eq (x := 457 + 18 * s) (by omega) (by omega), zG_t (by omega), wadd_eq (x := j) (by omega) (by omega)]
        refine ih (j + 1) m0 _ (by omega) (by omega) (by omega) e0 (fun q g0 g1 => ?_) (fun r q hne => ?_)
        · by_cases u : q = 457 + 18 * s + j
          · subst u; exact mset_eq
          · rw [mset_ne (by omega)]
            exact q1 q g0 (by omega)
        · rw [mset_ne (by omega)]
          exact q2 r q hne
  have big := zFu_big
  unfold F227
  rw [wadd_eq (x := 210) (by omega) (by omega), zG_t (by omega), hs, hx, wmul_eq (by omega) (by omega), wadd_eq (x := 217) (by omega) (by omega), wadd_eq (x := 217 + 8 * s) (y := 0) (by omega) (by omega), wadd_eq (x := 217 + 8 * s) (y := 1) (by omega) (by omega), wadd_eq (x := 217 + 8 * s) (y := 2) (by omega) (by omega), wadd_eq (x := 217 + 8 * s) (y := 3) (by omega) (by omega), wadd_eq (x := 217 + 8 * s) (y := 4) (by omega) (by omega), wadd_eq (x := 217 + 8 * s) (y := 5) (by omega) (by omega), wadd_eq (x := 217 + 8 * s) (y := 6) (by omega) (by omega), wadd_eq (x := 217 + 8 * s) (y := 7) (by omega) (by omega), Int.add_zero]
  rw [zG_t (by omega), zG_t (by omega), zG_t (by omega), zG_t (by omega)]
  have e1 : (mset (mset m 14 (217 + 8 * s) w) 14 (217 + 8 * s + 1) p) 14 209 = m 14 209 := by rw [mset_ne (by omega), mset_ne (by omega)]
  rw [e1, F228_s x0 x1 l0 l1]
  have e2 : (mset (mset (mset (mset m 14 (217 + 8 * s) w) 14 (217 + 8 * s + 1) p) 14 (217 + 8 * s + 2) (m 14 209)) 14 (217 + 8 * s + 3) x) 14 (97 + x) = m 14 (97 + x) := by rw [mset_ne (by omega), mset_ne (by omega), mset_ne (by omega), mset_ne (by omega)]
  rw [e2]
  show ∃ m1, zG _ _ = _ ∧ _
  rw [zG_t (by omega), zG_t (by omega), zG_t (by omega), zG_t (by omega)]
  generalize hm0 : mset (mset (mset (mset (mset (mset (mset (mset m 14 (217 + 8 * s) w) 14 (217 + 8 * s + 1) p) 14 (217 + 8 * s + 2) (m 14 209)) 14 (217 + 8 * s + 3) x) 14 (217 + 8 * s + 4) (zLoud (m 14 (97 + x)) l)) 14 (217 + 8 * s + 5) (wshl 1 p)) 14 (217 + 8 * s + 6) 0) 14 (217 + 8 * s + 7) 0 = m0
  have f0 : m0 14 216 = s := by rw [← hm0, mset_ne (by omega), mset_ne (by omega), mset_ne (by omega), mset_ne (by omega), mset_ne (by omega), mset_ne (by omega), mset_ne (by omega), mset_ne (by omega)]; exact hs
  have f4 : m0 14 (217 + 8 * s + 4) = zLoud (m 14 (97 + x)) l := by rw [← hm0, mset_ne (by omega), mset_ne (by omega), mset_ne (by omega), mset_eq]
  obtain ⟨m2, z1, z2, z3, z4⟩ := key zFu 0 m0 m0 (by decide) (by decide) (by omega) f0 (fun q g0 g1 => by omega) (fun _ _ _ => rfl)
  rw [f4] at z1
  refine ⟨m2, z1, z2, ?_, ?_, ?_, ?_, ?_, ?_, ?_, ?_, z3, ?_⟩
  · rw [z4 _ _ (by omega), ← hm0, mset_ne (by omega), mset_ne (by omega), mset_ne (by omega), mset_ne (by omega), mset_ne (by omega), mset_ne (by omega), mset_ne (by omega), mset_eq]
  · rw [z4 _ _ (by omega), ← hm0, mset_ne (by omega), mset_ne (by omega), mset_ne (by omega), mset_ne (by omega), mset_ne (by omega), mset_ne (by omega), mset_eq]
  · rw [z4 _ _ (by omega), ← hm0, mset_ne (by omega), mset_ne (by omega), mset_ne (by omega), mset_ne (by omega), mset_ne (by omega), mset_eq]
  · rw [z4 _ _ (by omega), ← hm0, mset_ne (by omega), mset_ne (by omega), mset_ne (by omega), mset_ne (by omega), mset_eq]
  · rw [z4 _ _ (by omega)]; exact f4
  · rw [z4 _ _ (by omega), ← hm0, mset_ne (by omega), mset_ne (by omega), mset_eq]
  · rw [z4 _ _ (by omega), ← hm0, mset_ne (by omega), mset_eq]
  · rw [z4 _ _ (by omega), ← hm0, mset_eq]
  · intro r j hne
    rw [z4 _ _ (by omega), ← hm0, mset_ne (by omega), mset_ne (by omega), mset_ne (by omega), mset_ne (by omega), mset_ne (by omega), mset_ne (by omega), mset_ne (by omega), mset_ne (by omega)]
end
section
/-! speak() and sayIt(). -/
theorem zsum_succ {f : Int → Int} {n : Nat} : zsum f (n + 1) = zsum f n + f n := rfl
theorem zcnt_0 {f : Int → Int} {s : Int} {n : Nat} (h : ∀ j : Int, 0 ≤ j → j < n → ¬ f j = s) : zcnt f s n = 0 := by
  induction n with
  | zero => rfl
  | succ n ih =>
    unfold zcnt
    rw [ih (fun j h0 h1 => h j h0 (by omega)), if_neg (h n (by omega) (by omega))]
    rfl
def mfE (m m' : zHM) : Prop := ∀ r j, ¬ (r = 14 ∧ 216 ≤ j ∧ j < 997) → m' r j = m r j
theorem P_says {h : zHC} {m : zHM} {i v σ p w l : Int} {nm : Int → Int} (hI : CI h m i v σ nm) (hs : m 14 216 < 30) (p0 : 0 ≤ p) (p1 : p < m 14 3) (w0 : 1 ≤ w) (w1 : w ≤ 99) (l0 : 1 ≤ l) (l1 : l ≤ 9) : ∃ h' m', F76 i v p w l h = some (h 65 i 0, h') ∧ F227 p w l m = some (m 14 216, m') ∧ CI h' m' i v σ nm ∧ h' 65 i 0 = h 65 i 0 + 1 ∧ m' 14 216 = m 14 216 + 1 ∧ h' 66 i 0 = h 66 i 0 ∧ (∀ r n j, ¬ (n = i ∧ 64 ≤ r ∧ r ≤ 72) → h' r n j = h r n j) ∧ mfE m m' := by
  obtain ⟨hV, hR, hE, hL, hW⟩ := hI
  obtain ⟨n0, n1, hq⟩ := CW_n hW
  obtain ⟨hN, hC, hP, hM, hF, hS, hQ, hVW⟩ := id hV
  obtain ⟨r1, r2, r3, r4, r5, r6, r7⟩ := hR
  obtain ⟨⟨c1, c2⟩, ⟨c3, c4⟩, c5, c6, c7⟩ := hW
  have w6 := hVW.1
  unfold WN at w6
  have big := zFu_big
  obtain ⟨x0, x1, x2⟩ := r6 p p0 p1
  have zr := zLoud_rng (f := m 14 (97 + m 14 (210 + p))) (l := l) (by omega) l1
  obtain ⟨h1, a1, a2, a3, a4, a5, a6, a7, a8, a9, a10, a11, a12⟩ := F79_pre (h := h) (i := i) (v := v) (p := p) (x := m 14 (210 + p)) (w := w) (l := zLoud (m 14 (97 + m 14 (210 + p))) l) (k := h 65 i 0) rfl r4 (by omega)
  obtain ⟨m1, b1, b2, b3, b4, b5, b6, b7, b8, b9, b10, b11, b12⟩ := F227_pre (m := m) (p := p) (w := w) (l := l) (s := m 14 216) (x := m 14 (210 + p)) rfl c3 hs p0 (by omega) rfl x1 x2 (by omega) l1
  have e209 : m1 14 209 = m 14 209 := b12 _ _ (by omega)
  have a209 : ∀ k, 0 ≤ k → k < 209 → m1 14 k = m 14 k := fun k g0 g1 => b12 _ _ (by omega)
  have hh1 : ∀ r j, 576 ≤ r → r ≤ 595 → h1 r v j = h r v j := fun r j g0 g1 => a12 r v j (by omega)
  have hV1 := VR_keep (nm' := nm) hh1 a209 (fun _ _ _ => rfl) hV
  obtain ⟨hN1, hC1, hP1, hM1, hF1, hS1, hQ1, hVW1⟩ := id hV1
  have e2 : m1 14 2 = m 14 2 := a209 2 (by decide) (by decide)
  have cd1 : CD h1 i (h 65 i 0) (m1 14) (m 14 216) := by
    intro c g0 g1
    rw [a11 _ (by omega) (by omega), b11 _ (by omega) (by omega), if_pos rfl]
    exact ⟨rfl, fun q => absurd rfl q⟩
  have sd1 : SD (m1 14) (m 14 216) (m 14 209) 6 := by
    intro c g0 g1
    rw [b11 (457 + 18 * m 14 216 + 3 * c) (by omega) (by omega), b11 (457 + 18 * m 14 216 + 3 * c + 2) (by omega) (by omega), if_neg (by omega)]
    exact ⟨Int.le_refl _, by omega, fun q => absurd rfl q, rfl, fun _ => rfl⟩
  obtain ⟨h2, m2, z1, z2, z3, z4, z5, z6⟩ := U_offers (h := h1) (m := m1) (i := i) (v := v) (k := h 65 i 0) (s := m 14 216) (H := m 14 209) (C := 6) (x := m 14 (210 + p)) (l := zLoud (m 14 (97 + m 14 (210 + p))) l) r4 (by omega) c3 hs x1 x2 zr.1 zr.2 c1 (by omega) hN1.2.2.1 (by omega) (by omega) hC1 hVW1.2.1 (by rw [a12 _ _ _ (by omega)]; exact r1) e209 zFu zFu 0 h1 m1 (by decide) (by omega) (by omega) (by omega) cd1 sd1 (fun _ _ _ _ => rfl) (fun _ _ _ => rfl)
  have hda : ∀ c, 0 ≤ c → c < 6 → h2 68 i (h 65 i 0 * 6 + c) < 1000000 := by
    intro c g0 g1
    obtain ⟨d1, d2⟩ := z3 c g0 g1
    obtain ⟨u1, u2, u3, u4, u5⟩ := z4 c g0 g1
    rw [d1]
    split <;> omega
  obtain ⟨h3, f1, f2, f3⟩ := F86_s (h := h2) (i := i) (k := h 65 i 0) (H := m 14 209) r4 (by omega) (by rw [z5 _ _ _ (by omega), a12 _ _ _ (by omega)]; exact r1) hda
  have E65 : h3 65 i 0 = h 65 i 0 + 1 := by rw [f3 _ _ _ (by omega), z5 _ _ _ (by omega), a2]
  have E216 : m2 14 216 = m 14 216 + 1 := by rw [z6 _ _ (by omega), b2]
  have E66 : h3 66 i 0 = h 66 i 0 := by rw [f3 _ _ _ (by omega), z5 _ _ _ (by omega), a12 _ _ _ (by omega)]
  have E997 : m2 14 997 = m 14 997 := by rw [z6 _ _ (by omega), b12 _ _ (by omega)]
  have E209 : m2 14 209 = m 14 209 := by rw [z6 _ _ (by omega), e209]
  have E2 : m2 14 2 = m 14 2 := by rw [z6 _ _ (by omega), e2]
  have fc : ∀ r n j, ¬ (n = i ∧ ((r = 65 ∧ j = 0) ∨ ((r = 68 ∨ r = 69) ∧ h 65 i 0 * 6 ≤ j ∧ j < h 65 i 0 * 6 + 6) ∨ (r = 70 ∧ h 65 i 0 * 8 ≤ j ∧ j < h 65 i 0 * 8 + 8) ∨ (r = 72 ∧ j = h 65 i 0))) → h3 r n j = h r n j := fun r n j hne => by rw [f3 r n j (by omega), z5 r n j (by omega), a12 r n j (by omega)]
  have fm : ∀ r j, ¬ (r = 14 ∧ (j = 216 ∨ (217 + 8 * m 14 216 ≤ j ∧ j < 225 + 8 * m 14 216) ∨ (457 + 18 * m 14 216 ≤ j ∧ j < 475 + 18 * m 14 216))) → m2 r j = m r j := fun r j hne => by rw [z6 r j (by omega), b12 r j (by omega)]
  have wr := wshl_rng p0 (by omega : p < 6)
  have fl : ∀ c, 0 ≤ c → c < 6 → m2 14 (457 + 18 * m 14 216 + 3 * c + 2) = 0 := by
    intro c g0 g1
    obtain ⟨u1, u2, u3, u4, u5⟩ := z4 c g0 g1
    rw [z6 _ _ (by omega), b11 _ (by omega) (by omega)]
  have sf2 : SF (m2 14) (m 14 216) := by
    unfold SF
    rw [fl 0 (by decide) (by decide), fl 1 (by decide) (by decide), fl 2 (by decide) (by decide), fl 3 (by decide) (by decide), fl 4 (by decide) (by decide), fl 5 (by decide) (by decide)]
    rw [z6 _ (217 + 8 * m 14 216) (by omega), z6 _ (217 + 8 * m 14 216 + 1) (by omega), z6 _ (217 + 8 * m 14 216 + 2) (by omega), z6 _ (217 + 8 * m 14 216 + 3) (by omega), z6 _ (217 + 8 * m 14 216 + 4) (by omega), z6 _ (217 + 8 * m 14 216 + 5) (by omega), z6 _ (217 + 8 * m 14 216 + 6) (by omega), z6 _ (217 + 8 * m 14 216 + 7) (by omega), b3, b4, b5, b6, b7, b8, b9, b10]
    exact ⟨⟨w0, w1⟩, ⟨p0, by omega⟩, ⟨c1, c2⟩, ⟨x1, x2⟩, zr, wr, by decide, by decide⟩
  refine ⟨h3, m2, ?_, ?_, ⟨VR_keep (fun r j g0 g1 => fc r v j (by omega)) (fun k g0 g1 => fm _ _ (by omega)) (fun _ _ _ => rfl) hV, ⟨?_, by rw [E65, E216]; omega, r3, by rw [E65]; omega, by rw [E66]; exact r5, ?_, ?_⟩, by rw [E66, E997]; exact hE, fun s0 => ?_, ⟨by rw [E209]; exact ⟨c1, c2⟩, by rw [E216]; omega, ?_, ?_⟩⟩, E65, E216, E66, fun r n j hne => fc r n j (by omega), fun r j hne => fm r j (by omega)⟩
  · unfold F76
    rw [zG_t (by omega), x0, F77_s hV x1 x2 (by omega) l1]
    simp only [Option.bind_some]
    rw [a1, z1, f1]
    rfl
  · rw [b1, z2]
  · rw [fc _ _ _ (by omega), E209]
    exact r1
  · intro q g0 g1
    rw [fm 14 3 (by omega)] at g1
    rw [fc _ _ _ (by omega), fm _ _ (by omega)]
    exact r6 q g0 g1
  · intro k g0 g1
    rw [E65] at g1
    rw [E209]
    by_cases u : k = h 65 i 0
    · subst u
      have es : σ + h 65 i 0 = m 14 216 := by omega
      rw [es]
      refine ⟨?_, ?_, f2⟩
      · intro q q0 q1
        have o : q = 0 ∨ q = 1 ∨ q = 2 ∨ q = 3 ∨ q = 4 ∨ q = 5 ∨ q = 6 ∨ q = 7 := by omega
        rw [f3 _ _ _ (by omega), z5 _ _ _ (by omega), z6 _ _ (by omega)]
        rcases o with o | o | o | o | o | o | o | o
        · subst o; rw [Int.add_zero, Int.add_zero, a3, b3]
        · subst o; rw [a4, b4]
        · subst o; rw [a5, b5]; exact r1
        · subst o; rw [a6, b6]
        · subst o; rw [a7, b7]
        · subst o; rw [a8, b8]
        · subst o; rw [a9, b9]
        · subst o; rw [a10, b10]
      · intro c q0 q1
        rw [f3 _ _ _ (by omega), f3 _ _ _ (by omega)]
        exact z3 c q0 q1
    · obtain ⟨t1, t2, t3⟩ := r7 k g0 (by omega)
      refine ⟨?_, ?_, ?_⟩
      · intro q q0 q1
        rw [fc _ _ _ (by omega), fm _ _ (by omega)]
        exact t1 q q0 q1
      · intro c q0 q1
        rw [fc _ _ _ (by omega), fc _ _ _ (by omega), fm _ _ (by omega), fm _ _ (by omega)]
        exact t2 c q0 q1
      · have e72 := fc 72 i k (by omega)
        refine ⟨fun c q0 q1 => ?_, ?_⟩
        · rw [fc _ _ _ (by omega), e72]
          exact t3.1 c q0 q1
        · rw [e72]
          rcases t3.2 with y | ⟨c, y1, y2, y3, y4⟩
          · exact Or.inl y
          · exact Or.inr ⟨c, y1, y2, by rw [fc _ _ _ (by omega)]; exact y3, y4⟩
  · obtain ⟨y1, y2⟩ := hL s0
    refine ⟨by rw [E66, E997]; exact y1, fun j j0 j1 q q0 q1 => ?_⟩
    rw [E997] at j1
    rw [fc _ _ _ (by omega), fm _ _ (by omega)]
    exact y2 j j0 j1 q q0 q1
  · intro s g0 g1
    rw [E216] at g1
    rw [E209]
    by_cases u : s = m 14 216
    · subst u
      exact ⟨z4, sf2⟩
    · obtain ⟨t1, t2⟩ := c5 s g0 (by omega)
      refine ⟨?_, ?_⟩
      · intro c q0 q1
        rw [fm _ (457 + 18 * s + 3 * c) (by omega), fm _ (457 + 18 * s + 3 * c + 1) (by omega), fm _ (457 + 18 * s + 3 * c + 2) (by omega), E2]
        exact t1 c q0 q1
      · unfold SF at *
        rw [fm _ (217 + 8 * s) (by omega), fm _ (217 + 8 * s + 1) (by omega), fm _ (217 + 8 * s + 2) (by omega), fm _ (217 + 8 * s + 3) (by omega), fm _ (217 + 8 * s + 4) (by omega), fm _ (217 + 8 * s + 5) (by omega), fm _ (217 + 8 * s + 6) (by omega), fm _ (217 + 8 * s + 7) (by omega), fm _ (457 + 18 * s + 3 * 0 + 2) (by omega), fm _ (457 + 18 * s + 3 * 1 + 2) (by omega), fm _ (457 + 18 * s + 3 * 2 + 2) (by omega), fm _ (457 + 18 * s + 3 * 3 + 2) (by omega), fm _ (457 + 18 * s + 3 * 4 + 2) (by omega), fm _ (457 + 18 * s + 3 * 5 + 2) (by omega)]
        exact t2
  · refine ⟨⟨by rw [E997]; exact n0, ?_⟩, ⟨?_, ?_⟩⟩
    · rw [E997, E216, c6.2, show (m 14 216 + 1).toNat = (m 14 216).toNat + 1 by omega, zsum_succ]
      rw [zsum_cong (f := fun s => m2 14 (217 + 8 * s + 6)) (g := fun s => m 14 (217 + 8 * s + 6)) (fun j j0 j1 => fm _ _ (by omega)), show (((m 14 216).toNat : Nat) : Int) = m 14 216 by omega, z6 _ _ (by omega), b9]
      omega
    · intro j j0 j1
      rw [E997] at j1
      rw [E216, E2, fm _ (998 + 5 * j) (by omega), fm _ (998 + 5 * j + 1) (by omega), fm _ (998 + 5 * j + 2) (by omega), fm _ (998 + 5 * j + 3) (by omega), fm _ (998 + 5 * j + 4) (by omega)]
      obtain ⟨y1, y2⟩ := c7.1 j j0 j1
      exact ⟨⟨y1.1, by omega⟩, y2⟩
    · intro s g0 g1
      rw [E216] at g1
      rw [E997, zcnt_cong (f := fun j => m2 14 (998 + 5 * j)) (g := fun j => m 14 (998 + 5 * j)) (fun j j0 j1 => fm _ _ (by omega))]
      by_cases u : s = m 14 216
      · subst u
        rw [z6 _ _ (by omega), b9]
        refine zcnt_0 (fun j j0 j1 => ?_)
        have := (c7.1 j j0 (by omega)).1
        omega
      · rw [fm _ _ (by omega)]
        exact c7.2 s g0 (by omega)
/-! shares -/
theorem F214_s {x p : Int} : F214 x p = F65 x p := rfl
theorem F64_s {x : Int} (h0 : 0 ≤ x) (h1 : x < 64) : ∃ r, F64 x = some r ∧ F215 x = some r ∧ 0 ≤ r ∧ r ≤ 6 ∧ (r = 0 → x = 0) := by
  have k : (List.range 64).all (fun q => decide (F64 (q : Int) = F215 (q : Int)) && (match F64 (q : Int) with
    | some r => decide (0 ≤ r ∧ r ≤ 6 ∧ (r = 0 → (q : Int) = 0))
    | none => false)) = true := by decide +kernel
  have e := z_all k (x := x) h0 (by omega)
  have e1 : ((x.toNat : Nat) : Int) = x := by omega
  rw [Bool.and_eq_true, e1] at e
  obtain ⟨e2, e3⟩ := e
  have e2 := of_decide_eq_true e2
  cases e4 : F64 x with
  | none => rw [e4] at e3; cases e3
  | some r =>
    rw [e4] at e3
    have e3 := of_decide_eq_true e3
    exact ⟨r, rfl, by rw [← e2, e4], e3⟩
theorem wand_sh {x p : Int} (h0 : 0 ≤ x) (h1 : x < 64) (p0 : 0 ≤ p) (p1 : p < 6) : 0 ≤ wand x (wsub (wshl 1 p) 1) ∧ wand x (wsub (wshl 1 p) 1) < 64 := by
  have k : (List.range 384).all (fun q => decide (0 ≤ wand ((q / 6 : Nat) : Int) (wsub (wshl 1 ((q % 6 : Nat) : Int)) 1) ∧ wand ((q / 6 : Nat) : Int) (wsub (wshl 1 ((q % 6 : Nat) : Int)) 1) < 64)) = true := by decide +kernel
  have e := of_decide_eq_true (z_all k (x := 6 * x + p) (by omega) (by omega))
  have e1 : (((6 * x + p).toNat / 6 : Nat) : Int) = x := by omega
  have e2 : (((6 * x + p).toNat % 6 : Nat) : Int) = p := by omega
  rw [e1, e2] at e
  exact e
theorem wand_0p {p : Int} (p0 : 0 ≤ p) (p1 : p < 6) : wand (wshr 0 p) 1 = 0 := by
  have k : (List.range 6).all (fun q => decide (wand (wshr 0 (q : Int)) 1 = 0)) = true := by decide +kernel
  have e := of_decide_eq_true (z_all k (x := p) p0 (by omega))
  have e1 : ((p.toNat : Nat) : Int) = p := by omega
  rw [e1] at e
  exact e
theorem F63_s {h : zHC} {i k w : Int} (k0 : 0 ≤ k) (k1 : k < 30) (w0 : 0 ≤ w) (w1 : w < 8) : F63 i k w h = some (h 70 i (k * 8 + w)) := by
  unfold F63
  rw [wmul_eq (by omega) (by omega), wadd_eq (by omega) (by omega), zG_t (by omega)]
theorem F213_s {m : zHM} {s w : Int} (s0 : 0 ≤ s) (s1 : s < 30) (w0 : 0 ≤ w) (w1 : w < 8) : F213 s w m = some (m 14 (217 + 8 * s + w)) := by
  unfold F213
  rw [wmul_eq (by omega) (by omega), wadd_eq (x := 217) (by omega) (by omega), wadd_eq (by omega) (by omega), zG_t (by omega)]
theorem L62 {h : zHC} {m : zHM} {i k s p : Int} (k0 : 0 ≤ k) (k1 : k < 30) (s0 : 0 ≤ s) (s1 : s < 30) (p0 : 0 ≤ p) (p1 : p < 6) (hF : CF h i k (m 14) s) (hS : SF (m 14) s) : ∃ r, F62 i p k h = some r ∧ F212 p s m = some r ∧ 0 ≤ r ∧ r ≤ 100 := by
  obtain ⟨t1, t2, t3, t4, t5, t6, t7, t8⟩ := hS
  have e5 := hF 5 (by decide) (by decide)
  have e0 := hF 0 (by decide) (by decide)
  unfold F62 F212
  rw [F63_s k0 k1 (by decide) (by decide), F213_s s0 s1 (by decide) (by decide), e5]
  simp only [Option.bind_some]
  obtain ⟨r, a1, a2, a3, a4, a5⟩ := F64_s (x := m 14 (217 + 8 * s + 5)) (by omega) t6.2
  obtain ⟨u1, u2⟩ := wand_sh (x := m 14 (217 + 8 * s + 5)) (p := p) (by omega) t6.2 p0 p1
  obtain ⟨q, b1, b2, b3, b4, b5⟩ := F64_s u1 u2
  have rn : ¬ r = 0 := fun w => by have := a5 w; omega
  rw [a1, F214_s]
  simp only [Option.bind_some]
  rw [if_neg rn]
  unfold F65
  by_cases w : wand (wshr (m 14 (217 + 8 * s + 5)) p) 1 = 1
  · rw [if_neg (fun x => x w)]
    simp only [Option.bind_some]
    rw [if_pos (by decide), if_pos (by decide), a2, b1, F63_s k0 k1 (by decide) (by decide), e0, F213_s s0 s1 (by decide) (by decide), Int.add_zero]
    simp only [Option.bind_some]
    rw [b2]
    simp only [Option.bind_some]
    simp only [zG_t rn]
    have d1 : wdiv (m 14 (217 + 8 * s)) r = m 14 (217 + 8 * s) / r := wdiv_eq (by omega) (by omega) (by omega) (by omega)
    have d2 : m 14 (217 + 8 * s) / r ≤ m 14 (217 + 8 * s) := Int.ediv_le_self r (by omega)
    have d3 : 0 ≤ m 14 (217 + 8 * s) / r := Int.ediv_nonneg (by omega) (by omega)
    rw [d1]
    unfold F62_0 F212_0
    rw [wadd_eq (y := 0) (by omega) (by omega), wadd_eq (y := 1) (by omega) (by omega)]
    split
    · exact ⟨_, rfl, rfl, by omega, by omega⟩
    · exact ⟨_, rfl, rfl, by omega, by omega⟩
  · rw [if_pos w]
    simp only [Option.bind_some]
    rw [if_neg (by decide), if_neg (by decide)]
    exact ⟨0, rfl, rfl, by decide, by decide⟩
theorem L101 {h : zHC} {m : zHM} {i p : Int} (p0 : 0 ≤ p) (p1 : p < 6) (hR : CR h i (m 14)) : ∃ r, F101 i p h = some r ∧ F211 p m = some r ∧ 0 ≤ r ∧ r ≤ 3000 := by
  obtain ⟨⟨r1, r2, r3, r4, r5, r6, r7⟩, hL, hW⟩ := hR
  obtain ⟨⟨c1, c2⟩, ⟨c3, c4⟩, c5, c6, c7⟩ := hW
  have key : ∀ (n n' : Nat) (k acc : Int), 0 ≤ k → k ≤ m 14 216 → m 14 216 - k < n → m 14 216 - k < n' → 0 ≤ acc → acc ≤ 100 * k → ∃ r, F101_0 h n i p acc k = some r ∧ F211_0 m n' p acc k = some r ∧ 0 ≤ r ∧ r ≤ 3000 := by
    intro n
    induction n with
    | zero => intro n' k acc k0 k1 g1 g2; omega
    | succ n ih =>
      intro n' k acc k0 k1 g1 g2 a0 a1
      cases n' with
      | zero => omega
      | succ n' =>
        rw [F101_0, F211_0, show h 65 i 0 = m 14 216 by omega]
        by_cases e : k = m 14 216
        · rw [if_pos (by omega), if_pos (by omega)]
          exact ⟨acc, rfl, rfl, a0, by omega⟩
        · have hk : ¬ m 14 216 ≤ k := by omega
          obtain ⟨t1, t2, t3⟩ := r7 k k0 (by omega)
          rw [show (0 : Int) + k = k by omega] at t1
          obtain ⟨q, z1, z2, z3, z4⟩ := L62 (h := h) (m := m) (i := i) (k := k) (s := k) (p := p) k0 (by omega) k0 (by omega) p0 p1 t1 (c5 k k0 (by omega)).2
          rw [if_neg hk, if_neg hk, z1, z2]
          simp only [Option.bind_some]
          rw [wadd_eq (x := acc) (by omega) (by omega), wadd_eq (x := k) (by omega) (by omega)]
          exact ih n' (k + 1) (acc + q) (by omega) (by omega) (by omega) (by omega) (by omega) (by omega)
  have big := zFu_big
  exact key zFu zFu 0 0 (by decide) c3 (by omega) (by omega) (by decide) (by decide)
end
