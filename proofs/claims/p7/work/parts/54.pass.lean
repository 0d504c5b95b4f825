/-! One saying in one hour. -/
theorem EQ_le {a : Int → Int} (h : EQ a) (h0 : 0 ≤ a 216) (h1 : a 216 ≤ 30) : 0 ≤ a 997 ∧ a 997 ≤ 180 := by
  obtain ⟨⟨b1, b2⟩, -, t⟩ := h
  refine ⟨b1, ?_⟩
  rw [b2]
  have := zsum_le (f := fun s => a (217 + 8 * s + 6)) (n := (a 216).toNat) (b := 6) (fun j j0 j1 => t j j0 (by omega))
  omega
def BS (h : zHC) (m : zHM) (i v k s H : Int) : Prop := (0 ≤ k ∧ k < 30) ∧ (0 ≤ s ∧ s < m 14 216 ∧ m 14 216 ≤ 30) ∧ (VN h v (m 14) ∧ VC h v (m 14) ∧ VW (m 14)) ∧ h 64 i 0 = H ∧ m 14 209 = H ∧ (1 ≤ H ∧ H ≤ 400) ∧ RP h i (m 14) ∧ 0 ≤ h 66 i 0
theorem VN_keep {h h' : zHC} {v : Int} {a a' : Int → Int} (hh : ∀ r j, 576 ≤ r → r ≤ 595 → h' r v j = h r v j) (ha : ∀ k, 0 ≤ k → k < 209 → a' k = a k) (hN : VN h v a) : VN h' v a' := by
  unfold VN
  rw [hh 576 0 (by decide) (by decide), hh 577 0 (by decide) (by decide), hh 578 0 (by decide) (by decide), hh 579 0 (by decide) (by decide), hh 580 0 (by decide) (by decide), hh 581 0 (by decide) (by decide), hh 582 0 (by decide) (by decide), ha 0 (by decide) (by decide), ha 1 (by decide) (by decide), ha 2 (by decide) (by decide), ha 3 (by decide) (by decide), ha 4 (by decide) (by decide), ha 5 (by decide) (by decide), ha 6 (by decide) (by decide)]
  exact hN
theorem VC_keep {h h' : zHC} {v : Int} {a a' : Int → Int} (hh : ∀ r j, 576 ≤ r → r ≤ 595 → h' r v j = h r v j) (ha : ∀ k, 0 ≤ k → k < 209 → a' k = a k) (h6 : a 2 ≤ 6) (hC : VC h v a) : VC h' v a' := by
  intro c c0 c1
  rw [ha 2 (by decide) (by decide)] at c1
  rw [hh 584 c (by decide) (by decide), hh 585 c (by decide) (by decide), hh 586 c (by decide) (by decide), ha _ (by omega) (by omega), ha _ (by omega) (by omega), ha _ (by omega) (by omega)]
  exact hC c c0 c1
theorem BS_keep {h h1 : zHC} {m m1 : zHM} {i v k s H : Int} (hB : BS h m i v k s H) (hc : cfS i k h h1) (hm : mfS s m m1) : BS h1 m1 i v k s H := by
  obtain ⟨b1, b2, ⟨b3, b4, b5⟩, b6, b7, b8, b9, b10⟩ := hB
  have a209 : ∀ k, 0 ≤ k → k < 209 → m1 14 k = m 14 k := fun k g0 g1 => hm.2.2.2 14 k (by omega)
  have w6 := b5.1
  unfold WN at w6
  refine ⟨b1, ?_, ⟨VN_keep (fun r j g0 g1 => hc.2 r v j (by omega)) a209 b3, VC_keep (fun r j g0 g1 => hc.2 r v j (by omega)) a209 (by omega) b4, VW_cong a209 b5⟩, ?_, ?_, b8, ?_, ?_⟩
  · rw [hm.2.2.2 14 216 (by omega)]
    exact b2
  · rw [hc.2 64 i 0 (by omega)]
    exact b6
  · rw [hm.2.2.2 14 209 (by omega)]
    exact b7
  · intro p p0 p1
    rw [a209 3 (by decide) (by decide)] at p1
    rw [hc.2 67 i p (by omega), hm.2.2.2 14 (210 + p) (by omega)]
    exact b9 p p0 p1
  · exact Int.le_trans b10 hc.1
def SI (h : zHC) (m : zHM) (i k s H C : Int) (h1 : zHC) (m1 : zHM) : Prop := CF h1 i k (m1 14) s ∧ CD h1 i k (m1 14) s ∧ SD (m1 14) s H C ∧ SF (m1 14) s ∧ EQ (m1 14) ∧ cfS i k h h1 ∧ mfS s m m1 ∧ h1 66 i 0 ≤ m1 14 997 ∧ (k = s → RL h i (m 14) → RL h1 i (m1 14))
theorem SD_next {a : Int → Int} {s H c : Int} (h : SD a s H c) (hd : ¬ a (457 + 18 * s + 3 * c) = H) : SD a s H (c + 1) := by
  intro c' g0 g1
  obtain ⟨w1, w2, w3, w4, w5⟩ := h c' g0 g1
  refine ⟨w1, w2, w3, ?_, w5⟩
  rw [w4]
  by_cases e : c' = c
  · subst e
    by_cases q : ¬ a (457 + 18 * s + 3 * c') = 0 ∧ (a (457 + 18 * s + 3 * c') < H ∨ a (457 + 18 * s + 3 * c') = H ∧ c' < c')
    · rw [if_pos q, if_pos (by omega)]
    · rw [if_neg q, if_neg (by omega)]
  · by_cases q : ¬ a (457 + 18 * s + 3 * c') = 0 ∧ (a (457 + 18 * s + 3 * c') < H ∨ a (457 + 18 * s + 3 * c') = H ∧ c' < c)
    · rw [if_pos q, if_pos (by omega)]
    · rw [if_neg q, if_neg (by omega)]
theorem SD_end {a : Int → Int} {s H C : Int} (h : SD a s H (a 2)) (h6 : a 2 ≤ 6) (hC : C = 6) : SD a s H C := by
  subst hC
  intro c' g0 g1
  obtain ⟨w1, w2, w3, w4, w5⟩ := h c' g0 g1
  refine ⟨w1, w2, w3, ?_, w5⟩
  rw [w4]
  by_cases q : ¬ a (457 + 18 * s + 3 * c') = 0 ∧ (a (457 + 18 * s + 3 * c') < H ∨ a (457 + 18 * s + 3 * c') = H ∧ c' < a 2)
  · rw [if_pos q, if_pos (by omega)]
  · rw [if_neg q, if_neg]
    intro w
    apply q
    by_cases u : a 2 ≤ c'
    · exact absurd (w5 u) w.1
    · omega
theorem SD_hour {a : Int → Int} {s H : Int} (h : SD a s H 6) : SD a s (H + 1) 0 := by
  intro c' g0 g1
  obtain ⟨w1, w2, w3, w4, w5⟩ := h c' g0 g1
  refine ⟨w1, by omega, w3, ?_, w5⟩
  rw [w4]
  by_cases q : ¬ a (457 + 18 * s + 3 * c') = 0 ∧ (a (457 + 18 * s + 3 * c') < H ∨ a (457 + 18 * s + 3 * c') = H ∧ c' < 6)
  · rw [if_pos q, if_pos (by omega)]
  · rw [if_neg q, if_neg (by omega)]
theorem SD_le1 {a : Int → Int} {s H C c : Int} (h : SD a s H C) (c0 : 0 ≤ c) (c1 : c < 6) : 0 ≤ a (457 + 18 * s + 3 * c + 2) ∧ a (457 + 18 * s + 3 * c + 2) ≤ 1 := by
  obtain ⟨w1, w2, w3, w4, w5⟩ := h c c0 c1
  rw [w4]
  split <;> omega
theorem S_inner {h : zHC} {m : zHM} {i v k s H sn st : Int} (hB : BS h m i v k s H) (sn0 : 0 ≤ sn) (sn1 : sn ≤ 9) (st0 : 0 ≤ st) (st1 : st ≤ 9) (K : Int → Int → zHM → Option zHM) : ∀ (n n' : Nat) (c : Int) (h1 : zHC) (m1 : zHM), 0 ≤ c → c ≤ m 14 2 → m 14 2 - c < n → m 14 2 - c < n' → SI h m i k s H c h1 m1 → ∃ h2 m2, F90_0 n i v k st sn c h1 = (F86 i k h2).bind (fun r1 => some r1) ∧ F236_1 K n' (sn + st) s c m1 = K (sn + st) (s + 1) m2 ∧ SI h m i k s H 6 h2 m2 := by
  intro n
  induction n with
  | zero => intro n' c h1 m1 c0 c1 g1 g2; omega
  | succ n ih =>
    intro n' c h1 m1 c0 c1 g1 g2 hI
    cases n' with
    | zero => omega
    | succ n' =>
      obtain ⟨i1, i2, i3, i4, i5, i6, i7, i8, i9⟩ := id hI
      have hB1 := BS_keep hB i6 i7
      obtain ⟨⟨k0, k1⟩, ⟨s0, s1, s2⟩, ⟨b3, b4, b5⟩, b6, b7, ⟨b8, b8'⟩, b9, b10⟩ := hB1
      have w6 := b5.1
      unfold WN at w6
      have m2e : m1 14 2 = m 14 2 := i7.2.2.2 14 2 (by omega)
      have h2e : h1 578 v 0 = m 14 2 := by rw [← m2e]; exact b3.2.2.1
      rw [F90_0, F236_1, h2e, m2e]
      by_cases e : c = m 14 2
      · rw [if_pos (by omega), if_pos (by omega), wadd_eq (x := s) (by omega) (by omega)]
        refine ⟨h1, m1, rfl, rfl, i1, i2, SD_end (C := 6) (by rw [m2e, ← e]; exact i3) (by omega) rfl, i4, i5, i6, i7, i8, i9⟩
      · have e1 : wadd c 1 = c + 1 := wadd_eq (by omega) (by omega)
        have hcc : ¬ m 14 2 ≤ c := by omega
        rw [if_neg hcc, if_neg hcc, wmul_eq (x := k) (by omega) (by omega), wadd_eq (x := k * 6) (by omega) (by omega), wmul_eq (x := 18) (by omega) (by omega), wmul_eq (x := 3) (by omega) (by omega), wadd_eq (x := 457) (by omega) (by omega), wadd_eq (x := 457 + 18 * s) (by omega) (by omega), wadd_eq (y := 2) (by omega) (by omega), wadd_eq (x := 457 + 18 * s + 3 * c) (y := 1) (by omega) (by omega)]
        simp (disch := omega) only [zG_t]
        rw [b6, b7]
        obtain ⟨d1, d2⟩ := i2 c c0 (by omega)
        obtain ⟨u1, u2, u3, u4, u5⟩ := i3 c c0 (by omega)
        by_cases q1 : m1 14 (457 + 18 * s + 3 * c) = H
        · have q0 : ¬ m1 14 (457 + 18 * s + 3 * c) = 0 := by omega
          rw [if_neg q0, q1] at d1
          have d2 := d2 q0
          obtain ⟨u6, u7⟩ := u3 q0
          rw [if_neg (by omega)] at u4
          have nq : ¬ ¬ H = H := fun w => w rfl
          rw [d1, q1, if_neg nq, if_neg nq, if_pos (show m1 14 (457 + 18 * s + 3 * c + 2) ≤ 0 by omega)]
          obtain ⟨x1, x2, x3, x4, x5, x6⟩ := b5.2.1 c c0 (by omega)
          have y1 := (b4 c c0 (by omega)).2.2
          have m0d : ∀ r j, ¬ (r = 14 ∧ j = 457 + 18 * s + 3 * c + 2) → (mset m1 14 (457 + 18 * s + 3 * c + 2) 1) r j = m1 r j := fun r j hne => mset_ne (by omega)
          have m0e : (mset m1 14 (457 + 18 * s + 3 * c + 2) 1) 14 (457 + 18 * s + 3 * c + 2) = 1 := mset_eq
          rw [F207_s c0 (by omega)]
          show ∃ h2 m2, _ ∧ Option.bind (F238 _ _) _ = K _ _ m2 ∧ _
          generalize hm0 : mset m1 14 (457 + 18 * s + 3 * c + 2) 1 = m0 at m0d m0e ⊢
          rw [m0d 14 (7 + 3 * c + 2) (by omega), m0d 14 (457 + 18 * s + 3 * c + 1) (by omega), y1, d2, wsub_eq (x := m1 14 (7 + 3 * c + 2)) (y := sn) (by omega) (by omega), wsub_eq (y := st) (by omega) (by omega), wsub_eq (y := sn + st) (by omega) (by omega)]
          have hmin : ∃ f, f ≤ 9 ∧ (if m1 14 (7 + 3 * c + 2) - sn - st < m1 14 (457 + 18 * s + 3 * c + 1) then m1 14 (7 + 3 * c + 2) - sn - st else m1 14 (457 + 18 * s + 3 * c + 1)) = f ∧ F238 (m1 14 (457 + 18 * s + 3 * c + 1)) (m1 14 (7 + 3 * c + 2) - (sn + st)) = some f := by
            unfold F238
            by_cases q : m1 14 (7 + 3 * c + 2) - (sn + st) ≤ m1 14 (457 + 18 * s + 3 * c + 1)
            · rw [if_pos q]
              refine ⟨_, ?_, ?_, rfl⟩
              · omega
              · split <;> omega
            · rw [if_neg q]
              refine ⟨_, ?_, ?_, rfl⟩
              · omega
              · split <;> omega
          obtain ⟨f, f9, fe1, fe2⟩ := hmin
          rw [fe1, fe2]
          show ∃ h2 m2, _ ∧ (if f ≤ 0 then _ else _) = K _ _ m2 ∧ _
          have sd0 : SD (m0 14) s H (c + 1) := by
            intro c' g0 g1
            obtain ⟨w1, w2, w3, w4, w5⟩ := i3 c' g0 g1
            rw [m0d _ (457 + 18 * s + 3 * c') (by omega), m0d _ (457 + 18 * s + 3 * c' + 1) (by omega), m0d _ 2 (by omega)]
            refine ⟨w1, w2, w3, ?_, w5⟩
            by_cases e : c' = c
            · subst e
              rw [m0e, if_pos (by omega)]
            · rw [m0d _ _ (by omega), w4]
              by_cases q : ¬ m1 14 (457 + 18 * s + 3 * c') = 0 ∧ (m1 14 (457 + 18 * s + 3 * c') < H ∨ m1 14 (457 + 18 * s + 3 * c') = H ∧ c' < c)
              · rw [if_pos q, if_pos (by omega)]
              · rw [if_neg q, if_neg (by omega)]
          have cf0 : CF h1 i k (m0 14) s := by
            intro w g0 g1
            rw [m0d _ _ (by omega)]
            exact i1 w g0 g1
          have cd0 : CD h1 i k (m0 14) s := by
            intro c' g0 g1
            rw [m0d _ _ (by omega), m0d _ _ (by omega)]
            exact i2 c' g0 g1
          have eq0 : EQ (m0 14) := EQ_cong (m0d _ _ (by omega)) (m0d _ _ (by omega)) (m0d _ _ (by omega)) (fun s' g0 g1 => m0d _ _ (by omega)) (fun j g0 g1 => m0d _ _ (by omega)) i5
          have n997 := EQ_le i5 (by omega) s2
          have mf0 : mfS s m1 m0 := by
            refine ⟨by rw [m0d _ _ (by omega)]; exact Int.le_refl _, by rw [m0d _ _ (by omega)]; exact n997.2, fun j _ g0 g1 => by rw [m0d _ 997 (by omega)] at g1; omega, fun r j hne => m0d _ _ (by omega)⟩
          have sums : m0 14 (217 + 8 * s + 6) < m0 14 (457 + 18 * s + 3 * 0 + 2) + m0 14 (457 + 18 * s + 3 * 1 + 2) + m0 14 (457 + 18 * s + 3 * 2 + 2) + m0 14 (457 + 18 * s + 3 * 3 + 2) + m0 14 (457 + 18 * s + 3 * 4 + 2) + m0 14 (457 + 18 * s + 3 * 5 + 2) := by
            obtain ⟨-, -, -, -, -, -, t7, -⟩ := i4
            rw [m0d _ (217 + 8 * s + 6) (by omega)]
            have o : c = 0 ∨ c = 1 ∨ c = 2 ∨ c = 3 ∨ c = 4 ∨ c = 5 := by omega
            rcases o with o | o | o | o | o | o
            · subst o
              rw [m0e, m0d _ (457 + 18 * s + 3 * 1 + 2) (by omega), m0d _ (457 + 18 * s + 3 * 2 + 2) (by omega), m0d _ (457 + 18 * s + 3 * 3 + 2) (by omega), m0d _ (457 + 18 * s + 3 * 4 + 2) (by omega), m0d _ (457 + 18 * s + 3 * 5 + 2) (by omega)]
              omega
            · subst o
              rw [m0e, m0d _ (457 + 18 * s + 3 * 0 + 2) (by omega), m0d _ (457 + 18 * s + 3 * 2 + 2) (by omega), m0d _ (457 + 18 * s + 3 * 3 + 2) (by omega), m0d _ (457 + 18 * s + 3 * 4 + 2) (by omega), m0d _ (457 + 18 * s + 3 * 5 + 2) (by omega)]
              omega
            · subst o
              rw [m0e, m0d _ (457 + 18 * s + 3 * 0 + 2) (by omega), m0d _ (457 + 18 * s + 3 * 1 + 2) (by omega), m0d _ (457 + 18 * s + 3 * 3 + 2) (by omega), m0d _ (457 + 18 * s + 3 * 4 + 2) (by omega), m0d _ (457 + 18 * s + 3 * 5 + 2) (by omega)]
              omega
            · subst o
              rw [m0e, m0d _ (457 + 18 * s + 3 * 0 + 2) (by omega), m0d _ (457 + 18 * s + 3 * 1 + 2) (by omega), m0d _ (457 + 18 * s + 3 * 2 + 2) (by omega), m0d _ (457 + 18 * s + 3 * 4 + 2) (by omega), m0d _ (457 + 18 * s + 3 * 5 + 2) (by omega)]
              omega
            · subst o
              rw [m0e, m0d _ (457 + 18 * s + 3 * 0 + 2) (by omega), m0d _ (457 + 18 * s + 3 * 1 + 2) (by omega), m0d _ (457 + 18 * s + 3 * 2 + 2) (by omega), m0d _ (457 + 18 * s + 3 * 3 + 2) (by omega), m0d _ (457 + 18 * s + 3 * 5 + 2) (by omega)]
              omega
            · subst o
              rw [m0e, m0d _ (457 + 18 * s + 3 * 0 + 2) (by omega), m0d _ (457 + 18 * s + 3 * 1 + 2) (by omega), m0d _ (457 + 18 * s + 3 * 2 + 2) (by omega), m0d _ (457 + 18 * s + 3 * 3 + 2) (by omega), m0d _ (457 + 18 * s + 3 * 4 + 2) (by omega)]
              omega
          have l0 := SD_le1 sd0 (c := 0) (by decide) (by decide)
          have l1 := SD_le1 sd0 (c := 1) (by decide) (by decide)
          have l2 := SD_le1 sd0 (c := 2) (by decide) (by decide)
          have l3 := SD_le1 sd0 (c := 3) (by decide) (by decide)
          have l4 := SD_le1 sd0 (c := 4) (by decide) (by decide)
          have l5 := SD_le1 sd0 (c := 5) (by decide) (by decide)
          have sf0 : SF (m0 14) s := by
            obtain ⟨t1, t2, t3, t4, t5, t6, t7, t8⟩ := i4
            refine ⟨?_, ?_, ?_, ?_, ?_, ?_, ⟨?_, Int.le_of_lt sums⟩, ?_⟩
            · rw [m0d _ _ (by omega)]; exact t1
            · rw [m0d _ _ (by omega)]; exact t2
            · rw [m0d _ _ (by omega)]; exact t3
            · rw [m0d _ _ (by omega)]; exact t4
            · rw [m0d _ _ (by omega)]; exact t5
            · rw [m0d _ _ (by omega)]; exact t6
            · rw [m0d _ _ (by omega)]; exact t7.1
            · rw [m0d _ _ (by omega)]; exact t8
          have rl0 : RL h1 i (m1 14) → RL h1 i (m0 14) := by
            intro hr
            refine ⟨by rw [m0d _ _ (by omega)]; exact hr.1, fun j j0 j1 w w0 w1 => ?_⟩
            rw [m0d _ 997 (by omega)] at j1
            rw [m0d _ _ (by omega)]
            exact hr.2 j j0 j1 w w0 w1
          by_cases q2 : f ≤ 0
          · have eF : F92 i v k c f h1 = some h1 := by
              unfold F92
              rw [if_neg (by omega)]
            rw [if_pos q2, eF]
            show ∃ h2 m2, F90_1 _ _ _ _ _ _ _ _ = _ ∧ F236_2 K _ _ _ _ _ = _ ∧ _
            unfold F90_1 F236_2
            rw [e1]
            exact ih n' (c + 1) h1 m0 (by omega) (by omega) (by omega) (by omega) ⟨cf0, cd0, sd0, sf0, eq0, i6, mfS_trans s0 (by omega) i7 mf0, by rw [m0d _ _ (by omega)]; exact i8, fun ks hr => rl0 (i9 ks hr)⟩
          · rw [if_neg q2]
            obtain ⟨h2, m2, z1, z2, z3, z4, z5, z6, z7, z8, z9, z10, z11, z12, z13, z14⟩ := S_sound (h := h1) (m := m0) (i := i) (v := v) (k := k) (s := s) (H := H) (C := c + 1) (c := c) (f := f) k0 k1 s0 (by rw [m0d _ _ (by omega)]; exact s1) (by rw [m0d _ _ (by omega)]; exact s2) c0 (by rw [m0d _ _ (by omega)]; omega) (by omega) f9 (by omega) b8' (VN_keep (fun _ _ _ _ => rfl) (fun j g0 g1 => m0d _ _ (by omega)) b3) (VC_keep (fun _ _ _ _ => rfl) (fun j g0 g1 => m0d _ _ (by omega)) (by omega) b4) (VW_cong (fun j g0 g1 => m0d _ _ (by omega)) b5) b6 (by rw [m0d _ _ (by omega)]; exact b7) (by intro p p0 p1; rw [m0d _ 3 (by omega)] at p1; rw [m0d _ _ (by omega)]; exact b9 p p0 p1) b10 (by have := EQ_lt eq0 s0 (by rw [m0d _ _ (by omega)]; exact s1) (by rw [m0d _ _ (by omega)]; exact s2) (by omega); rw [m0d _ 997 (by omega)] at this; omega) cf0 cd0 sd0 sf0 sums (by omega) eq0
            rw [z1, z2]
            show ∃ h2 m2, F90_1 _ _ _ _ _ _ _ _ = _ ∧ F236_2 K _ _ _ _ _ = _ ∧ _
            unfold F90_1 F236_2
            rw [e1]
            exact ih n' (c + 1) h2 m2 (by omega) (by omega) (by omega) (by omega) ⟨z3, z4, z5, z6, z7, cfS_trans i6 z8, mfS_trans s0 (by omega) i7 (mfS_trans s0 (by omega) mf0 z9), by rw [z10, z11, m0d _ 997 (by omega)]; omega, fun ks hr => z14 ks (rl0 (i9 ks hr))⟩
        · have d3 : ¬ h1 68 i (k * 6 + c) = H := by
            rw [d1]
            split <;> omega
          rw [if_pos d3, if_pos q1]
          unfold F90_1 F236_2
          rw [e1]
          exact ih n' (c + 1) h1 m1 (by omega) (by omega) (by omega) (by omega) ⟨i1, i2, SD_next i3 q1, i4, i5, i6, i7, i8, i9⟩
theorem F86_s {h : zHC} {i k H : Int} (k0 : 0 ≤ k) (k1 : k < 30) (hH : h 64 i 0 = H) (hd : ∀ c, 0 ≤ c → c < 6 → h 68 i (k * 6 + c) < 1000000) : ∃ h', F86 i k h = some h' ∧ CS h' i k H ∧ ∀ r n j, ¬ (r = 72 ∧ n = i ∧ j = k) → h' r n j = h r n j := by
  have key : ∀ (n : Nat) (c f : Int), 0 ≤ c → c ≤ 6 → 6 - c < n → (∀ c', 0 ≤ c' → c' < c → H < h 68 i (k * 6 + c') → f ≤ h 68 i (k * 6 + c')) → (f = 1000000 ∨ ∃ c', 0 ≤ c' ∧ c' < 6 ∧ h 68 i (k * 6 + c') = f ∧ H < f) → ∃ f', F86_0 n i k f (k * 6 + c) h = some (hset h 72 i k f') ∧ (∀ c', 0 ≤ c' → c' < 6 → H < h 68 i (k * 6 + c') → f' ≤ h 68 i (k * 6 + c')) ∧ (f' = 1000000 ∨ ∃ c', 0 ≤ c' ∧ c' < 6 ∧ h 68 i (k * 6 + c') = f' ∧ H < f') := by
    intro n
    induction n with
    | zero => intro c f c0 c1 g; omega
    | succ n ih =>
      intro c f c0 c1 g q1 q2
      rw [F86_0, wadd_eq (x := k) (by omega) (by omega), wmul_eq (by omega) (by omega)]
      by_cases e : c = 6
      · subst e
        rw [if_pos (by omega), zG_t (by omega)]
        exact ⟨f, rfl, q1, q2⟩
      · have e1 : wadd (k * 6 + c) 1 = k * 6 + (c + 1) := by rw [wadd_eq (by omega) (by omega)]; omega
        have hl := hd c c0 (by omega)
        rw [if_neg (by omega), zG_t (by omega), zG_t (by omega), zG_t (by omega), hH]
        unfold F86_1
        rw [e1]
        by_cases w1 : h 68 i (k * 6 + c) ≤ H
        · rw [if_pos w1]
          refine ih (c + 1) f (by omega) (by omega) (by omega) (fun c' g0 g1 g2 => ?_) q2
          by_cases u : c' = c
          · subst u; omega
          · exact q1 c' g0 (by omega) g2
        · rw [if_neg w1]
          by_cases w2 : f ≤ h 68 i (k * 6 + c)
          · rw [if_pos w2]
            refine ih (c + 1) f (by omega) (by omega) (by omega) (fun c' g0 g1 g2 => ?_) q2
            by_cases u : c' = c
            · subst u; exact w2
            · exact q1 c' g0 (by omega) g2
          · rw [if_neg w2]
            refine ih (c + 1) _ (by omega) (by omega) (by omega) (fun c' g0 g1 g2 => ?_) (Or.inr ⟨c, c0, by omega, rfl, by omega⟩)
            by_cases u : c' = c
            · subst u; exact Int.le_refl _
            · have := q1 c' g0 (by omega) g2
              omega
  obtain ⟨f', g1, g2, g3⟩ := key zFu 0 1000000 (by decide) (by decide) (by have := zFu_big; omega) (fun c' g0 g1 => by omega) (Or.inl rfl)
  rw [Int.add_zero] at g1
  refine ⟨hset h 72 i k f', ?_, ⟨?_, ?_⟩, ?_⟩
  · unfold F86
    rw [wmul_eq (by omega) (by omega)]
    exact g1
  · intro c c0 c1
    rw [hset_ne (by omega), hset_eq]
    exact g2 c c0 c1
  · rw [hset_eq]
    rcases g3 with g3 | ⟨c, c0, c1, c2, c3⟩
    · exact Or.inl g3
    · exact Or.inr ⟨c, c0, c1, by rw [hset_ne (by omega)]; exact c2, c3⟩
  · intro r n j hne
    exact hset_ne (by omega)
theorem L91 {h : zHC} {m : zHM} {v H : Int} (hN : h 582 v 0 = m 14 6) (n0 : 0 ≤ m 14 6) (n1 : m 14 6 ≤ 6) (hS : VS h v (m 14)) (hW : WS (m 14)) : ∃ sn, F91 v H h = some sn ∧ F208 H m = some sn ∧ 0 ≤ sn ∧ sn ≤ 9 := by
  have key : ∀ (n n' : Nat) (j la d : Int), 0 ≤ j → j ≤ m 14 6 → m 14 6 - j < n → m 14 6 - j < n' → 0 ≤ d → d ≤ 9 → (la = -1 ∨ ∃ q, 0 ≤ q ∧ q < j ∧ m 14 (197 + 2 * q) = la) → ∃ sn, F91_0 h n v H la d j = some sn ∧ F208_0 m n' H d la j = some sn ∧ 0 ≤ sn ∧ sn ≤ 9 := by
    intro n
    induction n with
    | zero => intro n' j la d j0 j1 g1 g2; omega
    | succ n ih =>
      intro n' j la d j0 j1 g1 g2 d0 d1 hl
      cases n' with
      | zero => omega
      | succ n' =>
        rw [F91_0, F208_0, hN]
        by_cases e : j = m 14 6
        · rw [if_pos (by omega), if_pos (by omega)]
          exact ⟨d, rfl, rfl, d0, d1⟩
        · obtain ⟨x1, x2⟩ := hS j j0 (by omega)
          obtain ⟨y1, y2, y3, y4, y5⟩ := hW j j0 (by omega)
          have e1 : wadd j 1 = j + 1 := wadd_eq (by omega) (by omega)
          have hj : ¬ m 14 6 ≤ j := by omega
          rw [if_neg hj, if_neg hj, wmul_eq (by omega) (by omega), wadd_eq (x := 197) (by omega) (by omega), wadd_eq (x := 197 + 2 * j) (by omega) (by omega)]
          simp (disch := omega) only [zG_t]
          rw [x1, x2]
          unfold F91_1 F208_1
          rw [e1]
          have hl' : la = -1 ∨ ∃ q, 0 ≤ q ∧ q < j + 1 ∧ m 14 (197 + 2 * q) = la := by
            rcases hl with hl | ⟨q, q0, q1, q2⟩
            · exact Or.inl hl
            · exact Or.inr ⟨q, q0, by omega, q2⟩
          by_cases w1 : H < m 14 (197 + 2 * j)
          · rw [if_pos w1, if_pos w1]
            exact ih n' (j + 1) la d (by omega) (by omega) (by omega) (by omega) d0 d1 hl'
          · rw [if_neg w1, if_neg w1]
            by_cases w2 : m 14 (197 + 2 * j) ≤ la
            · have w3 : ¬ la ≤ m 14 (197 + 2 * j) := by
                intro w
                rcases hl with hl | ⟨q, q0, q1, q2⟩
                · omega
                · exact y5 q q0 q1 (by omega)
              rw [if_pos w2, if_neg w3]
              exact ih n' (j + 1) la d (by omega) (by omega) (by omega) (by omega) d0 d1 hl'
            · rw [if_neg w2, if_pos (show la ≤ m 14 (197 + 2 * j) by omega)]
              exact ih n' (j + 1) _ _ (by omega) (by omega) (by omega) (by omega) y3 y4 (Or.inr ⟨j, j0, by omega, rfl⟩)
  unfold F91 F208
  exact key zFu zFu 0 (-1) 0 (by decide) n0 (by have := zFu_big; omega) (by have := zFu_big; omega) (by decide) (by decide) (Or.inl rfl)
