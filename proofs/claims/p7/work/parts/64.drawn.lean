/-! Draws. -/
theorem L135 {h : zHC} {m : zHM} {n : Int} (e : h 130 0 0 = m 38 0) (n0 : 1 ≤ n) (n1 : n ≤ 1000) : ∃ v X, F135 n h = some (v, hset h 130 0 0 X) ∧ F272 n m = some (v, mset m 38 0 X) ∧ 0 ≤ v ∧ v < n := by
  unfold F135 F272
  rw [hset_eq, mset_eq, e]
  generalize wadd (wmul (m 38 0) 1103515245) 12345 = X
  obtain ⟨r0, r1⟩ := wushr8_rng (x := X)
  rw [if_pos n0, zG_t (by omega), zG_t (by omega), wrem_eq r0 (by omega) (by omega) (by omega)]
  exact ⟨_, X, rfl, rfl, Int.emod_nonneg _ (by omega), Int.emod_lt_of_pos _ (by omega)⟩
theorem CI_keep {h h' : zHC} {m m' : zHM} {i : Int} {nm : Int → Int} (hI : CI h m i 0 0 nm) (f1 : ∀ r n j, ((64 ≤ r ∧ r ≤ 72 ∧ n = i) ∨ (576 ≤ r ∧ r ≤ 595 ∧ n = 0)) → h' r n j = h r n j) (f2 : ∀ j, m' 14 j = m 14 j) : CI h' m' i 0 0 nm :=
  CR_CI (VR_keep (fun r j g0 g1 => f1 r 0 j (by omega)) (fun k _ _ => f2 k) (fun _ _ _ => rfl) hI.1) (CR_keep (fun r j g0 g1 => f1 r i j (by omega)) (fun j _ _ => f2 j) (f2 2) (f2 3) (VR_n hI.1) (CI_CR hI))
def DI (h : zHC) (m : zHM) (i : Int) (nm : Int → Int) : Prop := CI h m i 0 0 nm ∧ h 130 0 0 = m 38 0 ∧ h 128 0 0 = m 39 0 ∧ h 129 0 0 = m 40 0
def dfC (i : Int) (h h' : zHC) : Prop := ∀ r n j, ¬ ((n = i ∧ 64 ≤ r ∧ r ≤ 72) ∨ (128 ≤ r ∧ r ≤ 130)) → h' r n j = h r n j
def dfM (m m' : zHM) : Prop := ∀ r j, ¬ ((r = 14 ∧ 209 ≤ j ∧ j < 1898) ∨ (38 ≤ r ∧ r ≤ 40)) → m' r j = m r j
theorem dfC_trans {i : Int} {h h' h'' : zHC} (a : dfC i h h') (b : dfC i h' h'') : dfC i h h'' := fun r n j hne => by rw [b r n j hne, a r n j hne]
theorem dfM_trans {m m' m'' : zHM} (a : dfM m m') (b : dfM m' m'') : dfM m m'' := fun r j hne => by rw [b r j hne, a r j hne]
theorem D_draw {h : zHC} {m : zHM} {i n : Int} {nm : Int → Int} (hD : DI h m i nm) (n0 : 1 ≤ n) (n1 : n ≤ 1000) : ∃ v h' m', F135 n h = some (v, h') ∧ F272 n m = some (v, m') ∧ 0 ≤ v ∧ v < n ∧ DI h' m' i nm ∧ dfC i h h' ∧ dfM m m' ∧ (∀ j, m' 14 j = m 14 j) ∧ (∀ r n j, ¬ r = 130 → h' r n j = h r n j) := by
  obtain ⟨d1, d2, d3, d4⟩ := hD
  obtain ⟨v, X, e1, e2, e3, e4⟩ := L135 d2 n0 n1
  refine ⟨v, _, _, e1, e2, e3, e4, ⟨CI_keep d1 (fun r n j g => hset_ne (by omega)) (fun j => mset_ne (by omega)), by rw [hset_eq, mset_eq], by rw [hset_ne (by omega), mset_ne (by omega)]; exact d3, by rw [hset_ne (by omega), mset_ne (by omega)]; exact d4⟩, fun r n j hne => hset_ne (by omega), fun r j hne => mset_ne (by omega), fun j => mset_ne (by omega), fun r n j hne => hset_ne (by omega)⟩
theorem D_pass {h : zHC} {m : zHM} {i st : Int} {nm : Int → Int} (hD : DI h m i nm) (hl : m 14 209 < 400) (st0 : 0 ≤ st) (st1 : st ≤ 9) : ∃ h' m', F89 i 0 st h = some h' ∧ F236 st m = some m' ∧ DI h' m' i nm ∧ dfC i h h' ∧ dfM m m' := by
  obtain ⟨⟨i1, i2, i3, i4, i5⟩, d2, d3, d4⟩ := hD
  obtain ⟨h', m', b1, b2, b3, b4, b5, b6, b7, b8, b9, b10⟩ := P_pass (st := st) i1 i2 i3 i4 i5 hl st0 st1
  refine ⟨h', m', b1, b2, ⟨⟨b3, b4, b5, b6, b7⟩, by rw [b9.2.2 _ _ _ (by omega), b10.2.2.2 _ _ (by omega)]; exact d2, by rw [b9.2.2 _ _ _ (by omega), b10.2.2.2 _ _ (by omega)]; exact d3, by rw [b9.2.2 _ _ _ (by omega), b10.2.2.2 _ _ (by omega)]; exact d4⟩, fun r n j hne => b9.2.2 r n j (by omega), fun r j hne => b10.2.2.2 r j (by omega)⟩
theorem D_t1 {h h1 h2 : zHC} {i N p st v : Int} {k0 : Int → Int → Int → Int → zHC → Option (Int × zHC)} (a1 : F89 i 0 st h = some h1) (b1 : F135 3 h1 = some (v, h2)) (q : ¬ v = 0) : F134_1 k0 0 i N p st h = F134_2 k0 0 i N p h2 := by
  unfold F134_1
  rw [a1, Option.bind_some, b1, Option.bind_some]
  exact if_pos q
theorem D_t2 {h h1 h2 h3 : zHC} {i N p st v : Int} {k0 : Int → Int → Int → Int → zHC → Option (Int × zHC)} (a1 : F89 i 0 st h = some h1) (b1 : F135 3 h1 = some (v, h2)) (q : v = 0) (c1 : F136 0 i h2 = some h3) : F134_1 k0 0 i N p st h = F134_2 k0 0 i N p h3 := by
  unfold F134_1
  rw [a1, Option.bind_some, b1, Option.bind_some]
  refine (if_neg (fun x => x q)).trans ?_
  rw [c1, Option.bind_some]
theorem D_t3 {m m1 m2 : zHM} {N p st v : Int} {k0 : Int → Int → zHM → Option (Int × zHM)} (a1 : F236 st m = some m1) (b1 : F272 3 m1 = some (v, m2)) (q : ¬ v = 0) : F271_1 k0 N p st m = F271_2 k0 N p m2 := by
  unfold F271_1
  rw [a1, Option.bind_some, b1, Option.bind_some]
  exact if_neg q
theorem D_t4 {m m1 m2 m3 m4 m5 : zHM} {N p st v v3 v4 v5 x3 : Int} {k0 : Int → Int → zHM → Option (Int × zHM)} (a1 : F236 st m = some m1) (b1 : F272 3 m1 = some (v, m2)) (q : v = 0) (x : m2 14 3 = x3) (c1 : F272 x3 m2 = some (v3, m3)) (d1 : F272 99 m3 = some (v4, m4)) (e1 : F272 9 m4 = some (v5, m5)) : F271_1 k0 N p st m = if ¬ m5 14 216 = 30 then (F227 v3 (wadd v4 1) (wadd v5 1) m5).bind fun r6 => F271_2 k0 N p (mset r6.2 40 0 (wadd (r6.2 40 0) 1)) else F271_2 k0 N p m5 := by
  unfold F271_1
  subst x
  rw [a1, Option.bind_some, b1, Option.bind_some]
  refine (if_pos q).trans ?_
  rw [c1, Option.bind_some, d1, Option.bind_some, e1, Option.bind_some]
theorem D_t5 {h2 h3 h4 h5 : zHC} {i v3 v4 v5 x3 : Int} (x : h2 579 0 0 = x3) (c1 : F135 x3 h2 = some (v3, h3)) (d1 : F135 99 h3 = some (v4, h4)) (e1 : F135 9 h4 = some (v5, h5)) (hv : ¬ h5 579 0 0 ≤ v3) : F136 0 i h2 = (F75 i h5).bind fun r4 => if ¬ r4 = 0 then some h5 else (F76 i 0 v3 (wadd v4 1) (wadd v5 1) h5).bind fun r5 => some (hset r5.2 129 0 0 (wadd (r5.2 129 0 0) 1)) := by
  unfold F136
  subst x
  rw [c1, Option.bind_some, d1, Option.bind_some, e1, Option.bind_some]
  exact if_neg hv
/-- the end of an hour that is drawn -/
theorem D_tail {h : zHC} {m : zHM} {i N p st : Int} {nm : Int → Int} (hD : DI h m i nm) (hl : m 14 209 < 400) (hP : 1 ≤ m 14 3) (st0 : 0 ≤ st) (st1 : st ≤ 9) : ∃ h' m', DI h' m' i nm ∧ dfC i h h' ∧ dfM m m' ∧ (∀ k0, F134_1 k0 0 i N p st h = F134_2 k0 0 i N p h') ∧ (∀ k0, F271_1 k0 N p st m = F271_2 k0 N p m') := by
  obtain ⟨h1, m1, a1, a2, a3, a4, a5⟩ := D_pass hD hl st0 st1
  obtain ⟨v2, h2, m2, b1, b2, b3, b4, b5, b6, b7, b8, b9⟩ := D_draw (n := 3) a3 (by decide) (by decide)
  by_cases q : v2 = 0
  · have e3 : m2 14 3 = m 14 3 := by rw [b8, a5 _ _ (by omega)]
    have w6 := b5.1.1.2.2.2.2.2.2.2.1
    unfold WN at w6
    have eN : h2 579 0 0 = m2 14 3 := b5.1.1.1.2.2.2.1
    obtain ⟨v3, h3, m3, c1, c2, c3, c4, c5, c6, c7, c8, c9⟩ := D_draw (n := m2 14 3) b5 (by omega) (by omega)
    obtain ⟨v4, h4, m4, d1, d2, d3, d4, d5, d6, d7, d8, d9⟩ := D_draw (n := 99) c5 (by decide) (by decide)
    obtain ⟨v5, h5, m5, e1, e2, e3', e4, e5, e6, e7, e8, e9⟩ := D_draw (n := 9) d5 (by decide) (by decide)
    have f3 : m5 14 3 = m2 14 3 := by rw [e8, d8, c8]
    have f579 : h5 579 0 0 = m5 14 3 := e5.1.1.1.2.2.2.1
    have f65 : h5 65 i 0 = m5 14 216 := by have := e5.1.2.1.2.1; omega
    have c34 := e5.1.2.2.2.2.2.1
    have w4 : wadd v4 1 = v4 + 1 := wadd_eq (by omega) (by omega)
    have w5 : wadd v5 1 = v5 + 1 := wadd_eq (by omega) (by omega)
    have t4 := fun k0 => D_t4 (N := N) (p := p) (k0 := k0) a2 b2 q rfl c2 d2 e2
    have t5 := D_t5 (i := i) eN c1 d1 e1 (by omega)
    rw [w4, w5] at t5
    have F1 : dfC i h h5 := dfC_trans a4 (dfC_trans b6 (dfC_trans c6 (dfC_trans d6 e6)))
    have F2 : dfM m m5 := dfM_trans a5 (dfM_trans b7 (dfM_trans c7 (dfM_trans d7 e7)))
    unfold F75 at t5
    rw [f65] at t5
    by_cases w : m5 14 216 < 30
    · obtain ⟨h6, m6, g1, g2, g3, g4, g5, g6, g7, g8⟩ := P_says (p := v3) (w := v4 + 1) (l := v5 + 1) e5.1 w c3 (by omega) (by omega) (by omega) (by omega) (by omega)
      have t6 : F136 0 i h2 = some (hset h6 129 0 0 (wadd (h6 129 0 0) 1)) := by
        rw [t5, if_pos w, Option.bind_some, zn00, g1, Option.bind_some]
      refine ⟨hset h6 129 0 0 (wadd (h6 129 0 0) 1), mset m6 40 0 (wadd (m6 40 0) 1), ⟨CI_keep g3 (fun r n j g => hset_ne (by omega)) (fun j => mset_ne (by omega)), ?_, ?_, ?_⟩, ?_, ?_, fun k0 => D_t2 a1 b1 q t6, fun k0 => ?_⟩
      · rw [hset_ne (by omega), mset_ne (by omega), g7 _ _ _ (by omega), g8 _ _ (by omega)]
        exact e5.2.1
      · rw [hset_ne (by omega), mset_ne (by omega), g7 _ _ _ (by omega), g8 _ _ (by omega)]
        exact e5.2.2.1
      · rw [hset_eq, mset_eq, g7 _ _ _ (by omega), g8 _ _ (by omega), e5.2.2.2]
      · intro r n j hne
        rw [hset_ne (by omega), g7 r n j (by omega), F1 r n j hne]
      · intro r j hne
        rw [mset_ne (by omega), g8 r j (by omega), F2 r j hne]
      · rw [t4 k0, if_pos (show ¬ m5 14 216 = 30 by omega), w4, w5, g2, Option.bind_some]
    · have t6 : F136 0 i h2 = some h5 := by
        rw [t5, if_neg w, Option.bind_some, zn10]
      refine ⟨h5, m5, e5, F1, F2, fun k0 => D_t2 a1 b1 q t6, fun k0 => ?_⟩
      rw [t4 k0, if_neg (show ¬ ¬ m5 14 216 = 30 by omega)]
  · exact ⟨h2, m2, b5, dfC_trans a4 b6, dfM_trans a5 b7, fun k0 => D_t1 a1 b1 q, fun k0 => D_t3 a2 b2 q⟩
theorem D_loop {i N : Int} {nm : Int → Int} (N1 : N ≤ 1000) : ∀ (k k' : Nat) (p : Int) (h : zHC) (m : zHM), DI h m i nm → 1 ≤ m 14 3 → 0 ≤ p → N - p < k → N - p < k' → 0 < k → 0 < k' → ∃ r h' m', F134_0 k 0 i N p h = some (r, h') ∧ F271_0 k' N p m = some (r, m') ∧ DI h' m' i nm ∧ dfC i h h' ∧ dfM m m' := by
  intro k
  induction k with
  | zero => intro k' p h m hD hP p0 g1 g2 g3 g4; omega
  | succ k ih =>
    intro k' p h m hD hP p0 g1 g2 g3 g4
    cases k' with
    | zero => omega
    | succ k' =>
      have e64 : h 64 i 0 = m 14 209 := hD.1.2.1.1
      have ep : wadd p 1 = p + 1 ∨ N ≤ p := by
        by_cases u : N ≤ p
        · exact Or.inr u
        · exact Or.inl (wadd_eq (by omega) (by omega))
      rw [F134_0, F271_0, e64]
      by_cases e : N ≤ p
      · rw [if_pos e, if_pos e]
        exact ⟨p, h, m, rfl, rfl, hD, fun _ _ _ _ => rfl, fun _ _ _ => rfl⟩
      · have ep : wadd p 1 = p + 1 := wadd_eq (by omega) (by omega)
        rw [if_neg e, if_neg e]
        by_cases e2 : 400 ≤ m 14 209
        · rw [if_pos e2, if_pos e2]
          exact ⟨p, h, m, rfl, rfl, hD, fun _ _ _ _ => rfl, fun _ _ _ => rfl⟩
        · rw [if_neg e2, if_neg e2]
          obtain ⟨v, h1, m1, a1, a2, a3, a4, a5, a6, a7, a8, a9⟩ := D_draw (n := 4) hD (by decide) (by decide)
          rw [a1, a2]
          simp only [Option.bind_some]
          by_cases q : v = 0
          · rw [if_neg (fun x => x q : ¬ ¬ v = 0), if_neg (fun x => x q : ¬ ¬ v = 0)]
            obtain ⟨s, h2, m2, b1, b2, b3, b4, b5, b6, b7, b8, b9⟩ := D_draw (n := 5) a5 (by decide) (by decide)
            rw [b1, b2]
            simp only [Option.bind_some]
            have hD3 : DI (hset h2 128 0 0 (wadd (h2 128 0 0) 1)) (mset m2 39 0 (wadd (m2 39 0) 1)) i nm := ⟨CI_keep b5.1 (fun r n j g => hset_ne (by omega)) (fun j => mset_ne (by omega)), by rw [hset_ne (by omega), mset_ne (by omega)]; exact b5.2.1, by rw [hset_eq, mset_eq, b5.2.2.1], by rw [hset_ne (by omega), mset_ne (by omega)]; exact b5.2.2.2⟩
            obtain ⟨h4, m4, c1, c2, c3, c4, c5⟩ := D_tail (N := N) (p := p) (st := s) hD3 (by rw [mset_ne (by omega), b8, a8]; omega) (by rw [mset_ne (by omega), b8, a8]; exact hP) b3 (by omega)
            rw [c4, c5]
            unfold F134_2 F271_2
            rw [ep]
            have e3 : m4 14 3 = m 14 3 := by rw [c3 _ _ (by omega), mset_ne (by omega), b8, a8]
            obtain ⟨r, h5, m5, d1, d2, d3, d4, d5⟩ := ih k' (p + 1) h4 m4 c1 (by omega) (by omega) (by omega) (by omega) (by omega) (by omega)
            exact ⟨r, h5, m5, d1, d2, d3, fun r n j hne => by rw [d4 r n j hne, c2 r n j hne, hset_ne (by omega), b6 r n j hne, a6 r n j hne], fun r j hne => by rw [d5 r j hne, c3 r j hne, mset_ne (by omega), b7 r j hne, a7 r j hne]⟩
          · rw [if_pos q, if_pos q]
            obtain ⟨h4, m4, c1, c2, c3, c4, c5⟩ := D_tail (N := N) (p := p) (st := 0) a5 (by rw [a8]; omega) (by rw [a8]; exact hP) (by decide) (by decide)
            rw [c4, c5]
            unfold F134_2 F271_2
            rw [ep]
            have e3 : m4 14 3 = m 14 3 := by rw [c3 _ _ (by omega), a8]
            obtain ⟨r, h5, m5, d1, d2, d3, d4, d5⟩ := ih k' (p + 1) h4 m4 c1 (by omega) (by omega) (by omega) (by omega) (by omega) (by omega)
            exact ⟨r, h5, m5, d1, d2, d3, fun r n j hne => by rw [d4 r n j hne, c2 r n j hne, a6 r n j hne], fun r j hne => by rw [d5 r j hne, c3 r j hne, a7 r j hne]⟩
theorem D_year {h : zHC} {m : zHM} {i N x : Int} {nm : Int → Int} (N0 : 0 ≤ N) (N1 : N ≤ 1000) (hI : CI h m i 0 0 nm) (hP : 1 ≤ m 14 3) : ∃ r h' m', F134 0 i N x h = some (r, h') ∧ F271 N x m = some (r, m') ∧ DI h' m' i nm ∧ dfC i h h' ∧ dfM m m' := by
  have big := zFu_big
  unfold F134 F271
  have hD : DI (hset (hset (hset h 130 0 0 x) 128 0 0 0) 129 0 0 0) (mset (mset (mset m 38 0 x) 39 0 0) 40 0 0) i nm := by
    refine ⟨CI_keep hI (fun r n j g => by rw [hset_ne (by omega), hset_ne (by omega), hset_ne (by omega)]) (fun j => by rw [mset_ne (by omega), mset_ne (by omega), mset_ne (by omega)]), ?_, ?_, ?_⟩
    · rw [hset_ne (by omega), hset_ne (by omega), hset_eq, mset_ne (by omega), mset_ne (by omega), mset_eq]
    · rw [hset_ne (by omega), hset_eq, mset_ne (by omega), mset_eq]
    · rw [hset_eq, mset_eq]
  obtain ⟨r, h', m', a1, a2, a3, a4, a5⟩ := D_loop (N := N) N1 zFu zFu 0 _ _ hD (by rw [mset_ne (by omega), mset_ne (by omega), mset_ne (by omega)]; exact hP) (by decide) (by omega) (by omega) (by omega) (by omega)
  exact ⟨r, h', m', a1, a2, a3, fun r n j hne => by rw [a4 r n j hne, hset_ne (by omega), hset_ne (by omega), hset_ne (by omega)], fun r j hne => by rw [a5 r j hne, mset_ne (by omega), mset_ne (by omega), mset_ne (by omega)]⟩
theorem RG_told {hc : zHC} {hm : zHM} {a b : Int} (h : RG hc hm) : RG (hset (hset hc 719 0 0 a) 720 0 0 b) (mset (mset hm 41 0 a) 41 1 b) := by
  obtain ⟨b1, b2, b3, b4, b5, b6, b7, b8, b9⟩ := h
  have f1 : ∀ r n j, ¬ (r = 719 ∨ r = 720) → (hset (hset hc 719 0 0 a) 720 0 0 b) r n j = hc r n j := fun r n j hne => by rw [hset_ne (by omega), hset_ne (by omega)]
  have f2 : ∀ r j, ¬ r = 41 → (mset (mset hm 41 0 a) 41 1 b) r j = hm r j := fun r j hne => by rw [mset_ne (by omega), mset_ne (by omega)]
  exact ⟨RTp_keep (fun r j g0 g1 => f1 r 0 j (by omega)) (fun r j g => f2 r j (by omega)) b1, RVC_keep (fun r j g => f1 r 0 j (by omega)) (fun j _ _ => f2 14 j (by omega)) (fun j => f2 19 j (by omega)) b2, RUn_keep (fun r n j g => f1 r n j (by omega)) (fun j _ _ => f2 14 j (by omega)) (fun r j g => f2 r j (by omega)) (VR_n b2.1) b3, RIm_keep (fun r n j g => f1 r n j (by omega)) (fun r j g => f2 r j (by omega)) b4, RSn_cong (f1 384 0 0 (by omega)) (f1 385 0 0 (by omega)) (fun j _ _ => f1 386 0 j (by omega)) (fun j _ _ => f2 14 j (by omega)) b5, RPc_keep (fun r j g => f1 r 0 j (by omega)) (fun r j g => f2 r j (by omega)) b6, ⟨by rw [hset_ne (by omega), hset_eq, mset_ne (by omega), mset_eq], by rw [hset_eq, mset_eq]⟩, RWr_keep (fun r j g => f1 r 0 j (by omega)) (fun r j g => f2 r j (by omega)) b8, RKw_keep (fun j => f1 330 0 j (by omega)) b9⟩
theorem C_drawn {hc : zHC} {hm : zHM} {n x : Int} (h : RG hc hm) : ∃ r hc' hm', F133 n x hc = some (r, hc') ∧ F270 n x hm = some (r, hm') ∧ RG hc' hm' := by
  have w6 := RG_WN h
  unfold WN at w6
  have h0 := RG_0 (x := 0) h
  have e64 := h.2.1.2.1.1
  unfold F133 F270
  rw [E188, (RG_VN h).2.2.2.1, e64]
  simp only [Option.bind_some]
  by_cases q1 : 1 ≤ n ∧ n ≤ 100
  · rw [if_neg (show ¬ n < 1 by omega), if_neg (show ¬ 100 < n by omega)]
    simp only [if_pos q1, z10]
    by_cases q2 : hm 14 3 = 0
    · rw [if_neg (fun z => z q2 : ¬ ¬ hm 14 3 = 0), if_neg (fun z => z q2 : ¬ ¬ hm 14 3 = 0)]
      exact ⟨_, _, _, rfl, rfl, h0⟩
    · rw [if_pos q2, if_pos q2]
      have fin : ∀ (h1 : zHC) (m1 : zHM), RG h1 m1 → m1 14 3 = hm 14 3 → RUn h1 m1 → CI h1 m1 0 0 0 (m1 19) → ∃ r hc' hm', F133_0 n x h1 = some (r, hc') ∧ F270_0 n x m1 = some (r, hm') ∧ RG hc' hm' := by
        intro h1 m1 g e hU hI
        unfold F133_0 F270_0
        obtain ⟨r, h2, m2, a1, a2, a3, a4, a5⟩ := D_year (N := n) (x := x) (by omega) (by omega) hI (by omega)
        rw [a1, a2]
        simp only [Option.bind_some]
        rw [a3.2.2.1, a3.2.2.2]
        exact ⟨r, _, _, rfl, rfl, RG_told (RG_act g hU (fun _ _ _ _ => rfl) (fun _ _ _ => rfl) a3.1 (fun r n j hne => a4 r n j hne) (fun r j hne => a5 r j hne))⟩
      by_cases q4 : 400 ≤ hm 14 209
      · rw [if_pos q4, if_pos q4]
        exact fin hc _ h0 (m0_ne (by decide)) h0.2.2.1 (RVC_CI h0.2.1)
      · rw [if_neg q4, if_neg q4]
        obtain ⟨h1, m1, z1, z2, z3, z4, z5, z6⟩ := P_keep h0.2.1 h0.2.2.1
        rw [z1, z2]
        simp only [Option.bind_some]
        have g1 : RG h1 m1 := RG_crs h0 (fun r n j hne => z5 r n j (by omega)) (fun r j hne => z6 r j (by omega)) z3 z4
        exact fin h1 m1 g1 (by rw [z6 _ _ (by omega), m0_ne (by decide)]) z4 (RVC_CI z3)
  · simp only [if_neg q1, z00]
    refine ⟨-1, hc, _, ?_, rfl, h0⟩
    by_cases u : n < 1
    · rw [if_pos u]
    · rw [if_neg u, if_pos (by omega)]
theorem C_odds {hc : zHC} {hm : zHM} {p n x : Int} (h : RG hc hm) : ∃ r hc' hm', F138 p n x hc = some (r, hc') ∧ F274 p n x hm = some (r, hm') ∧ RG hc' hm' := by
  have w6 := RG_WN h
  unfold WN at w6
  have h0 := RG_0 (x := 0) h
  have big := zFu_big
  unfold F138 F274
  rw [E61 (RG_VN h).2.2.2.1, E210 (m := mset hm 0 0 0) (b := hm 14 3) (m0_ne (by decide)), E188]
  simp only [Option.bind_some]
  by_cases q1 : 0 ≤ p ∧ p < hm 14 3
  · by_cases q2 : 1 ≤ n ∧ n ≤ 40
    · rw [if_neg (show ¬ n < 1 by omega), if_pos (show n ≤ 40 by omega)]
      simp only [if_pos q1, if_pos q2, z10, zn10]
      obtain ⟨w, c1, c2, c3, c4⟩ := L101 (p := p) (h := hc) (m := mset hm 0 0 0) (i := 0) q1.1 (by omega) h0.2.1.2
      rw [c1, c2]
      simp only [Option.bind_some]
      have key : ∀ (k k' : Nat) (many t : Int) (h1 : zHC) (m1 : zHM), RG h1 m1 → (∀ j, m1 14 j = hm 14 j) → 0 ≤ t → t ≤ n → 0 ≤ many → many ≤ t → n - t < k → n - t < k' → ∃ r hc' hm', F138_0 k p n x w many t h1 = some (r, hc') ∧ F274_0 k' p n x w many t m1 = some (r, hm') ∧ RG hc' hm' := by
        intro k
        induction k with
        | zero => intro k' many t h1 m1 g e t0 t1 n0 n1 g1 g2; omega
        | succ k ih =>
          intro k' many t h1 m1 g e t0 t1 n0 n1 g1 g2
          cases k' with
          | zero => omega
          | succ k' =>
            rw [F138_0, F274_0]
            by_cases u : n ≤ t
            · rw [if_pos u, if_pos u]
              exact ⟨_, _, _, rfl, rfl, g⟩
            · have et : wadd t 1 = t + 1 := wadd_eq (by omega) (by omega)
              have em : wadd many 1 = many + 1 := wadd_eq (by omega) (by omega)
              rw [if_neg u, if_neg u]
              obtain ⟨h2, m2, a1, a2, a3, a4, a5, a6⟩ := A_beg g
              rw [a1, a2]
              simp only [Option.bind_some]
              obtain ⟨r, h3, m3, b1, b2, b3, b4, b5⟩ := D_year (i := 1) (N := 40) (x := wadd x t) (by decide) (by decide) a3 (by rw [a6, e]; omega)
              rw [b1, b2]
              simp only [Option.bind_some]
              obtain ⟨v, d1, d2, d3, d4⟩ := L101 (p := p) q1.1 (by omega) (CI_CR b3.1)
              rw [d1, d2]
              simp only [Option.bind_some]
              obtain ⟨m4, f1, f2, f3⟩ := A_end (mA_N a5 (m2 := m3) (fun r j hne => b5 r j (by omega)))
              unfold F138_1 F274_1
              rw [f1, et, em]
              simp only [Option.bind_some]
              have g' : RG h3 m4 := RG_sc g (fun r n j hne => by rw [b4 r n j (by omega), a4 r n j (by omega)]) f2
              have e' : ∀ j, m4 14 j = hm 14 j := fun j => by rw [f2 14 j (by omega)]; exact e j
              by_cases z : v ≤ w
              · rw [if_pos z, if_pos z]
                exact ih k' many (t + 1) h3 m4 g' e' (by omega) (by omega) (by omega) (by omega) (by omega) (by omega)
              · rw [if_neg z, if_neg z]
                exact ih k' (many + 1) (t + 1) h3 m4 g' e' (by omega) (by omega) (by omega) (by omega) (by omega) (by omega)
      exact key zFu zFu 0 0 hc _ h0 (fun j => m0_ne (by decide)) (by decide) (by omega) (by decide) (by decide) (by omega) (by omega)
    · simp only [if_pos q1, if_neg q2, z10, zn00]
      refine ⟨-1, hc, _, ?_, rfl, h0⟩
      by_cases u : n < 1
      · rw [if_pos u]
      · rw [if_neg u, if_neg (by omega)]
  · simp only [if_neg q1, z00]
    exact ⟨_, _, _, rfl, rfl, h0⟩
