/-! An hour. -/
theorem S_give {h : zHC} {m : zHM} {i v k s H st : Int} (hB : BS h m i v k s H) (hVS : VS h v (m 14)) (st0 : 0 ≤ st) (st1 : st ≤ 9) (h1 : CF h i k (m 14) s) (h2 : CD h i k (m 14) s) (h3 : SD (m 14) s H 0) (h4 : SF (m 14) s) (h5 : EQ (m 14)) (h6 : h 66 i 0 ≤ m 14 997) : ∃ sn h' , F208 H m = some sn ∧ 0 ≤ sn ∧ sn ≤ 9 ∧ F90 i v k st h = some h' ∧ ∀ K, ∃ m', F236_1 K zFu (sn + st) s 0 m = K (sn + st) (s + 1) m' ∧ CF h' i k (m' 14) s ∧ CD h' i k (m' 14) s ∧ CS h' i k H ∧ SW (m' 14) s H 6 ∧ EQ (m' 14) ∧ cfS i k h h' ∧ mfS s m m' ∧ h' 66 i 0 ≤ m' 14 997 ∧ (k = s → RL h i (m 14) → RL h' i (m' 14)) := by
  obtain ⟨⟨k0, k1⟩, ⟨s0, s1, s2⟩, ⟨b3, b4, b5⟩, b6, b7, ⟨b8, b8'⟩, b9, b10⟩ := id hB
  have w6 := b5.1
  unfold WN at w6
  obtain ⟨sn, g1, g2, g3, g4⟩ := L91 (h := h) (m := m) (v := v) (H := H) b3.2.2.2.2.2.2 (by omega) (by omega) hVS b5.2.2.2.2
  have n997 := EQ_le h5 (by omega) s2
  have hI : SI h m i k s H 0 h m := ⟨h1, h2, h3, h4, h5, ⟨Int.le_refl _, fun _ _ _ _ => rfl⟩, ⟨Int.le_refl _, n997.2, fun j _ j0 j1 => by omega, fun _ _ _ => rfl⟩, h6, fun _ q => q⟩
  have big := zFu_big
  obtain ⟨ha, ma, q1, q2, q3⟩ := S_inner hB g3 g4 st0 st1 (fun _ _ m => some m) zFu zFu 0 h m (by decide) (by omega) (by omega) (by omega) hI
  have q2' := q2
  obtain ⟨i1, i2, i3, i4, i5, i6, i7, i8, i9⟩ := q3
  have hda : ∀ c, 0 ≤ c → c < 6 → ha 68 i (k * 6 + c) < 1000000 := by
    intro c c0 c1
    obtain ⟨d1, d2⟩ := i2 c c0 c1
    obtain ⟨u1, u2, u3, u4, u5⟩ := i3 c c0 c1
    rw [d1]
    split <;> omega
  obtain ⟨hb, e1, e2, e3⟩ := F86_s (h := ha) (i := i) (k := k) (H := H) k0 k1 (by rw [i6.2 64 i 0 (by omega)]; exact b6) hda
  refine ⟨sn, hb, g2, g3, g4, ?_, fun K => ?_⟩
  · unfold F90
    rw [b6, g1]
    show F90_0 zFu i v k st sn 0 h = _
    rw [q1, e1]
    rfl
  · obtain ⟨ha', mb, r1, r2, r3⟩ := S_inner hB g3 g4 st0 st1 K zFu zFu 0 h m (by decide) (by omega) (by omega) (by omega) hI
    obtain ⟨j1, j2, j3, j4, j5, j6, j7, j8, j9⟩ := r3
    have hda' : ∀ c, 0 ≤ c → c < 6 → ha' 68 i (k * 6 + c) < 1000000 := by
      intro c c0 c1
      obtain ⟨d1, d2⟩ := j2 c c0 c1
      obtain ⟨u1, u2, u3, u4, u5⟩ := j3 c c0 c1
      rw [d1]
      split <;> omega
    obtain ⟨hb', f1, f2, f3⟩ := F86_s (h := ha') (i := i) (k := k) (H := H) k0 k1 (by rw [j6.2 64 i 0 (by omega)]; exact b6) hda'
    have eb : hb' = hb := by
      have x := r1.symm.trans q1
      rw [f1, e1] at x
      exact Option.some.inj x
    subst eb
    refine ⟨mb, r2, ?_, ?_, f2, ⟨j3, j4⟩, j5, ?_, j7, ?_, ?_⟩
    · intro w g0 g1
      rw [f3 _ _ _ (by omega)]
      exact j1 w g0 g1
    · intro c g0 g1
      rw [f3 _ _ _ (by omega), f3 _ _ _ (by omega)]
      exact j2 c g0 g1
    · exact cfS_trans j6 ⟨by rw [f3 _ _ _ (by omega)]; exact Int.le_refl _, fun r n j hne => f3 r n j (by omega)⟩
    · rw [f3 _ _ _ (by omega)]
      exact j8
    · intro ks hr
      obtain ⟨l1, l2⟩ := j9 ks hr
      refine ⟨by rw [f3 _ _ _ (by omega)]; exact l1, fun j j0 j1 w w0 w1 => ?_⟩
      rw [f3 _ _ _ (by omega)]
      exact l2 j j0 j1 w w0 w1
/-- the model's hour of one saying, without the class's -/
theorem M_step {h : zHC} {m : zHM} {v s H st : Int} (s0 : 0 ≤ s) (s1 : s < m 14 216) (s2 : m 14 216 ≤ 30) (hN : VN h v (m 14)) (hC : VC h v (m 14)) (hVS : VS h v (m 14)) (hW : VW (m 14)) (hHm : m 14 209 = H) (H0 : 1 ≤ H) (H1 : H ≤ 400) (hP : ∀ p, 0 ≤ p → p < m 14 3 → 0 ≤ m 14 (210 + p) ∧ m 14 (210 + p) < 100) (st0 : 0 ≤ st) (st1 : st ≤ 9) (h3 : SD (m 14) s H 0) (h4 : SF (m 14) s) (h5 : EQ (m 14)) : ∃ sn, F208 H m = some sn ∧ 0 ≤ sn ∧ sn ≤ 9 ∧ ∀ K, ∃ m', F236_1 K zFu (sn + st) s 0 m = K (sn + st) (s + 1) m' ∧ SW (m' 14) s H 6 ∧ EQ (m' 14) ∧ mfS s m m' := by
  let vh : zHC := fun r n j => if r = 64 then H else if r = 66 then 0 else if r = 67 then m 14 (210 + j) else if r = 68 then (if m 14 (457 + 3 * j) = 0 then -1 else m 14 (457 + 3 * j)) else if r = 69 then m 14 (457 + 3 * j + 1) else if r = 70 then m 14 (217 + j) else h r n j
  have hv : ∀ r n j, 576 ≤ r → vh r n j = h r n j := by
    intro r n j hr
    show (if r = 64 then _ else _) = _
    rw [if_neg (by omega), if_neg (by omega), if_neg (by omega), if_neg (by omega), if_neg (by omega), if_neg (by omega)]
  have n997 := EQ_le h5 (by omega) s2
  have w6 := hW.1
  unfold WN at w6
  have hB : BS vh m 0 v s s H := by
    refine ⟨⟨s0, by omega⟩, ⟨s0, s1, s2⟩, ⟨VN_keep (fun r j g0 g1 => hv r v j g0) (fun _ _ _ => rfl) hN, VC_keep (fun r j g0 g1 => hv r v j g0) (fun _ _ _ => rfl) (by omega) hC, hW⟩, rfl, hHm, ⟨H0, H1⟩, ?_, Int.le_refl 0⟩
    intro p p0 p1
    exact ⟨rfl, hP p p0 p1⟩
  have hVS' : VS vh v (m 14) := by
    intro c c0 c1
    rw [hv _ _ _ (by decide), hv _ _ _ (by decide)]
    exact hVS c c0 c1
  have cf : CF vh 0 s (m 14) s := by
    intro w w0 w1
    show m 14 (217 + (s * 8 + w)) = _
    rw [show 217 + (s * 8 + w) = 217 + 8 * s + w by omega]
  have cd : CD vh 0 s (m 14) s := by
    intro c c0 c1
    refine ⟨?_, fun _ => ?_⟩
    · show (if m 14 (457 + 3 * (s * 6 + c)) = 0 then -1 else m 14 (457 + 3 * (s * 6 + c))) = _
      rw [show 457 + 3 * (s * 6 + c) = 457 + 18 * s + 3 * c by omega]
    · show m 14 (457 + 3 * (s * 6 + c) + 1) = _
      rw [show 457 + 3 * (s * 6 + c) + 1 = 457 + 18 * s + 3 * c + 1 by omega]
  obtain ⟨sn, h', g1, g2, g3, g4, g5⟩ := S_give hB hVS' st0 st1 cf cd h3 h4 h5 (by show (0 : Int) ≤ _; exact n997.1)
  refine ⟨sn, g1, g2, g3, fun K => ?_⟩
  obtain ⟨m', e1, e2, e3, e4, e5, e6, e7, e8, e9⟩ := g5 K
  exact ⟨m', e1, e5, e6, e8⟩
/-- nothing of this saying comes in this hour -/
theorem S_skip {m : zHM} {s H less : Int} (s0 : 0 ≤ s) (s1 : s < 30) (n0 : 0 ≤ m 14 2) (n1 : m 14 2 ≤ 6) (hHm : m 14 209 = H) (K : Int → Int → zHM → Option zHM) (hd : ∀ c, 0 ≤ c → c < m 14 2 → ¬ m 14 (457 + 18 * s + 3 * c) = H) : ∀ (n : Nat) (c : Int), 0 ≤ c → c ≤ m 14 2 → m 14 2 - c < n → F236_1 K n less s c m = K less (s + 1) m := by
  intro n
  induction n with
  | zero => intro c c0 c1 g; omega
  | succ n ih =>
    intro c c0 c1 g
    rw [F236_1]
    by_cases e : c = m 14 2
    · rw [if_pos (by omega), wadd_eq (by omega) (by omega)]
    · rw [if_neg (by omega), wmul_eq (x := 18) (by omega) (by omega), wmul_eq (x := 3) (by omega) (by omega), wadd_eq (x := 457) (by omega) (by omega), wadd_eq (x := 457 + 18 * s) (by omega) (by omega), zG_t (by omega), hHm, if_pos (hd c c0 (by omega))]
      unfold F236_2
      rw [wadd_eq (by omega) (by omega)]
      exact ih (c + 1) (by omega) (by omega) (by omega)
theorem SD_keep {m m' : zHM} {s s' H C : Int} (t0 : 0 ≤ s) (t1 : s < 30) (hm : mfS s m m') (hs : s' ≠ s) (s0 : 0 ≤ s') (s1 : s' < 30) (h : SD (m 14) s' H C) : SD (m' 14) s' H C := by
  intro c c0 c1
  rw [hm.2.2.2 14 _ (by omega), hm.2.2.2 14 _ (by omega), hm.2.2.2 14 _ (by omega), hm.2.2.2 14 2 (by omega)]
  exact h c c0 c1
theorem SF_keep {m m' : zHM} {s s' : Int} (t0 : 0 ≤ s) (t1 : s < 30) (hm : mfS s m m') (hs : s' ≠ s) (s0 : 0 ≤ s') (s1 : s' < 30) (h : SF (m 14) s') : SF (m' 14) s' := by
  unfold SF at *
  rw [hm.2.2.2 14 (217 + 8 * s') (by omega), hm.2.2.2 14 (217 + 8 * s' + 1) (by omega), hm.2.2.2 14 (217 + 8 * s' + 2) (by omega), hm.2.2.2 14 (217 + 8 * s' + 3) (by omega), hm.2.2.2 14 (217 + 8 * s' + 4) (by omega), hm.2.2.2 14 (217 + 8 * s' + 5) (by omega), hm.2.2.2 14 (217 + 8 * s' + 6) (by omega), hm.2.2.2 14 (217 + 8 * s' + 7) (by omega), hm.2.2.2 14 (457 + 18 * s' + 3 * 0 + 2) (by omega), hm.2.2.2 14 (457 + 18 * s' + 3 * 1 + 2) (by omega), hm.2.2.2 14 (457 + 18 * s' + 3 * 2 + 2) (by omega), hm.2.2.2 14 (457 + 18 * s' + 3 * 3 + 2) (by omega), hm.2.2.2 14 (457 + 18 * s' + 3 * 4 + 2) (by omega), hm.2.2.2 14 (457 + 18 * s' + 3 * 5 + 2) (by omega)]
  exact h
theorem CF_keep {h h' : zHC} {m m' : zHM} {i k k' s s' : Int} (t0 : 0 ≤ s) (t1 : s < 30) (hc : cfS i k h h') (hm : mfS s m m') (hk : k' ≠ k) (hs : s' ≠ s) (s0 : 0 ≤ s') (s1 : s' < 30) (h1 : CF h i k' (m 14) s') : CF h' i k' (m' 14) s' := by
  intro w g0 g1
  rw [hc.2 _ _ _ (by omega), hm.2.2.2 14 _ (by omega)]
  exact h1 w g0 g1
theorem CD_keep {h h' : zHC} {m m' : zHM} {i k k' s s' : Int} (t0 : 0 ≤ s) (t1 : s < 30) (hc : cfS i k h h') (hm : mfS s m m') (hk : k' ≠ k) (hs : s' ≠ s) (s0 : 0 ≤ s') (s1 : s' < 30) (h1 : CD h i k' (m 14) s') : CD h' i k' (m' 14) s' := by
  intro c g0 g1
  rw [hc.2 _ _ _ (by omega), hc.2 _ _ _ (by omega), hm.2.2.2 14 _ (by omega), hm.2.2.2 14 _ (by omega)]
  exact h1 c g0 g1
theorem CS_keep {h h' : zHC} {i k k' H : Int} (hc : cfS i k h h') (hk : k' ≠ k) (h1 : CS h i k' H) : CS h' i k' H := by
  have e72 := hc.2 72 i k' (by omega)
  refine ⟨fun c g0 g1 => ?_, ?_⟩
  · rw [hc.2 _ _ _ (by omega), e72]
    exact h1.1 c g0 g1
  · rw [e72]
    rcases h1.2 with q | ⟨c, q1, q2, q3, q4⟩
    · exact Or.inl q
    · exact Or.inr ⟨c, q1, q2, by rw [hc.2 _ _ _ (by omega)]; exact q3, q4⟩
/-- within an hour: sayings below q have had it -/
def PI (h : zHC) (m : zHM) (i v σ H q : Int) : Prop := (VN h v (m 14) ∧ VC h v (m 14) ∧ VS h v (m 14) ∧ VW (m 14)) ∧ (h 64 i 0 = H ∧ m 14 209 = H ∧ 1 ≤ H ∧ H ≤ 400) ∧ RP h i (m 14) ∧ (0 ≤ h 66 i 0 ∧ h 66 i 0 ≤ m 14 997) ∧ (h 65 i 0 + σ = m 14 216 ∧ 0 ≤ σ ∧ 0 ≤ h 65 i 0 ∧ m 14 216 ≤ 30) ∧ (∀ s, 0 ≤ s → s < m 14 216 → SD (m 14) s H (if s < q then 6 else 0) ∧ SF (m 14) s) ∧ (∀ k, 0 ≤ k → k < h 65 i 0 → CF h i k (m 14) (σ + k) ∧ CD h i k (m 14) (σ + k) ∧ CS h i k (if σ + k < q then H else H - 1)) ∧ EQ (m 14) ∧ (σ = 0 → RL h i (m 14))
def mfC (m m' : zHM) : Prop := m 14 997 ≤ m' 14 997 ∧ (∀ j, 0 ≤ j → m 14 997 ≤ j → j < m' 14 997 → m' 14 (998 + 5 * j + 2) = m' 14 209) ∧ m' 14 216 = m 14 216 ∧ ∀ r j, ¬ (r = 14 ∧ ((209 ≤ j ∧ j < 216) ∨ j = 997 ∨ (998 ≤ j ∧ 998 + 5 * m 14 997 ≤ j ∧ j < 1898) ∨ (217 ≤ j ∧ j < 997))) → m' r j = m r j
def cfC (i : Int) (h h' : zHC) : Prop := h 66 i 0 ≤ h' 66 i 0 ∧ h' 65 i 0 = h 65 i 0 ∧ ∀ r n j, ¬ (n = i ∧ 64 ≤ r ∧ r ≤ 72 ∧ ¬ (r = 71 ∧ j < 5 * h 66 i 0)) → h' r n j = h r n j
theorem mfS_C {s : Int} {m m' : zHM} (s0 : 0 ≤ s) (s1 : s < 30) (h : mfS s m m') : mfC m m' :=
  ⟨h.1, fun j gz g0 g1 => by rw [h.2.2.1 j gz g0 g1, h.2.2.2 14 209 (by omega)], h.2.2.2 14 216 (by omega), fun r j hne => h.2.2.2 r j (by omega)⟩
theorem cfS_C {i k : Int} {h h' : zHC} (hc : cfS i k h h') : cfC i h h' :=
  ⟨hc.1, hc.2 65 i 0 (by omega), fun r n j hne => hc.2 r n j (by omega)⟩
/-- within the hour (209 stays) -/
def mfH (m m' : zHM) : Prop := mfC m m' ∧ m' 14 209 = m 14 209
theorem mfH_trans {m m' m'' : zHM} (h1 : mfH m m') (h2 : mfH m' m'') : mfH m m'' := by
  obtain ⟨⟨a1, a2, a3, a4⟩, a5⟩ := h1
  obtain ⟨⟨b1, b2, b3, b4⟩, b5⟩ := h2
  refine ⟨⟨Int.le_trans a1 b1, fun j gz g0 g1 => ?_, b3.trans a3, fun r j hne => ?_⟩, b5.trans a5⟩
  · by_cases q : j < m' 14 997
    · rw [b4 _ _ (by omega), b5]
      exact a2 j gz g0 q
    · exact b2 j gz (by omega) g1
  · rw [b4 r j (by omega), a4 r j hne]
theorem cfC_trans {i : Int} {h h' h'' : zHC} (h1 : cfC i h h') (h2 : cfC i h' h'') : cfC i h h'' := by
  obtain ⟨a1, a2, a3⟩ := h1
  obtain ⟨b1, b2, b3⟩ := h2
  refine ⟨Int.le_trans a1 b1, b2.trans a2, fun r n j hne => ?_⟩
  rw [b3 r n j (by omega), a3 r n j hne]
theorem VS_keep {h h' : zHC} {v : Int} {a a' : Int → Int} (hh : ∀ r j, 576 ≤ r → r ≤ 595 → h' r v j = h r v j) (ha : ∀ k, 0 ≤ k → k < 209 → a' k = a k) (h6 : a 6 ≤ 6) (hC : VS h v a) : VS h' v a' := by
  intro c c0 c1
  rw [ha 6 (by decide) (by decide)] at c1
  rw [hh 594 c (by decide) (by decide), hh 595 c (by decide) (by decide), ha _ (by omega) (by omega), ha _ (by omega) (by omega)]
  exact hC c c0 c1
/-- the model's part of an hour, before the class's first saying -/
theorem PI_model {h : zHC} {i v σ H st : Int} (st0 : 0 ≤ st) (st1 : st ≤ 9) : ∀ (d n : Nat) (q : Int) (m : zHM), PI h m i v σ H q → 0 ≤ q → q ≤ σ → σ - q ≤ d → d < n → ∃ n' m' sn, F208 H m = some sn ∧ F208 H m' = some sn ∧ 0 ≤ sn ∧ sn ≤ 9 ∧ n ≤ n' + d ∧ F236_0 n (sn + st) q m = F236_0 n' (sn + st) σ m' ∧ PI h m' i v σ H σ ∧ mfH m m' := by
  intro d
  induction d with
  | zero =>
    intro n q m hI q0 q1 g0 g1
    have e : q = σ := by omega
    subst e
    obtain ⟨⟨p1, p2, p3, p4⟩, ⟨p5, p6, p7, p8⟩, p9, ⟨p10, p11⟩, ⟨p12, p13, p14, p15⟩, p16, p17, p18, p19⟩ := id hI
    have w6 := p4.1
    unfold WN at w6
    obtain ⟨sn, e1, e2, e3, e4⟩ := L91 (h := h) (m := m) (v := v) (H := H) p1.2.2.2.2.2.2 (by omega) (by omega) p3 p4.2.2.2.2
    exact ⟨n, m, sn, e2, e2, e3, e4, by omega, rfl, hI, ⟨Int.le_refl _, fun j _ j0 j1 => by omega, rfl, fun _ _ _ => rfl⟩, rfl⟩
  | succ d ih =>
    intro n q m hI q0 q1 g0 g1
    by_cases e : q = σ
    · obtain ⟨n', m', sn, z1, z2, z3, z4, z5, z6⟩ := ih n q m hI q0 q1 (by omega) (by omega)
      exact ⟨n', m', sn, z1, z2, z3, z4, by omega, z6⟩
    · obtain ⟨⟨p1, p2, p3, p4⟩, ⟨p5, p6, p7, p8⟩, p9, ⟨p10, p11⟩, ⟨p12, p13, p14, p15⟩, p16, p17, p18, p19⟩ := id hI
      cases n with
      | zero => omega
      | succ n =>
        have w6 := p4.1
        unfold WN at w6
        obtain ⟨sq1, sq2⟩ := p16 q q0 (by omega)
        rw [if_neg (by omega)] at sq1
        obtain ⟨sn, e1, e2, e3, e4⟩ := M_step (h := h) (m := m) (v := v) (s := q) (H := H) (st := st) q0 (by omega) p15 p1 p2 p3 p4 p6 p7 p8 (fun p g0 g1 => (p9 p g0 g1).2) st0 st1 sq1 sq2 p18
        obtain ⟨m1, f1, f2, f3, f4⟩ := e4 (F236_0 n)
        have a209 : ∀ k, 0 ≤ k → k < 209 → m1 14 k = m 14 k := fun k g0 g1 => f4.2.2.2 14 k (by omega)
        have e216 : m1 14 216 = m 14 216 := f4.2.2.2 14 216 (by omega)
        have e6 : m1 14 6 = m 14 6 := a209 6 (by decide) (by decide)
        have hI1 : PI h m1 i v σ H (q + 1) := by
          refine ⟨⟨VN_keep (fun _ _ _ _ => rfl) a209 p1, VC_keep (fun _ _ _ _ => rfl) a209 (by omega) p2, VS_keep (fun _ _ _ _ => rfl) a209 (by omega) p3, VW_cong a209 p4⟩, ⟨p5, by rw [f4.2.2.2 14 209 (by omega)]; exact p6, p7, p8⟩, ?_, ⟨p10, Int.le_trans p11 f4.1⟩, ⟨by rw [e216]; exact p12, p13, p14, by rw [e216]; exact p15⟩, ?_, ?_, f3, fun s0 => ?_⟩
          · intro p g0 g1
            rw [a209 3 (by decide) (by decide)] at g1
            rw [f4.2.2.2 14 (210 + p) (by omega)]
            exact p9 p g0 g1
          · intro s g0 g1
            rw [e216] at g1
            by_cases u : s = q
            · subst u
              rw [if_pos (by omega)]
              exact f2
            · obtain ⟨x1, x2⟩ := p16 s g0 g1
              refine ⟨?_, SF_keep q0 (by omega) f4 u g0 (by omega) x2⟩
              by_cases u2 : s < q
              · rw [if_pos u2] at x1
                rw [if_pos (by omega)]
                exact SD_keep q0 (by omega) f4 u g0 (by omega) x1
              · rw [if_neg u2] at x1
                rw [if_neg (by omega)]
                exact SD_keep q0 (by omega) f4 u g0 (by omega) x1
          · intro k g0 g1
            obtain ⟨x1, x2, x3⟩ := p17 k g0 g1
            refine ⟨?_, ?_, ?_⟩
            · intro w w0 w1
              rw [f4.2.2.2 14 _ (by omega)]
              exact x1 w w0 w1
            · intro c c0 c1
              rw [f4.2.2.2 14 _ (by omega), f4.2.2.2 14 _ (by omega)]
              exact x2 c c0 c1
            · rw [if_neg (by omega)] at x3
              rw [if_neg (by omega)]
              exact x3
          · omega
        obtain ⟨n', m', sn', z1, z2, z3, z4, z5, z6, z7, z8⟩ := ih n (q + 1) m1 hI1 (by omega) (by omega) (by omega) (by omega)
        have esn : sn' = sn := by
          obtain ⟨sn2, y1, y2, y3, y4⟩ := L91 (h := h) (m := m) (v := v) (H := H) p1.2.2.2.2.2.2 (by omega) (by omega) p3 p4.2.2.2.2
          obtain ⟨sn3, t1, t2, t3, t4⟩ := L91 (h := h) (m := m1) (v := v) (H := H) hI1.1.1.2.2.2.2.2.2 (by omega) (by omega) hI1.1.2.2.1 hI1.1.2.2.2.2.2.2.2
          have := y1.symm.trans t1
          have := y2.symm.trans e1
          have := t2.symm.trans z1
          simp_all
        subst esn
        refine ⟨n', m', sn', e1, z2, z3, z4, by omega, ?_, z7, mfH_trans ⟨mfS_C q0 (by omega) f4, f4.2.2.2 14 209 (by omega)⟩ z8⟩
        rw [F236_0, if_neg (by omega), f1]
        exact z6
theorem PI_both {i v σ H st : Int} (st0 : 0 ≤ st) (st1 : st ≤ 9) : ∀ (d n n' : Nat) (k : Int) (h : zHC) (m : zHM) (sn : Int), PI h m i v σ H (σ + k) → F208 H m = some sn → 0 ≤ k → k ≤ h 65 i 0 → h 65 i 0 - k ≤ d → d < n → d < n' → ∃ h' m', F89_1 n i v st k h = some h' ∧ F236_0 n' (sn + st) (σ + k) m = some m' ∧ PI h' m' i v σ H (m' 14 216) ∧ cfC i h h' ∧ mfH m m' := by
  intro d
  induction d with
  | zero =>
    intro n n' k h m sn hI hsn k0 k1 g0 g1 g2
    cases n with
    | zero => omega
    | succ n =>
      cases n' with
      | zero => omega
      | succ n' =>
        have e := hI.2.2.2.2.1.1
        rw [F89_1, F236_0, if_pos (by omega), if_pos (by omega)]
        refine ⟨h, m, rfl, rfl, ?_, ⟨Int.le_refl _, rfl, fun _ _ _ _ => rfl⟩, ⟨⟨Int.le_refl _, fun j _ j0 j1 => by omega, rfl, fun _ _ _ => rfl⟩, rfl⟩⟩
        rw [show m 14 216 = σ + k by omega]
        exact hI
  | succ d ih =>
    intro n n' k h m sn hI hsn k0 k1 g0 g1 g2
    cases n with
    | zero => omega
    | succ n =>
      cases n' with
      | zero => omega
      | succ n' =>
        obtain ⟨⟨p1, p2, p3, p4⟩, ⟨p5, p6, p7, p8⟩, p9, ⟨p10, p11⟩, ⟨p12, p13, p14, p15⟩, p16, p17, p18, p19⟩ := id hI
        have w6 := p4.1
        unfold WN at w6
        rw [F89_1, F236_0]
        by_cases e : k = h 65 i 0
        · rw [if_pos (by omega), if_pos (by omega)]
          refine ⟨h, m, rfl, rfl, ?_, ⟨Int.le_refl _, rfl, fun _ _ _ _ => rfl⟩, ⟨⟨Int.le_refl _, fun j _ j0 j1 => by omega, rfl, fun _ _ _ => rfl⟩, rfl⟩⟩
          rw [show m 14 216 = σ + k by omega]
          exact hI
        · obtain ⟨x1, x2, x3⟩ := p17 k k0 (by omega)
          obtain ⟨y1, y2⟩ := p16 (σ + k) (by omega) (by omega)
          rw [if_neg (by omega)] at x3
          rw [if_neg (by omega)] at y1
          rw [if_neg (show ¬ h 65 i 0 ≤ k by omega), if_neg (show ¬ m 14 216 ≤ σ + k by omega), zG_t (by omega), p5]
          have e1 : wadd k 1 = k + 1 := wadd_eq (by omega) (by omega)
          have big := zFu_big
          by_cases q : h 72 i k = H
          · rw [if_neg (by omega)]
            have hB : BS h m i v k (σ + k) H := ⟨⟨k0, by omega⟩, ⟨by omega, by omega, p15⟩, ⟨p1, p2, p4⟩, p5, p6, ⟨p7, p8⟩, p9, p10⟩
            obtain ⟨sn2, h1, u1, u2, u3, u4, u5⟩ := S_give hB p3 st0 st1 x1 x2 y1 y2 p18 p11
            have esn : sn2 = sn := Option.some.inj (u1.symm.trans hsn)
            subst esn
            obtain ⟨m1, t1, t2, t3, t4, t5, t6, t7, t8, t9, t10⟩ := u5 (F236_0 n')
            rw [u4, t1]
            show ∃ h' m', F89_3 _ _ _ _ _ _ = some h' ∧ _
            unfold F89_3
            rw [e1]
            have a209 : ∀ k, 0 ≤ k → k < 209 → m1 14 k = m 14 k := fun k g0 g1 => t8.2.2.2 14 k (by omega)
            have e216 : m1 14 216 = m 14 216 := t8.2.2.2 14 216 (by omega)
            have e65 : h1 65 i 0 = h 65 i 0 := t7.2 65 i 0 (by omega)
            have hh : ∀ r j, 576 ≤ r → r ≤ 595 → h1 r v j = h r v j := fun r j g0 g1 => t7.2 r v j (by omega)
            have hI1 : PI h1 m1 i v σ H (σ + (k + 1)) := by
              refine ⟨⟨VN_keep hh a209 p1, VC_keep hh a209 (by omega) p2, VS_keep hh a209 (by omega) p3, VW_cong a209 p4⟩, ⟨by rw [t7.2 64 i 0 (by omega)]; exact p5, by rw [t8.2.2.2 14 209 (by omega)]; exact p6, p7, p8⟩, ?_, ⟨Int.le_trans p10 t7.1, t9⟩, ⟨by rw [e216, e65]; exact p12, p13, by rw [e65]; exact p14, by rw [e216]; exact p15⟩, ?_, ?_, t6, fun s0 => t10 (by omega) (p19 s0)⟩
              · intro p g0 g1
                rw [a209 3 (by decide) (by decide)] at g1
                rw [t7.2 67 i p (by omega), t8.2.2.2 14 (210 + p) (by omega)]
                exact p9 p g0 g1
              · intro s g0 g1
                rw [e216] at g1
                by_cases u : s = σ + k
                · subst u
                  rw [if_pos (by omega)]
                  exact t5
                · obtain ⟨z1, z2⟩ := p16 s g0 g1
                  refine ⟨?_, SF_keep (by omega) (by omega) t8 u g0 (by omega) z2⟩
                  by_cases u2 : s < σ + k
                  · rw [if_pos u2] at z1
                    rw [if_pos (by omega)]
                    exact SD_keep (by omega) (by omega) t8 u g0 (by omega) z1
                  · rw [if_neg u2] at z1
                    rw [if_neg (by omega)]
                    exact SD_keep (by omega) (by omega) t8 u g0 (by omega) z1
              · intro k' g0 g1
                rw [e65] at g1
                by_cases u : k' = k
                · subst u
                  rw [if_pos (by omega)]
                  exact ⟨t2, t3, t4⟩
                · obtain ⟨z1, z2, z3⟩ := p17 k' g0 g1
                  refine ⟨CF_keep (by omega) (by omega) t7 t8 u (by omega) (by omega) (by omega) z1, CD_keep (by omega) (by omega) t7 t8 u (by omega) (by omega) (by omega) z2, ?_⟩
                  by_cases u2 : σ + k' < σ + k
                  · rw [if_pos u2] at z3
                    rw [if_pos (by omega)]
                    exact CS_keep t7 u z3
                  · rw [if_neg u2] at z3
                    rw [if_neg (by omega)]
                    exact CS_keep t7 u z3
            have hsn1 : F208 H m1 = some sn2 := by
              obtain ⟨sn3, y1, y2, y3, y4⟩ := L91 (h := h) (m := m) (v := v) (H := H) p1.2.2.2.2.2.2 (by omega) (by omega) p3 p4.2.2.2.2
              obtain ⟨sn4, w1, w2, w3, w4⟩ := L91 (h := h) (m := m1) (v := v) (H := H) (by rw [a209 6 (by decide) (by decide)]; exact p1.2.2.2.2.2.2) (by rw [a209 6 (by decide) (by decide)]; omega) (by rw [a209 6 (by decide) (by decide)]; omega) (VS_keep (fun _ _ _ _ => rfl) a209 (by omega) p3) hI1.1.2.2.2.2.2.2.2
              rw [w2, ← y1.symm.trans w1, ← y2, hsn]
            obtain ⟨h2, m2, r1, r2, r3, r4, r5⟩ := ih n n' (k + 1) h1 m1 sn2 hI1 hsn1 (by omega) (by omega) (by omega) (by omega) (by omega)
            refine ⟨h2, m2, r1, ?_, r3, cfC_trans (cfS_C t7) r4, mfH_trans ⟨mfS_C (by omega) (by omega) t8, t8.2.2.2 14 209 (by omega)⟩ r5⟩
            rw [show σ + k + 1 = σ + (k + 1) by omega]
            exact r2
          · rw [if_pos q]
            have hd : ∀ c, 0 ≤ c → c < 6 → ¬ m 14 (457 + 18 * (σ + k) + 3 * c) = H := by
              intro c c0 c1 w
              have d1 := (x2 c c0 c1).1
              rw [if_neg (by omega), w] at d1
              have l1 := x3.1 c c0 c1 (by omega)
              rcases x3.2 with l2 | ⟨c', -, -, -, l2⟩
              · omega
              · omega
            rw [S_skip (m := m) (s := σ + k) (H := H) (less := sn + st) (by omega) (by omega) (by omega) (by omega) p6 (F236_0 n') (fun c c0 c1 => hd c c0 (by omega)) zFu 0 (by decide) (by omega) (by omega)]
            show ∃ h' m', F89_3 _ _ _ _ _ _ = some h' ∧ _
            unfold F89_3
            rw [e1]
            have hI1 : PI h m i v σ H (σ + (k + 1)) := by
              refine ⟨⟨p1, p2, p3, p4⟩, ⟨p5, p6, p7, p8⟩, p9, ⟨p10, p11⟩, ⟨p12, p13, p14, p15⟩, ?_, ?_, p18, p19⟩
              · intro s g0 g1
                obtain ⟨z1, z2⟩ := p16 s g0 g1
                refine ⟨?_, z2⟩
                by_cases u : s = σ + k
                · subst u
                  rw [if_neg (by omega)] at z1
                  rw [if_pos (by omega)]
                  intro c c0 c1
                  obtain ⟨a1, a2, a3, a4, a5⟩ := z1 c c0 c1
                  refine ⟨a1, a2, a3, ?_, a5⟩
                  have := hd c c0 c1
                  rw [a4]
                  by_cases b : ¬ m 14 (457 + 18 * (σ + k) + 3 * c) = 0 ∧ (m 14 (457 + 18 * (σ + k) + 3 * c) < H ∨ m 14 (457 + 18 * (σ + k) + 3 * c) = H ∧ c < 0)
                  · rw [if_pos b, if_pos (by omega)]
                  · rw [if_neg b, if_neg (by omega)]
                · by_cases u2 : s < σ + k
                  · rw [if_pos u2] at z1
                    rw [if_pos (by omega)]
                    exact z1
                  · rw [if_neg u2] at z1
                    rw [if_neg (by omega)]
                    exact z1
              · intro k' g0' g1'
                obtain ⟨z1, z2, z3⟩ := p17 k' g0' g1'
                refine ⟨z1, z2, ?_⟩
                by_cases u : k' = k
                · subst u
                  rw [if_neg (by omega)] at z3
                  rw [if_pos (by omega)]
                  refine ⟨fun c c0 c1 c2 => z3.1 c c0 c1 (by omega), ?_⟩
                  rcases z3.2 with l | ⟨c, l1, l2, l3, l4⟩
                  · exact Or.inl l
                  · exact Or.inr ⟨c, l1, l2, l3, by omega⟩
                · by_cases u2 : σ + k' < σ + k
                  · rw [if_pos u2] at z3
                    rw [if_pos (by omega)]
                    exact z3
                  · rw [if_neg u2] at z3
                    rw [if_neg (by omega)]
                    exact z3
            obtain ⟨h2, m2, r1, r2, r3, r4, r5⟩ := ih n n' (k + 1) h m sn hI1 hsn (by omega) (by omega) (by omega) (by omega) (by omega)
            refine ⟨h2, m2, r1, ?_, r3, r4, r5⟩
            rw [show σ + k + 1 = σ + (k + 1) by omega]
            exact r2
theorem L_moves {v i st H : Int} {nM nP : Int} (M1 : nM ≤ 20) (P1 : nP ≤ 6) : ∀ (n n' : Nat) (j : Int) (h : zHC) (m : zHM), h 580 v 0 = nM → m 14 4 = nM → m 14 3 = nP → h 64 i 0 = H → VM h v (m 14) → WM (m 14) → RP h i (m 14) → 0 ≤ j → j ≤ nM → nM - j < n → nM - j < n' → ∃ h' m', F89_0 n i v st j h = F89_1 zFu i v st 0 h' ∧ F237_0 n' H j m = some m' ∧ RP h' i (m' 14) ∧ (∀ r n j, ¬ (r = 67 ∧ n = i) → h' r n j = h r n j) ∧ (∀ r j, ¬ (r = 14 ∧ 210 ≤ j ∧ j < 216) → m' r j = m r j) := by
  intro n
  induction n with
  | zero => intro n' j h m e1 e2 e3 e4 e5 e6 e7 j0 j1 g1 g2; omega
  | succ n ih =>
    intro n' j h m e1 e2 e3 e4 e5 e6 e7 j0 j1 g1 g2
    cases n' with
    | zero => omega
    | succ n' =>
      rw [F89_0, F237_0, e1, e2]
      by_cases e : j = nM
      · rw [if_pos (by omega), if_pos (by omega)]
        exact ⟨h, m, rfl, rfl, e7, fun _ _ _ _ => rfl, fun _ _ _ => rfl⟩
      · obtain ⟨a1, a2, a3⟩ := e5 j j0 (by omega)
        obtain ⟨b1, b2, b3, b4, b5, b6⟩ := e6 j j0 (by omega)
        have w1 : wadd j 1 = j + 1 := wadd_eq (by omega) (by omega)
        have hj : ¬ nM ≤ j := by omega
        rw [if_neg hj, if_neg hj, wmul_eq (by omega) (by omega), wadd_eq (x := 37) (by omega) (by omega), wadd_eq (x := 37 + 3 * j) (y := 1) (by omega) (by omega), wadd_eq (x := 37 + 3 * j) (y := 2) (by omega) (by omega), a1, a2, a3, e4, wadd_eq (x := 210) (by omega) (by omega)]
        simp (disch := omega) only [zG_t]
        unfold F89_2 F237_1
        rw [w1]
        by_cases q : m 14 (37 + 3 * j + 1) = H
        · rw [if_neg (fun w => w q : ¬ ¬ m 14 (37 + 3 * j + 1) = H), if_neg (fun w => w q : ¬ ¬ m 14 (37 + 3 * j + 1) = H)]
          have hr : RP (hset h 67 i (m 14 (37 + 3 * j)) (m 14 (37 + 3 * j + 2))) i ((mset m 14 (210 + m 14 (37 + 3 * j)) (m 14 (37 + 3 * j + 2))) 14) := by
            intro p p0 p1
            rw [mset_ne (by omega)] at p1
            by_cases u : p = m 14 (37 + 3 * j)
            · subst u
              rw [hset_eq, mset_eq]
              exact ⟨rfl, b5, b6⟩
            · rw [hset_ne (by omega), mset_ne (by omega)]
              exact e7 p p0 p1
          have c5 : VM (hset h 67 i (m 14 (37 + 3 * j)) (m 14 (37 + 3 * j + 2))) v ((mset m 14 (210 + m 14 (37 + 3 * j)) (m 14 (37 + 3 * j + 2))) 14) := by
            intro c c0 c1
            rw [mset_ne (by omega)] at c1
            rw [mset_ne (by omega), mset_ne (by omega), mset_ne (by omega), hset_ne (by omega), hset_ne (by omega), hset_ne (by omega)]
            exact e5 c c0 c1
          have c6 : WM ((mset m 14 (210 + m 14 (37 + 3 * j)) (m 14 (37 + 3 * j + 2))) 14) := by
            intro c c0 c1
            rw [mset_ne (by omega)] at c1
            rw [mset_ne (by omega), mset_ne (by omega), mset_ne (by omega), mset_ne (by omega)]
            exact e6 c c0 c1
          obtain ⟨h', m', z1, z2, z3, z4, z5⟩ := ih n' (j + 1) _ _ (by rw [hset_ne (by omega)]; exact e1) (by rw [mset_ne (by omega)]; exact e2) (by rw [mset_ne (by omega)]; exact e3) (by rw [hset_ne (by omega)]; exact e4) c5 c6 hr (by omega) (by omega) (by omega) (by omega)
          exact ⟨h', m', z1, z2, z3, fun r n' j' hne => by rw [z4 r n' j' hne, hset_ne (by omega)], fun r j' hne => by rw [z5 r j' hne, mset_ne (by omega)]⟩
        · rw [if_pos q, if_pos q]
          exact ih n' (j + 1) h m e1 e2 e3 e4 e5 e6 e7 (by omega) (by omega) (by omega) (by omega)
/-- an hour of both -/
theorem P_pass {h : zHC} {m : zHM} {i v σ st : Int} {nm : Int → Int} (hV : VR h v (m 14) nm) (hR : RC h i (m 14) σ) (hE : h 66 i 0 ≤ m 14 997) (hL : σ = 0 → RL h i (m 14)) (hW : CW (m 14)) (hl : m 14 209 < 400) (st0 : 0 ≤ st) (st1 : st ≤ 9) : ∃ h' m', F89 i v st h = some h' ∧ F236 st m = some m' ∧ VR h' v (m' 14) nm ∧ RC h' i (m' 14) σ ∧ h' 66 i 0 ≤ m' 14 997 ∧ (σ = 0 → RL h' i (m' 14)) ∧ CW (m' 14) ∧ m' 14 209 = m 14 209 + 1 ∧ cfC i h h' ∧ mfC m m' := by
  obtain ⟨hN, hC, hP, hM, hF, hS, hQ, hVW⟩ := id hV
  obtain ⟨r1, r2, r3, r4, r5, r6, r7⟩ := hR
  obtain ⟨⟨c1, c2⟩, ⟨c3, c4⟩, c5, c6, c7⟩ := hW
  have w6 := hVW.1
  unfold WN at w6
  have big := zFu_big
  obtain ⟨n0, n1, n2, n3, n4, n5, n6⟩ := hN
  have EH : wadd (m 14 209) 1 = m 14 209 + 1 := wadd_eq (by omega) (by omega)
  have q0 : ∀ r n j, ¬ (r = 64 ∧ n = i ∧ j = 0) → hset h 64 i 0 (m 14 209 + 1) r n j = h r n j := fun r n j hne => hset_ne (by omega)
  have q1 : ∀ r j, ¬ (r = 14 ∧ j = 209) → mset m 14 209 (m 14 209 + 1) r j = m r j := fun r j hne => mset_ne (by omega)
  have q2 : hset h 64 i 0 (m 14 209 + 1) 64 i 0 = m 14 209 + 1 := hset_eq
  have q3 : mset m 14 209 (m 14 209 + 1) 14 209 = m 14 209 + 1 := mset_eq
  have a0 : ∀ k, 0 ≤ k → k < 209 → mset m 14 209 (m 14 209 + 1) 14 k = m 14 k := fun k g0 g1 => q1 _ _ (by omega)
  unfold F89 F236
  rw [r1, EH]
  generalize hset h 64 i 0 (m 14 209 + 1) = h0 at q0 q2 ⊢
  generalize mset m 14 209 (m 14 209 + 1) = m0 at q1 q3 a0 ⊢
  have hVM0 : VM h0 v (m0 14) := by
    intro c g0 g1
    rw [a0 4 (by decide) (by decide)] at g1
    rw [a0 _ (by omega) (by omega), a0 _ (by omega) (by omega), a0 _ (by omega) (by omega), q0 _ _ _ (by omega), q0 _ _ _ (by omega), q0 _ _ _ (by omega)]
    exact hM c g0 g1
  have hRP0 : RP h0 i (m0 14) := by
    intro p g0 g1
    rw [a0 3 (by decide) (by decide)] at g1
    rw [q0 _ _ _ (by omega), q1 _ _ (by omega)]
    exact r6 p g0 g1
  obtain ⟨h1, m1, z1, z2, z3, z4, z5⟩ := L_moves (v := v) (i := i) (st := st) (H := m 14 209 + 1) (nM := m 14 4) (nP := m 14 3) (by omega) (by omega) zFu zFu 0 h0 m0 (by rw [q0 _ _ _ (by omega)]; exact n4) (a0 4 (by decide) (by decide)) (a0 3 (by decide) (by decide)) q2 hVM0 (VW_cong a0 hVW).2.2.2.1 hRP0 (by decide) (by omega) (by omega) (by omega)
  unfold F237
  rw [z1, z2]
  show ∃ h' m', _ ∧ Option.bind (F208 (m1 14 209) m1) _ = some m' ∧ _
  have H1 : m1 14 209 = m 14 209 + 1 := by rw [z5 _ _ (by omega), q3]
  rw [H1]
  have a1 : ∀ k, 0 ≤ k → k < 209 → m1 14 k = m 14 k := fun k g0 g1 => by rw [z5 _ _ (by omega), a0 k g0 g1]
  have b1 : ∀ r n j, ¬ (n = i ∧ (r = 67 ∨ r = 64)) → h1 r n j = h r n j := fun r n j hne => by rw [z4 r n j (by omega), q0 r n j (by omega)]
  have b2 : ∀ r j, ¬ (r = 14 ∧ 209 ≤ j ∧ j < 216) → m1 r j = m r j := fun r j hne => by rw [z5 r j (by omega), q1 r j (by omega)]
  have hh : ∀ r j, 576 ≤ r → r ≤ 595 → h1 r v j = h r v j := fun r j g0 g1 => b1 r v j (by omega)
  have hV1 := VR_keep (nm' := nm) hh a1 (fun _ _ _ => rfl) hV
  obtain ⟨hN1, hC1, hP1, hM1, hF1, hS1, hQ1, hVW1⟩ := id hV1
  have e216 : m1 14 216 = m 14 216 := b2 _ _ (by omega)
  have e65 : h1 65 i 0 = h 65 i 0 := b1 _ _ _ (by omega)
  have e66 : h1 66 i 0 = h 66 i 0 := b1 _ _ _ (by omega)
  have e997 : m1 14 997 = m 14 997 := b2 _ _ (by omega)
  have hI : PI h1 m1 i v σ (m 14 209 + 1) 0 := by
    refine ⟨⟨hN1, hC1, hS1, hVW1⟩, ⟨by rw [z4 _ _ _ (by omega), q2], H1, by omega, by omega⟩, z3, ⟨by rw [e66]; exact r5, by rw [e66, e997]; exact hE⟩, ⟨by rw [e65, e216]; exact r2, r3, by rw [e65]; exact r4, by rw [e216]; exact c4⟩, ?_, ?_, ?_, fun s0 => ?_⟩
    · intro s g0 g1
      rw [e216] at g1
      rw [if_neg (by omega)]
      obtain ⟨x1, x2⟩ := c5 s g0 g1
      refine ⟨?_, ?_⟩
      · have := SD_hour x1
        intro c c0 c1
        rw [b2 _ _ (by omega), b2 _ _ (by omega), b2 _ _ (by omega), b2 _ 2 (by omega)]
        exact this c c0 c1
      · unfold SF at *
        rw [b2 _ (217 + 8 * s) (by omega), b2 _ (217 + 8 * s + 1) (by omega), b2 _ (217 + 8 * s + 2) (by omega), b2 _ (217 + 8 * s + 3) (by omega), b2 _ (217 + 8 * s + 4) (by omega), b2 _ (217 + 8 * s + 5) (by omega), b2 _ (217 + 8 * s + 6) (by omega), b2 _ (217 + 8 * s + 7) (by omega), b2 _ (457 + 18 * s + 3 * 0 + 2) (by omega), b2 _ (457 + 18 * s + 3 * 1 + 2) (by omega), b2 _ (457 + 18 * s + 3 * 2 + 2) (by omega), b2 _ (457 + 18 * s + 3 * 3 + 2) (by omega), b2 _ (457 + 18 * s + 3 * 4 + 2) (by omega), b2 _ (457 + 18 * s + 3 * 5 + 2) (by omega)]
        exact x2
    · intro k g0 g1
      rw [e65] at g1
      rw [if_neg (by omega)]
      obtain ⟨x1, x2, x3⟩ := r7 k g0 g1
      refine ⟨?_, ?_, ?_⟩
      · intro w w0 w1
        rw [b1 _ _ _ (by omega), b2 _ _ (by omega)]
        exact x1 w w0 w1
      · intro c c0 c1
        rw [b1 _ _ _ (by omega), b1 _ _ _ (by omega), b2 _ _ (by omega), b2 _ _ (by omega)]
        exact x2 c c0 c1
      · rw [show m 14 209 + 1 - 1 = m 14 209 by omega]
        refine ⟨fun c c0 c1 => ?_, ?_⟩
        · rw [b1 _ _ _ (by omega), b1 _ _ _ (by omega)]
          exact x3.1 c c0 c1
        · rw [b1 72 _ _ (by omega)]
          rcases x3.2 with l | ⟨c, l1, l2, l3, l4⟩
          · exact Or.inl l
          · exact Or.inr ⟨c, l1, l2, by rw [b1 _ _ _ (by omega)]; exact l3, l4⟩
    · refine EQ_cong e216 (b2 _ _ (by omega)) e997 (fun s g0 g1 => b2 _ _ (by omega)) (fun j g0 g1 => b2 _ _ (by omega)) ⟨c6, c7, fun s g0 g1 => ?_⟩
      obtain ⟨x1, x2⟩ := c5 s g0 g1
      obtain ⟨-, -, -, -, -, -, t7, -⟩ := x2
      have l0 := SD_le1 x1 (c := 0) (by decide) (by decide)
      have l1 := SD_le1 x1 (c := 1) (by decide) (by decide)
      have l2 := SD_le1 x1 (c := 2) (by decide) (by decide)
      have l3 := SD_le1 x1 (c := 3) (by decide) (by decide)
      have l4 := SD_le1 x1 (c := 4) (by decide) (by decide)
      have l5 := SD_le1 x1 (c := 5) (by decide) (by decide)
      omega
    · obtain ⟨l1, l2⟩ := hL s0
      refine ⟨by rw [e66, e997]; exact l1, fun j j0 j1 w w0 w1 => ?_⟩
      rw [e997] at j1
      rw [b1 _ _ _ (by omega), b2 _ _ (by omega)]
      exact l2 j j0 j1 w w0 w1
  obtain ⟨n', m2, sn, y1, y2, y3, y4, y5, y6, y7, y8⟩ := PI_model (h := h1) st0 st1 30 zFu 0 m1 hI (by decide) r3 (by omega) (by omega)
  rw [y1]
  show ∃ h' m', _ ∧ F236_0 zFu (wadd sn st) 0 m1 = some m' ∧ _
  rw [wadd_eq (x := sn) (y := st) (by omega) (by omega), y6]
  have y7' : PI h1 m2 i v σ (m 14 209 + 1) (σ + 0) := by rw [Int.add_zero]; exact y7
  obtain ⟨h3, m3, x1, x2, x3, x4, x5⟩ := PI_both st0 st1 30 zFu n' 0 h1 m2 sn y7' y2 (by decide) (by omega) (by omega) (by omega) (by omega)
  rw [Int.add_zero] at x2
  rw [x1, x2]
  obtain ⟨⟨p1, p2, p3, p4⟩, ⟨p5, p6, p7, p8⟩, p9, ⟨p10, p11⟩, ⟨p12, p13, p14, p15⟩, p16, p17, p18, p19⟩ := x3
  have mh := mfH_trans y8 x5
  have a3 : ∀ k, 0 ≤ k → k < 209 → m3 14 k = m 14 k := fun k g0 g1 => by rw [mh.1.2.2.2 14 k (by omega), a1 k g0 g1]
  have hh3 : ∀ r j, 576 ≤ r → r ≤ 595 → h3 r v j = h r v j := fun r j g0 g1 => by rw [x4.2.2 r v j (by omega), hh r j g0 g1]
  refine ⟨h3, m3, rfl, rfl, VR_keep hh3 a3 (fun _ _ _ => rfl) hV, ⟨by rw [p5, p6], p12, p13, p14, p10, p9, ?_⟩, p11, p19, ⟨⟨by omega, by omega⟩, ⟨by omega, p15⟩, ?_, p18.1, p18.2.1⟩, p6, ?_, ?_⟩
  · intro k g0 g1
    obtain ⟨t1, t2, t3⟩ := p17 k g0 g1
    rw [if_pos (by omega)] at t3
    rw [p6]
    exact ⟨t1, t2, t3⟩
  · intro s g0 g1
    obtain ⟨t1, t2⟩ := p16 s g0 g1
    rw [if_pos (by omega)] at t1
    rw [p6]
    exact ⟨t1, t2⟩
  · refine ⟨by have := x4.1; omega, by rw [x4.2.1, e65], fun r n j hne => ?_⟩
    rw [x4.2.2 r n j (by omega), b1 r n j (by omega)]
  · obtain ⟨⟨s1, s2, s3, s4⟩, s5⟩ := mh
    refine ⟨by omega, fun j gz g0 g1 => s2 j gz (by omega) g1, by rw [s3, e216], fun r j hne => ?_⟩
    rw [s4 r j (by omega), b2 r j (by omega)]
