/-! What sounds. -/
theorem F92_pre {h : zHC} {i v k c f r E : Int} (hr : F93 v c f i h = some r) (hE : h 66 i 0 = E) (E0 : 0 ≤ E) (E1 : E < 180) (k0 : 0 ≤ k) (k1 : k < 30) (f0 : 1 ≤ f) : ∃ h1, F92 i v k c f h = F92_1 zFu i v k c f 0 h1 ∧ (∀ r' n j, ¬ (n = i ∧ ((r' = 66 ∧ j = 0) ∨ (r' = 71 ∧ 5 * E ≤ j ∧ j < 5 * E + 5) ∨ (r' = 70 ∧ k * 8 + 5 ≤ j ∧ j < k * 8 + 8))) → h1 r' n j = h r' n j) ∧ h1 66 i 0 = E + 1 ∧ h1 71 i (E * 5 + 0) = k ∧ h1 71 i (E * 5 + 1) = c ∧ h1 71 i (E * 5 + 2) = h 64 i 0 ∧ h1 71 i (E * 5 + 3) = f ∧ h1 71 i (E * 5 + 4) = r ∧ h1 70 i (k * 8 + 5) = (if r = 0 then h 70 i (k * 8 + 5) else r) ∧ h1 70 i (k * 8 + 6) = wadd (h 70 i (k * 8 + 6)) 1 ∧ h1 70 i (k * 8 + 7) = wor (h 70 i (k * 8 + 7)) r := by
  have key : ∀ h0 : zHC, h0 66 i 0 = E → ∃ h1, F92_0 i v k c f r (k * 8) h0 = F92_1 zFu i v k c f 0 h1 ∧ (∀ r' n j, ¬ (n = i ∧ ((r' = 66 ∧ j = 0) ∨ (r' = 71 ∧ 5 * E ≤ j ∧ j < 5 * E + 5) ∨ (r' = 70 ∧ k * 8 + 6 ≤ j ∧ j < k * 8 + 8))) → h1 r' n j = h0 r' n j) ∧ h1 66 i 0 = E + 1 ∧ h1 71 i (E * 5 + 0) = k ∧ h1 71 i (E * 5 + 1) = c ∧ h1 71 i (E * 5 + 2) = h0 64 i 0 ∧ h1 71 i (E * 5 + 3) = f ∧ h1 71 i (E * 5 + 4) = r ∧ h1 70 i (k * 8 + 6) = wadd (h0 70 i (k * 8 + 6)) 1 ∧ h1 70 i (k * 8 + 7) = wor (h0 70 i (k * 8 + 7)) r := by
    intro h0 hE0
    unfold F92_0 F94
    rw [wadd_eq (x := k * 8) (y := 6) (by omega) (by omega), wadd_eq (x := k * 8) (y := 7) (by omega) (by omega), zG_t (by omega), zG_t (by omega), zG_t (by omega), zG_t (by omega)]
    rw [hset_ne (h := hset h0 70 i (k * 8 + 6) _) (r' := 66) (by omega), hset_ne (h := h0) (r' := 66) (by omega), hE0, hset_ne (h := hset h0 70 i (k * 8 + 6) _) (r' := 64) (by omega), hset_ne (h := h0) (r' := 64) (by omega), hset_ne (h := h0) (r' := 70) (i' := k * 8 + 7) (by omega)]
    rw [wmul_eq (x := E) (by omega) (by omega), wadd_eq (x := E * 5) (y := 0) (by omega) (by omega), wadd_eq (x := E * 5) (y := 1) (by omega) (by omega), wadd_eq (x := E * 5) (y := 2) (by omega) (by omega), wadd_eq (x := E * 5) (y := 3) (by omega) (by omega), wadd_eq (x := E * 5) (y := 4) (by omega) (by omega), wadd_eq (x := E) (y := 1) (by omega) (by omega)]
    rw [if_pos E1, zG_t (by omega), zG_t (by omega), zG_t (by omega), zG_t (by omega), zG_t (by omega)]
    refine ⟨_, rfl, ?_, ?_, ?_, ?_, ?_, ?_, ?_, ?_, ?_⟩
    · intro r' n j hne
      rw [hset_ne (by omega), hset_ne (by omega), hset_ne (by omega), hset_ne (by omega), hset_ne (by omega), hset_ne (by omega), hset_ne (by omega), hset_ne (by omega)]
    · rw [hset_eq]
    · rw [hset_ne (by omega), hset_ne (by omega), hset_ne (by omega), hset_ne (by omega), hset_ne (by omega), hset_eq]
    · rw [hset_ne (by omega), hset_ne (by omega), hset_ne (by omega), hset_ne (by omega), hset_eq]
    · rw [hset_ne (by omega), hset_ne (by omega), hset_ne (by omega), hset_eq]
    · rw [hset_ne (by omega), hset_ne (by omega), hset_eq]
    · rw [hset_ne (by omega), hset_eq]
    · rw [hset_ne (by omega), hset_ne (by omega), hset_ne (by omega), hset_ne (by omega), hset_ne (by omega), hset_ne (by omega), hset_ne (by omega), hset_eq]
    · rw [hset_ne (by omega), hset_ne (by omega), hset_ne (by omega), hset_ne (by omega), hset_ne (by omega), hset_ne (by omega), hset_eq]
  unfold F92
  rw [if_pos f0, hr, wmul_eq (x := k) (by omega) (by omega)]
  show ∃ h1, (if r = 0 then _ else _) = _ ∧ _
  by_cases q : r = 0
  · rw [if_pos q, if_pos q]
    obtain ⟨h1, k1, k2, k3, k4, k5, k6, k7, k8, k9, k10⟩ := key h hE
    exact ⟨h1, k1, fun r' n j hne => k2 r' n j (by omega), k3, k4, k5, k6, k7, k8, k2 _ _ _ (by omega), k9, k10⟩
  · rw [if_neg q, if_neg q, wadd_eq (x := k * 8) (y := 5) (by omega) (by omega), zG_t (by omega)]
    obtain ⟨h1, k1, k2, k3, k4, k5, k6, k7, k8, k9, k10⟩ := key (hset h 70 i (k * 8 + 5) r) (by rw [hset_ne (by omega)]; exact hE)
    rw [hset_ne (by omega)] at k6 k9 k10
    exact ⟨h1, k1, fun r' n j hne => by rw [k2 r' n j (by omega), hset_ne (by omega)], k3, k4, k5, k6, k7, k8, by rw [k2 _ _ _ (by omega), hset_eq], k9, k10⟩
theorem F239_pre {m : zHM} {s c f r N : Int} (hr : F240 c f m = some r) (hN : m 14 997 = N) (N0 : 0 ≤ N) (N1 : N < 180) (s0 : 0 ≤ s) (s1 : s < 30) : ∃ m1, F239 s c f m = F239_1 zFu s c f 0 m1 ∧ (∀ r' j, ¬ (r' = 14 ∧ (j = 997 ∨ (998 + 5 * N ≤ j ∧ j < 1003 + 5 * N) ∨ (217 + 8 * s + 5 ≤ j ∧ j < 225 + 8 * s))) → m1 r' j = m r' j) ∧ m1 14 997 = N + 1 ∧ m1 14 (998 + 5 * N) = s ∧ m1 14 (998 + 5 * N + 1) = c ∧ m1 14 (998 + 5 * N + 2) = m 14 209 ∧ m1 14 (998 + 5 * N + 3) = f ∧ m1 14 (998 + 5 * N + 4) = r ∧ m1 14 (217 + 8 * s + 5) = (if r = 0 then m 14 (217 + 8 * s + 5) else r) ∧ m1 14 (217 + 8 * s + 6) = wadd (m 14 (217 + 8 * s + 6)) 1 ∧ m1 14 (217 + 8 * s + 7) = wor (m 14 (217 + 8 * s + 7)) r := by
  unfold F239 F239_0
  rw [hr]
  show ∃ m1, zG _ _ = _ ∧ _
  rw [hN, wmul_eq (x := 5) (by omega) (by omega), wadd_eq (x := 998) (by omega) (by omega), wadd_eq (x := 998 + 5 * N) (y := 1) (by omega) (by omega), wadd_eq (x := 998 + 5 * N) (y := 2) (by omega) (by omega), wadd_eq (x := 998 + 5 * N) (y := 3) (by omega) (by omega), wadd_eq (x := 998 + 5 * N) (y := 4) (by omega) (by omega), wmul_eq (x := 8) (by omega) (by omega), wadd_eq (x := 217) (by omega) (by omega), wadd_eq (x := 217 + 8 * s) (y := 5) (by omega) (by omega), wadd_eq (x := 217 + 8 * s) (y := 6) (by omega) (by omega), wadd_eq (x := 217 + 8 * s) (y := 7) (by omega) (by omega)]
  rw [zG_t (by omega), zG_t (by omega), zG_t (by omega), zG_t (by omega), zG_t (by omega), zG_t (by omega), zG_t (by omega), zG_t (by omega), zG_t (by omega)]
  have e1 : (mset (mset m 14 (998 + 5 * N) s) 14 (998 + 5 * N + 1) c) 14 209 = m 14 209 := by rw [mset_ne (by omega), mset_ne (by omega)]
  rw [e1]
  have e2 : (mset (mset (mset (mset (mset m 14 (998 + 5 * N) s) 14 (998 + 5 * N + 1) c) 14 (998 + 5 * N + 2) (m 14 209)) 14 (998 + 5 * N + 3) f) 14 (998 + 5 * N + 4) r) 14 997 = N := by rw [mset_ne (by omega), mset_ne (by omega), mset_ne (by omega), mset_ne (by omega), mset_ne (by omega), hN]
  rw [e2, wadd_eq (x := N) (by omega) (by omega)]
  have e3 : (mset (mset (mset (mset (mset (mset m 14 (998 + 5 * N) s) 14 (998 + 5 * N + 1) c) 14 (998 + 5 * N + 2) (m 14 209)) 14 (998 + 5 * N + 3) f) 14 (998 + 5 * N + 4) r) 14 997 (N + 1)) 14 (217 + 8 * s + 6) = m 14 (217 + 8 * s + 6) := by rw [mset_ne (by omega), mset_ne (by omega), mset_ne (by omega), mset_ne (by omega), mset_ne (by omega), mset_ne (by omega)]
  rw [e3]
  have e4 : (mset (mset (mset (mset (mset (mset (mset m 14 (998 + 5 * N) s) 14 (998 + 5 * N + 1) c) 14 (998 + 5 * N + 2) (m 14 209)) 14 (998 + 5 * N + 3) f) 14 (998 + 5 * N + 4) r) 14 997 (N + 1)) 14 (217 + 8 * s + 6) (wadd (m 14 (217 + 8 * s + 6)) 1)) 14 (217 + 8 * s + 7) = m 14 (217 + 8 * s + 7) := by rw [mset_ne (by omega), mset_ne (by omega), mset_ne (by omega), mset_ne (by omega), mset_ne (by omega), mset_ne (by omega), mset_ne (by omega)]
  rw [e4]
  by_cases q : r = 0
  · rw [if_pos q, if_pos q]
    refine ⟨_, rfl, ?_, ?_, ?_, ?_, ?_, ?_, ?_, ?_, ?_, ?_⟩
    · intro r' j hne
      rw [mset_ne (by omega), mset_ne (by omega), mset_ne (by omega), mset_ne (by omega), mset_ne (by omega), mset_ne (by omega), mset_ne (by omega), mset_ne (by omega)]
    · rw [mset_ne (by omega), mset_ne (by omega), mset_eq]
    · rw [mset_ne (by omega), mset_ne (by omega), mset_ne (by omega), mset_ne (by omega), mset_ne (by omega), mset_ne (by omega), mset_ne (by omega), mset_eq]
    · rw [mset_ne (by omega), mset_ne (by omega), mset_ne (by omega), mset_ne (by omega), mset_ne (by omega), mset_ne (by omega), mset_eq]
    · rw [mset_ne (by omega), mset_ne (by omega), mset_ne (by omega), mset_ne (by omega), mset_ne (by omega), mset_eq]
    · rw [mset_ne (by omega), mset_ne (by omega), mset_ne (by omega), mset_ne (by omega), mset_eq]
    · rw [mset_ne (by omega), mset_ne (by omega), mset_ne (by omega), mset_eq]
    · rw [mset_ne (by omega), mset_ne (by omega), mset_ne (by omega), mset_ne (by omega), mset_ne (by omega), mset_ne (by omega), mset_ne (by omega), mset_ne (by omega)]
    · rw [mset_ne (by omega), mset_eq]
    · rw [mset_eq]
  · rw [if_neg q, if_neg q, zG_t (by omega)]
    refine ⟨_, rfl, ?_, ?_, ?_, ?_, ?_, ?_, ?_, ?_, ?_, ?_⟩
    · intro r' j hne
      rw [mset_ne (by omega), mset_ne (by omega), mset_ne (by omega), mset_ne (by omega), mset_ne (by omega), mset_ne (by omega), mset_ne (by omega), mset_ne (by omega), mset_ne (by omega)]
    · rw [mset_ne (by omega), mset_ne (by omega), mset_ne (by omega), mset_eq]
    · rw [mset_ne (by omega), mset_ne (by omega), mset_ne (by omega), mset_ne (by omega), mset_ne (by omega), mset_ne (by omega), mset_ne (by omega), mset_ne (by omega), mset_eq]
    · rw [mset_ne (by omega), mset_ne (by omega), mset_ne (by omega), mset_ne (by omega), mset_ne (by omega), mset_ne (by omega), mset_ne (by omega), mset_eq]
    · rw [mset_ne (by omega), mset_ne (by omega), mset_ne (by omega), mset_ne (by omega), mset_ne (by omega), mset_ne (by omega), mset_eq]
    · rw [mset_ne (by omega), mset_ne (by omega), mset_ne (by omega), mset_ne (by omega), mset_ne (by omega), mset_eq]
    · rw [mset_ne (by omega), mset_ne (by omega), mset_ne (by omega), mset_ne (by omega), mset_eq]
    · rw [mset_eq]
    · rw [mset_ne (by omega), mset_ne (by omega), mset_eq]
    · rw [mset_ne (by omega), mset_eq]
/-- all that the count of echoes is -/
def EQ (a : Int → Int) : Prop := EB a ∧ LW a ∧ ∀ s, 0 ≤ s → s < a 216 → a (217 + 8 * s + 6) ≤ 6
theorem EQ_cong {a a' : Int → Int} (h216 : a' 216 = a 216) (h2 : a' 2 = a 2) (h997 : a' 997 = a 997) (ht : ∀ s, 0 ≤ s → s < a 216 → a' (217 + 8 * s + 6) = a (217 + 8 * s + 6)) (hl : ∀ j, 998 ≤ j → j < 998 + 5 * a 997 → a' j = a j) (h : EQ a) : EQ a' := by
  obtain ⟨⟨b1, b2⟩, ⟨l1, l2⟩, t⟩ := h
  refine ⟨⟨by rw [h997]; exact b1, ?_⟩, ⟨?_, ?_⟩, ?_⟩
  · rw [h997, h216, b2]
    exact zsum_cong (fun j j0 j1 => (ht j j0 (by omega)).symm)
  · intro j j0 j1
    rw [h997] at j1
    rw [h216, h2, hl (998 + 5 * j) (by omega) (by omega), hl (998 + 5 * j + 1) (by omega) (by omega), hl (998 + 5 * j + 2) (by omega) (by omega), hl (998 + 5 * j + 3) (by omega) (by omega), hl (998 + 5 * j + 4) (by omega) (by omega)]
    exact l1 j j0 j1
  · intro s g0 g1
    rw [h216] at g1
    rw [h997, ht s g0 g1, ← l2 s g0 g1]
    exact zcnt_cong (fun j j0 j1 => hl _ (by omega) (by omega))
  · intro s g0 g1
    rw [h216] at g1
    rw [ht s g0 g1]
    exact t s g0 g1
theorem EQ_lt {a : Int → Int} {s : Int} (h : EQ a) (s0 : 0 ≤ s) (s1 : s < a 216) (hn : a 216 ≤ 30) (hs : a (217 + 8 * s + 6) < 6) : 0 ≤ a 997 ∧ a 997 < 180 := by
  obtain ⟨⟨b1, b2⟩, -, t⟩ := h
  refine ⟨b1, ?_⟩
  rw [b2]
  have := zsum_lt (f := fun s => a (217 + 8 * s + 6)) (n := (a 216).toNat) (k := s) (b := 6) s0 (by omega) hs (fun j j0 j1 => t j j0 (by omega))
  omega
theorem EQ_step {a a' : Int → Int} {s c H f r N : Int} (h : EQ a) (hN : a 997 = N) (s0 : 0 ≤ s) (s1 : s < a 216) (hs : a (217 + 8 * s + 6) < 6) (c0 : 0 ≤ c) (c1 : c < a 2) (H0 : 0 ≤ H) (H1 : H ≤ 400) (f0 : 1 ≤ f) (f1 : f ≤ 9) (r0 : 0 ≤ r) (r1 : r < 64) (h216 : a' 216 = a 216) (h2 : a' 2 = a 2) (h997 : a' 997 = N + 1) (e0 : a' (998 + 5 * N) = s) (e1 : a' (998 + 5 * N + 1) = c) (e2 : a' (998 + 5 * N + 2) = H) (e3 : a' (998 + 5 * N + 3) = f) (e4 : a' (998 + 5 * N + 4) = r) (hT : a' (217 + 8 * s + 6) = a (217 + 8 * s + 6) + 1) (ht : ∀ s', 0 ≤ s' → s' < a 216 → s' ≠ s → a' (217 + 8 * s' + 6) = a (217 + 8 * s' + 6)) (hl : ∀ j, 998 ≤ j → j < 998 + 5 * N → a' j = a j) : EQ a' := by
  obtain ⟨⟨b1, b2⟩, ⟨l1, l2⟩, t⟩ := h
  subst hN
  refine ⟨⟨by omega, ?_⟩, ⟨?_, ?_⟩, ?_⟩
  · rw [h997, h216]
    rw [zsum_upd (f := fun s => a (217 + 8 * s + 6)) (k := s) (d := 1) s0 (by omega) hT (fun j j0 j1 j2 => ht j j0 (by omega) j2)]
    omega
  · intro j j0 j1
    rw [h997] at j1
    rw [h216, h2]
    by_cases q : j = a 997
    · subst q
      rw [e0, e1, e2, e3, e4]
      exact ⟨⟨s0, s1⟩, ⟨c0, c1⟩, ⟨H0, H1⟩, ⟨f0, f1⟩, ⟨r0, r1⟩⟩
    · rw [hl (998 + 5 * j) (by omega) (by omega), hl (998 + 5 * j + 1) (by omega) (by omega), hl (998 + 5 * j + 2) (by omega) (by omega), hl (998 + 5 * j + 3) (by omega) (by omega), hl (998 + 5 * j + 4) (by omega) (by omega)]
      exact l1 j j0 (by omega)
  · intro s' g0 g1
    rw [h216] at g1
    have e : (a' 997).toNat = (a 997).toNat + 1 := by omega
    rw [e]
    unfold zcnt
    have e5 : ((a 997).toNat : Int) = a 997 := by omega
    rw [zcnt_cong (f := fun j => a' (998 + 5 * j)) (g := fun j => a (998 + 5 * j)) (fun j j0 j1 => hl _ (by omega) (by omega)), l2 s' g0 g1, e5]
    show _ + (if a' (998 + 5 * a 997) = s' then 1 else 0) = _
    rw [e0]
    by_cases q : s' = s
    · subst q
      rw [if_pos rfl, hT]
    · rw [if_neg (fun w => q w.symm), ht s' g0 g1 q]
      omega
  · intro s' g0 g1
    rw [h216] at g1
    by_cases q : s' = s
    · subst q
      omega
    · rw [ht s' g0 g1 q]
      exact t s' g0 g1
/-- frames: all that one saying's hour may change -/
def cfS (i k : Int) (h h' : zHC) : Prop := h 66 i 0 ≤ h' 66 i 0 ∧ ∀ r n j, ¬ (n = i ∧ ((r = 66 ∧ j = 0) ∨ (r = 71 ∧ 5 * h 66 i 0 ≤ j) ∨ ((r = 68 ∨ r = 69) ∧ k * 6 ≤ j ∧ j < k * 6 + 6) ∨ (r = 70 ∧ k * 8 ≤ j ∧ j < k * 8 + 8) ∨ (r = 72 ∧ j = k))) → h' r n j = h r n j
def mfS (s : Int) (m m' : zHM) : Prop := m 14 997 ≤ m' 14 997 ∧ m' 14 997 ≤ 180 ∧ (∀ j, 0 ≤ j → m 14 997 ≤ j → j < m' 14 997 → m' 14 (998 + 5 * j + 2) = m 14 209) ∧ ∀ r j, ¬ (r = 14 ∧ (j = 997 ∨ (998 ≤ j ∧ 998 + 5 * m 14 997 ≤ j ∧ j < 1898) ∨ (457 + 18 * s ≤ j ∧ j < 475 + 18 * s) ∨ (217 + 8 * s ≤ j ∧ j < 225 + 8 * s))) → m' r j = m r j
theorem cfS_trans {i k : Int} {h h' h'' : zHC} (h1 : cfS i k h h') (h2 : cfS i k h' h'') : cfS i k h h'' := by
  refine ⟨Int.le_trans h1.1 h2.1, fun r n j hne => ?_⟩
  have := h1.1
  rw [h2.2 r n j (by omega), h1.2 r n j hne]
theorem mfS_trans {s : Int} {m m' m'' : zHM} (s0 : 0 ≤ s) (s1 : s < 30) (h1 : mfS s m m') (h2 : mfS s m' m'') : mfS s m m'' := by
  have l1 := h1.1
  have l3 := h1.2.1
  refine ⟨Int.le_trans h1.1 h2.1, h2.2.1, fun j gz g0 g1 => ?_, fun r j hne => ?_⟩
  · by_cases q : j < m' 14 997
    · rw [h2.2.2.2 _ _ (by omega)]
      exact h1.2.2.1 j gz g0 q
    · rw [h2.2.2.1 j gz (by omega) g1]
      exact h1.2.2.2 _ _ (by omega)
  · rw [h2.2.2.2 r j (by omega), h1.2.2.2 r j hne]
theorem S_sound {h : zHC} {m : zHM} {i v k s H C c f : Int} (k0 : 0 ≤ k) (k1 : k < 30) (s0 : 0 ≤ s) (s1 : s < m 14 216) (s2 : m 14 216 ≤ 30) (c0 : 0 ≤ c) (c1 : c < m 14 2) (f0 : 1 ≤ f) (f1 : f ≤ 9) (H0 : 0 ≤ H) (H1 : H ≤ 400) (hV : VN h v (m 14)) (hVC : VC h v (m 14)) (hW : VW (m 14)) (hH : h 64 i 0 = H) (hHm : m 14 209 = H) (hP : RP h i (m 14)) (hE0 : 0 ≤ h 66 i 0) (hE1 : h 66 i 0 < 180) (hF : CF h i k (m 14) s) (hD : CD h i k (m 14) s) (hS : SD (m 14) s H C) (hSF : SF (m 14) s) (hT : m 14 (217 + 8 * s + 6) < m 14 (457 + 18 * s + 3 * 0 + 2) + m 14 (457 + 18 * s + 3 * 1 + 2) + m 14 (457 + 18 * s + 3 * 2 + 2) + m 14 (457 + 18 * s + 3 * 3 + 2) + m 14 (457 + 18 * s + 3 * 4 + 2) + m 14 (457 + 18 * s + 3 * 5 + 2)) (hT6 : m 14 (217 + 8 * s + 6) < 6) (hQ : EQ (m 14)) : ∃ h' m', F92 i v k c f h = some h' ∧ F239 s c f m = some m' ∧ CF h' i k (m' 14) s ∧ CD h' i k (m' 14) s ∧ SD (m' 14) s H C ∧ SF (m' 14) s ∧ EQ (m' 14) ∧ cfS i k h h' ∧ mfS s m m' ∧ h' 66 i 0 = h 66 i 0 + 1 ∧ m' 14 997 = m 14 997 + 1 ∧ (∀ r j, r = 14 → (j = 457 + 18 * s + 3 * 0 + 2 ∨ j = 457 + 18 * s + 3 * 1 + 2 ∨ j = 457 + 18 * s + 3 * 2 + 2 ∨ j = 457 + 18 * s + 3 * 3 + 2 ∨ j = 457 + 18 * s + 3 * 4 + 2 ∨ j = 457 + 18 * s + 3 * 5 + 2) → m' r j = m r j) ∧ m' 14 (217 + 8 * s + 6) = m 14 (217 + 8 * s + 6) + 1 ∧ (k = s → RL h i (m 14) → RL h' i (m' 14)) := by
  obtain ⟨v0, v1, v2, v3, v4, v5, v6⟩ := hV
  obtain ⟨⟨w0, w1, w2, w3, w4, w5, w6, w7, w8, w9, w10, w11, w12, w13⟩, hWC, hWP, hWM, hWS⟩ := hW
  obtain ⟨x1, x2, x3, x4, x5, x6⟩ := hWC c c0 c1
  obtain ⟨N0, N1⟩ := EQ_lt hQ s0 s1 s2 hT6
  obtain ⟨r, hr1, hr2, hr3, hr4⟩ := L93 (h := h) (m := m) (v := v) (i := i) (c := c) (f := f) v3 w6 w7 c0 (by omega) (hVC c c0 c1).1 x1 x2 hP zFu zFu 0 0 (by omega) (by omega) (by have := zFu_big; omega) (by have := zFu_big; omega) (by decide) (by decide)
  obtain ⟨h1, p1, p2, p3, p4, p5, p6, p7, p8, p9, p10, p11⟩ := F92_pre (h := h) (i := i) (v := v) (k := k) (c := c) (f := f) (r := r) (E := h 66 i 0) hr1 rfl hE0 hE1 k0 k1 f0
  obtain ⟨m1, q1, q2, q3, q4, q5, q6, q7, q8, q9, q10, q11⟩ := F239_pre (m := m) (s := s) (c := c) (f := f) (r := r) (N := m 14 997) hr2 rfl N0 N1 s0 (by omega)
  obtain ⟨t1, t2, t3, t4, t5, t6, t7, t8⟩ := hSF
  have g6 : wadd (m 14 (217 + 8 * s + 6)) 1 = m 14 (217 + 8 * s + 6) + 1 := wadd_eq (by omega) (by omega)
  have cf : CF h1 i k (m1 14) s := by
    intro w g0 g1
    have e5 := hF 5 (by decide) (by decide)
    have e6 := hF 6 (by decide) (by decide)
    have e7 := hF 7 (by decide) (by decide)
    by_cases u5 : w = 5
    · subst u5; rw [p9, q9, e5]
    by_cases u6 : w = 6
    · subst u6; rw [p10, q10, e6]
    by_cases u7 : w = 7
    · subst u7; rw [p11, q11, e7]
    rw [p2 _ _ _ (by omega), q2 _ _ (by omega)]
    exact hF w g0 g1
  have cd : CD h1 i k (m1 14) s := by
    intro c' g0 g1
    rw [p2 _ _ _ (by omega), p2 _ _ _ (by omega), q2 _ _ (by omega), q2 _ _ (by omega)]
    exact hD c' g0 g1
  have sd : SD (m1 14) s H C := by
    intro c' g0 g1
    rw [q2 _ _ (by omega), q2 _ _ (by omega), q2 _ _ (by omega), q2 _ 2 (by omega)]
    exact hS c' g0 g1
  have vc1 : VC h1 v (m1 14) := by
    intro c' g0 g1
    rw [q2 _ 2 (by omega)] at g1
    rw [p2 _ _ _ (by omega), p2 _ _ _ (by omega), p2 _ _ _ (by omega), q2 _ _ (by omega), q2 _ _ (by omega), q2 _ _ (by omega)]
    exact hVC c' g0 g1
  have wc1 : WC (m1 14) := by
    intro c' g0 g1
    rw [q2 _ 2 (by omega)] at g1
    rw [q2 _ _ (by omega), q2 _ _ (by omega), q2 _ _ (by omega)]
    exact hWC c' g0 g1
  have n2 : m1 14 2 = m 14 2 := q2 _ _ (by omega)
  obtain ⟨h2, m2, z1, z2, z3, z4, z5, z6⟩ := S_offers (h := h1) (m := m1) (i := i) (v := v) (k := k) (s := s) (H := H) (C := C) (c := c) (f := f) k0 k1 s0 (by omega) c0 (by omega) f0 f1 H0 (by omega) (by rw [p2 _ _ _ (by omega), n2]; exact v2) (by omega) vc1 wc1 (by rw [p2 _ _ _ (by omega)]; exact hH) (by rw [q2 _ _ (by omega)]; exact hHm) cd sd zFu zFu 0 h1 m1 (by omega) (by omega) (by have := zFu_big; omega) (by have := zFu_big; omega) cd sd (fun _ _ _ _ => rfl) (fun _ _ _ => rfl)
  have f997 : m2 14 997 = m 14 997 + 1 := by rw [z6 _ _ (by omega), q3]
  have c66 : h2 66 i 0 = h 66 i 0 + 1 := by rw [z5 _ _ _ (by omega), p3]
  refine ⟨h2, m2, p1.trans z1, q1.trans z2, ?_, z3, z4, ?_, ?_, ?_, ?_, c66, f997, ?_, ?_, ?_⟩
  · intro w g0 g1
    rw [z5 _ _ _ (by omega), z6 _ _ (by omega)]
    exact cf w g0 g1
  · unfold SF
    rw [z6 _ (217 + 8 * s) (by omega), z6 _ (217 + 8 * s + 1) (by omega), z6 _ (217 + 8 * s + 2) (by omega), z6 _ (217 + 8 * s + 3) (by omega), z6 _ (217 + 8 * s + 4) (by omega), z6 _ (217 + 8 * s + 5) (by omega), z6 _ (217 + 8 * s + 6) (by omega), z6 _ (217 + 8 * s + 7) (by omega), z6 _ (457 + 18 * s + 3 * 0 + 2) (by omega), z6 _ (457 + 18 * s + 3 * 1 + 2) (by omega), z6 _ (457 + 18 * s + 3 * 2 + 2) (by omega), z6 _ (457 + 18 * s + 3 * 3 + 2) (by omega), z6 _ (457 + 18 * s + 3 * 4 + 2) (by omega), z6 _ (457 + 18 * s + 3 * 5 + 2) (by omega)]
    rw [q2 _ (217 + 8 * s) (by omega), q2 _ (217 + 8 * s + 1) (by omega), q2 _ (217 + 8 * s + 2) (by omega), q2 _ (217 + 8 * s + 3) (by omega), q2 _ (217 + 8 * s + 4) (by omega), q9, q10, q11, g6, q2 _ (457 + 18 * s + 3 * 0 + 2) (by omega), q2 _ (457 + 18 * s + 3 * 1 + 2) (by omega), q2 _ (457 + 18 * s + 3 * 2 + 2) (by omega), q2 _ (457 + 18 * s + 3 * 3 + 2) (by omega), q2 _ (457 + 18 * s + 3 * 4 + 2) (by omega), q2 _ (457 + 18 * s + 3 * 5 + 2) (by omega)]
    refine ⟨t1, t2, t3, t4, t5, ?_, by omega, wor_rng t8.1 t8.2 hr3 hr4⟩
    split <;> omega
  · refine EQ_step (a := m 14) (s := s) (c := c) (H := H) (f := f) (r := r) (N := m 14 997) hQ rfl s0 s1 hT6 c0 c1 H0 H1 f0 f1 hr3 hr4 ?_ ?_ f997 ?_ ?_ ?_ ?_ ?_ ?_ ?_ ?_
    · rw [z6 _ _ (by omega), q2 _ _ (by omega)]
    · rw [z6 _ _ (by omega), q2 _ _ (by omega)]
    · rw [z6 _ _ (by omega), q4]
    · rw [z6 _ _ (by omega), q5]
    · rw [z6 _ _ (by omega), q6, hHm]
    · rw [z6 _ _ (by omega), q7]
    · rw [z6 _ _ (by omega), q8]
    · rw [z6 _ _ (by omega), q10, g6]
    · intro s' g0 g1 g2
      rw [z6 _ _ (by omega), q2 _ _ (by omega)]
    · intro j g0 g1
      rw [z6 _ _ (by omega), q2 _ _ (by omega)]
  · refine ⟨by omega, fun r' n j hne => ?_⟩
    rw [z5 r' n j (by omega), p2 r' n j (by omega)]
  · refine ⟨by omega, by omega, fun j gz g0 g1 => ?_, fun r' j hne => ?_⟩
    · have e : j = m 14 997 := by omega
      subst e
      rw [z6 _ _ (by omega), q6]
    · rw [z6 r' j (by omega), q2 r' j (by omega)]
  · intro r' j g0 g1
    subst g0
    rw [z6 _ j (by omega), q2 _ j (by omega)]
  · rw [z6 _ _ (by omega), q10, g6]
  · intro ks hL
    obtain ⟨l1, l2⟩ := hL
    subst ks
    refine ⟨by omega, fun j j0 j1 w g0 g1 => ?_⟩
    rw [f997] at j1
    rw [z5 _ _ _ (by omega), z6 _ _ (by omega)]
    by_cases e : j = m 14 997
    · subst e
      rw [l1] at p4 p5 p6 p7 p8
      have o : w = 0 ∨ w = 1 ∨ w = 2 ∨ w = 3 ∨ w = 4 := by omega
      rcases o with o | o | o | o | o
      · subst o; rw [p4, Int.add_zero, q4]
      · subst o; rw [p5, q5]
      · subst o; rw [p6, q6, hH, hHm]
      · subst o; rw [p7, q7]
      · subst o; rw [p8, q8]
    · rw [p2 _ _ _ (by omega), q2 _ _ (by omega)]
      exact l2 j j0 (by omega) w g0 g1
