section
/-! Pieces: a whole saying. -/
theorem zQ_next {h : zHC} {m : zHM} {T H C R : Int} (q : zQ h m T H C R) (hn : 0 ≤ C → C < m 14 2 → ¬ m 30 C = H) : zQ h m T H (C + 1) R := by
  obtain ⟨q1, q2, q3, q4, q5, q6, q7⟩ := q
  refine ⟨q1, q2, fun c c0 c1 => ?_, q4, q5, q6, q7⟩
  rw [q3 c c0 c1]
  by_cases v : ¬ m 30 c = -1 ∧ (m 30 c < H ∨ m 30 c = H ∧ c < C)
  · rw [if_pos v, if_pos (by omega)]
  · rw [if_neg v, if_neg]
    intro z
    by_cases w : c = C
    · subst w
      exact hn c0 c1 (by omega)
    · omega
theorem zQ_end {h : zHC} {m : zHM} {T H R : Int} (q : zQ h m T H (m 14 2) R) (n6 : m 14 2 ≤ 6) : zQ h m T H 6 R := by
  obtain ⟨q1, q2, q3, q4, q5, q6, q7⟩ := q
  refine ⟨q1, q2, fun c c0 c1 => ?_, q4, q5, q6, q7⟩
  rw [q3 c c0 c1]
  by_cases v : ¬ m 30 c = -1 ∧ (m 30 c < H ∨ m 30 c = H ∧ c < m 14 2)
  · rw [if_pos v, if_pos (by omega)]
  · rw [if_neg v, if_neg (by omega)]
/-- on to the next hour in which one is given back -/
theorem zQ_leap {h : zHC} {m : zHM} {T H H' R : Int} (q : zQ h m T H 6 R) (n6 : m 14 2 ≤ 6) (hH : H < H') (hs : ∀ c, 0 ≤ c → c < m 14 2 → H < m 30 c → H' ≤ m 30 c) : zQ h m T H' 0 R := by
  obtain ⟨q1, q2, q3, q4, q5, q6, q7⟩ := q
  refine ⟨q1, q2, fun c c0 c1 => ?_, q4, q5, q6, q7⟩
  rw [q3 c c0 c1]
  have := hs c c0 c1
  by_cases v : ¬ m 30 c = -1 ∧ (m 30 c < H ∨ m 30 c = H ∧ c < 6)
  · rw [if_pos v, if_pos (by omega)]
  · rw [if_neg v, if_neg (by omega)]
theorem zQ_0 {h : zHC} {m : zHM} {T C : Int} (q : zQ h m T T 0 0) : zQ h m T T C 0 := by
  obtain ⟨q1, q2, q3, q4, q5, q6, q7⟩ := q
  refine ⟨q1, q2, fun c c0 c1 => ?_, q4, q5, q6, q7⟩
  have := (q1 c c0 c1).2
  rw [q3 c c0 c1, if_neg (by omega), if_neg (by omega)]
theorem Q_give {T H sn : Int} (T0 : 0 ≤ T) (T1 : T ≤ 200) (H0 : T ≤ H) (H1 : H ≤ T + 240) : ∀ (N P : Nat) (C R : Int) (h : zHC) (m : zHM), RVC h m → zQ h m T H C R → h 64 1 0 = H → F208 H m = some sn → 0 ≤ sn → sn ≤ 9 → 0 ≤ C → C ≤ m 14 2 → m 14 2 - C < N → 6 - R < P → ∃ h' m' R' P', F90_0 N 1 0 0 0 sn C h = some h' ∧ F264_2 P (m 14 2) R m = F264_2 P' (m 14 2) R' m' ∧ (P' : Int) + R' = P + R ∧ zQ h' m' T H 6 R' ∧ zCS h' H ∧ R ≤ R' ∧ ((∃ c, C ≤ c ∧ c < m 14 2 ∧ m 30 c = H) → R + 1 ≤ R') ∧ h' 64 1 0 = H ∧ (∀ r n j, ¬ (64 ≤ r ∧ r ≤ 72 ∧ n = 1) → h' r n j = h r n j) ∧ (∀ r j, ¬ (30 ≤ r ∧ r ≤ 33) → m' r j = m r j) := by
  intro N
  induction N with
  | zero => intro P C R h m hV q e64 hsn t0 t1 C0 C1 g; omega
  | succ N ih =>
    intro P C R h m hV q e64 hsn t0 t1 C0 C1 g gP
    have big := zFu_big
    have w6 := hV.1.2.2.2.2.2.2.2.1
    unfold WN at w6
    have eN : h 578 0 0 = m 14 2 := hV.1.1.2.2.1
    have q5 := q.2.2.2.2.1
    rw [F90_0, eN]
    by_cases u : m 14 2 ≤ C
    · have eC : C = m 14 2 := by omega
      subst eC
      obtain ⟨h', a1, a2, a3⟩ := Q_soon q T1 e64
      rw [if_pos u, a1, Option.bind_some]
      exact ⟨h', m, R, P, rfl, rfl, by omega, zQ_h (zQ_end q (by omega)) (fun r j g => a3 r 1 j (by omega)), a2, Int.le_refl R, fun ⟨c, c0, c1, _⟩ => by omega, by rw [a3 64 1 0 (by omega)]; exact e64, fun r n j g => a3 r n j (by omega), fun _ _ _ => rfl⟩
    · have C2 : C < m 14 2 := by omega
      rw [if_neg u, wmul_eq (x := 0) (y := 6) (by decide) (by decide), show (0 : Int) * 6 = 0 by decide, wadd_eq (x := 0) (y := C) (by omega) (by omega), Int.zero_add, zG_t (show 0 ≤ C ∧ C < 180 by omega), (q.1 C C0 C2).1, e64]
      unfold F90_1
      rw [wadd_eq (x := C) (y := 1) (by omega) (by omega)]
      by_cases d : m 30 C = H
      · have g0 : m 32 C = 0 := by rw [q.2.2.1 C C0 C2, if_neg (by omega)]
        have Rn := (zQ_R (by omega) q).2 C C0 C2 g0
        have wC := hV.1.2.2.2.2.2.2.2.2.1 C C0 C2
        have ev := (q.1 C C0 C2).2
        rw [if_neg (show ¬ ¬ m 30 C = H from fun z => z d), zG_t (show 0 ≤ C ∧ C < 180 by omega), zG_t (show 0 ≤ C ∧ C < 6 by omega), (hV.1.2.1 C C0 C2).2.2, wsub_eq (x := m 14 (7 + 3 * C + 2)) (by omega) (by omega), wsub_eq (y := 0) (by omega) (by omega), Int.sub_zero]
        have e69 : h 69 1 C = m 31 C := by
          rcases ev with z | z
          · omega
          · exact z.2.2.1
        rw [e69]
        have e31 : 1 ≤ m 31 C ∧ m 31 C ≤ 9 := by omega
        obtain ⟨V, eV⟩ : ∃ V, (if m 14 (7 + 3 * C + 2) - sn ≤ m 31 C then m 14 (7 + 3 * C + 2) - sn else m 31 C) = V := ⟨_, rfl⟩
        have eV2 : (if m 14 (7 + 3 * C + 2) - sn < m 31 C then m 14 (7 + 3 * C + 2) - sn else m 31 C) = V := by
          rw [← eV]
          by_cases z : m 14 (7 + 3 * C + 2) - sn < m 31 C
          · rw [if_pos z, if_pos (by omega)]
          · rw [if_neg z]
            by_cases z2 : m 14 (7 + 3 * C + 2) - sn ≤ m 31 C
            · rw [if_pos z2]; omega
            · rw [if_neg z2]
        have V9 : V ≤ 9 := by
          rw [← eV]
          by_cases z2 : m 14 (7 + 3 * C + 2) - sn ≤ m 31 C
          · rw [if_pos z2]; omega
          · rw [if_neg z2]; omega
        rw [eV2]
        obtain ⟨P0, eP⟩ : ∃ P0, P = P0 + 1 := ⟨P - 1, by omega⟩
        subst eP
        have y14 : ∀ j, (mset m 32 C 1) 14 j = m 14 j := fun j => mset_ne (by omega)
        have f207 : F207 C (mset m 32 C 1) = some (m 14 (7 + 3 * C + 2)) := by rw [F207_s C0 (by omega), y14]
        have f208 : F208 H (mset m 32 C 1) = some sn := by
          rw [← hsn]
          obtain ⟨x, x1, x2, -⟩ := L91 (h := h) (m := m) (v := 0) (H := H) hV.1.1.2.2.2.2.2.2 (by omega) (by omega) hV.1.2.2.2.2.2.1 hV.1.2.2.2.2.2.2.2.2.2.2.2
          have VM : RVC h (mset m 32 C 1) := RVC_keep (fun _ _ _ => rfl) (fun j _ _ => y14 j) (fun j => mset_ne (by omega)) hV
          obtain ⟨x', x3, x4, -⟩ := L91 (h := h) (m := mset m 32 C 1) (v := 0) (H := H) VM.1.1.2.2.2.2.2.2 (by rw [y14]; omega) (by rw [y14]; omega) VM.1.2.2.2.2.2.1 VM.1.2.2.2.2.2.2.2.2.2.2.2
          rw [x4, x2]
          exact x3.symm.trans x1
        have FF := Q_first (k0 := F264_2 P0) (v5 := R) q (by omega) C0 C2 (by omega) d f207 f208 (by omega) (by omega) t0 t1 zFu (-1) 0 (by decide) (by omega) (by omega) (Or.inl ⟨C0, Or.inl rfl⟩)
        rw [eV] at FF
        obtain ⟨h1, m1, a1, a2, a3, a4, a5⟩ := Q_sound (k0 := F264_2 P0) (V := V) (v5 := R) hV q T0 T1 C0 C2 H0 H1 d e64 V9 (by omega) (by omega)
        have eM : F264_2 (P0 + 1) (m 14 2) R m = F264_2 P0 (m 14 2) (R + 1) m1 := by
          rw [F264_2, if_neg (show ¬ m 14 2 ≤ R by omega), FF, a2]
        rw [a1, Option.bind_some, eM]
        have V1 : RVC h1 m1 := zQ_RVC (fun r n j g => a4 r n j (by omega)) (fun r j g => a5 r j (by omega)) hV
        have z14 : m1 14 2 = m 14 2 := a5 14 2 (by omega)
        have f208' : F208 H m1 = some sn := by
          obtain ⟨x, x1, x2, -⟩ := L91 (h := h) (m := m) (v := 0) (H := H) hV.1.1.2.2.2.2.2.2 (by omega) (by omega) hV.1.2.2.2.2.2.1 hV.1.2.2.2.2.2.2.2.2.2.2.2
          have VM : RVC h m1 := RVC_keep (fun _ _ _ => rfl) (fun j _ _ => a5 14 j (by omega)) (fun j => a5 19 j (by omega)) hV
          obtain ⟨x', x3, x4, -⟩ := L91 (h := h) (m := m1) (v := 0) (H := H) VM.1.1.2.2.2.2.2.2 (by rw [a5 14 6 (by omega)]; omega) (by rw [a5 14 6 (by omega)]; omega) VM.1.2.2.2.2.2.1 VM.1.2.2.2.2.2.2.2.2.2.2.2
          rw [← hsn, x4, x2]
          exact x3.symm.trans x1
        have I := ih P0 (C + 1) (R + 1) h1 m1 V1 a3 (by rw [a4 64 1 0 (by omega)]; exact e64) f208' t0 t1 (by omega) (by rw [z14]; omega) (by rw [z14]; omega) (by omega)
        rw [z14] at I
        obtain ⟨h2, m2, R2, P2, b1, b2, b3, b4, b5, b6, b7, b8, b9, b10⟩ := I
        exact ⟨h2, m2, R2, P2, b1, b2, by omega, b4, b5, by omega, fun _ => b6, b8, fun r n j g => by rw [b9 r n j g, a4 r n j (by omega)], fun r j g => by rw [b10 r j g, a5 r j g]⟩
      · rw [if_pos d]
        obtain ⟨h2, m2, R2, P2, b1, b2, b3, b4, b5, b6, b7, b8, b9, b10⟩ := ih P (C + 1) R h m hV (zQ_next q (fun _ _ => d)) e64 hsn t0 t1 (by omega) (by omega) (by omega) gP
        refine ⟨h2, m2, R2, P2, b1, b2, b3, b4, b5, b6, fun ⟨c, c0, c1, c2⟩ => b7 ⟨c, ?_, c1, c2⟩, b8, b9, b10⟩
        by_cases w : c = C
        · subst w; exact absurd c2 d
        · omega
theorem Q_run {T : Int} (T0 : 0 ≤ T) (T1 : T ≤ 200) : ∀ (N P : Nat) (v8 R H : Int) (h : zHC) (m : zHM), RVC h m → zQ h m T H 6 R → zCS h H → h 64 1 0 = H → T ≤ H → H ≤ T + 240 → 0 ≤ v8 → v8 ≤ R → 10 - v8 < N → 6 - R < P → ∃ h' m' R' H', F123_1 N 0 1 0 1 v8 h = F123_2 1 h' ∧ F264_2 P (m 14 2) R m = some m' ∧ zQ h' m' T H' 6 R' ∧ (∀ r n j, ¬ (64 ≤ r ∧ r ≤ 72 ∧ n = 1) → h' r n j = h r n j) ∧ (∀ r j, ¬ (30 ≤ r ∧ r ≤ 33) → m' r j = m r j) := by
  intro N
  induction N with
  | zero =>
    intro P v8 R H h m hV q hS e64 H0 H1 v0 v1 g
    have w6 := hV.1.2.2.2.2.2.2.2.1
    unfold WN at w6
    have := (zQ_R (by omega) q).1
    omega
  | succ N ih =>
    intro P v8 R H h m hV q hS e64 H0 H1 v0 v1 g gP
    have big := zFu_big
    have w6 := hV.1.2.2.2.2.2.2.2.1
    unfold WN at w6
    have qR := zQ_R (by omega) q
    obtain ⟨P0, eP⟩ : ∃ P0, P = P0 + 1 := ⟨P - 1, by omega⟩
    subst eP
    have stop : (∀ c, 0 ≤ c → c < m 14 2 → m 32 c = 0 → m 30 c = -1) → F264_2 (P0 + 1) (m 14 2) R m = some m := by
      intro hn
      rw [F264_2]
      by_cases u : m 14 2 ≤ R
      · rw [if_pos u]
      · rw [if_neg u]
        exact Q_none (by omega) hn zFu 0 (by decide) (by omega) (by omega)
    rw [F123_1]
    by_cases u : 6 ≤ v8
    · rw [if_pos u]
      refine ⟨h, m, R, H, rfl, stop (fun c c0 c1 z => ?_), q, fun _ _ _ _ => rfl, fun _ _ _ => rfl⟩
      have := qR.2 c c0 c1 z
      omega
    · rw [if_neg u, if_neg (show ¬ (1 : Int) = 0 by decide)]
      unfold F124 F125
      rw [zG_t (show 0 ≤ (0 : Int) ∧ (0 : Int) < 30 by decide)]
      by_cases s : h 72 1 0 = 1000000
      · rw [if_pos s, Option.bind_some, if_neg (show ¬ ¬ (0 : Int) = 0 by decide), Option.bind_some]
        dsimp only
        obtain ⟨N0, eN⟩ : ∃ N0, N = N0 + 1 := ⟨N - 1, by omega⟩
        subst eN
        have e : F123_1 (N0 + 1) 0 1 0 0 (wadd v8 1) h = F123_2 1 h := by
          rw [F123_1]
          by_cases z : 6 ≤ wadd v8 1
          · rw [if_pos z]
          · rw [if_neg z, if_pos rfl]
        rw [e]
        refine ⟨h, m, R, H, rfl, stop (fun c c0 c1 z => ?_), q, fun _ _ _ _ => rfl, fun _ _ _ => rfl⟩
        have z3 := q.2.2.1 c c0 c1
        have z1 := q.1 c c0 c1
        rw [z] at z3
        by_cases y : ¬ m 30 c = -1 ∧ (m 30 c < H ∨ m 30 c = H ∧ c < 6)
        · rw [if_pos y] at z3; omega
        · by_cases y2 : m 30 c = -1
          · exact y2
          · have := hS.1 c c0 (by omega) (by rw [z1.1]; omega)
            rw [z1.1] at this
            omega
      · obtain ⟨c, c0, c1, c2, c3⟩ : ∃ c, 0 ≤ c ∧ c < 6 ∧ h 68 1 c = h 72 1 0 ∧ H < h 72 1 0 := by
          rcases hS.2 with z | z
          · exact absurd z s
          · exact z
        rw [if_neg s, Option.bind_some, if_pos (show ¬ (1 : Int) = 0 by decide), zG_t (show 0 ≤ (0 : Int) ∧ (0 : Int) < 30 by decide)]
        obtain ⟨H', eH⟩ : ∃ H', h 72 1 0 = H' := ⟨_, rfl⟩
        rw [eH]
        rw [eH] at c2 c3
        have cn : c < m 14 2 := by
          refine Int.not_le.mp (fun z => ?_)
          have := q.2.1 c z c1
          omega
        have dc := q.1 c c0 cn
        have fh : ∀ r n j, ¬ (r = 64 ∧ n = 1 ∧ j = 0) → (hset h 64 1 0 H') r n j = h r n j := fun r n j g => hset_ne g
        have V1 : RVC (hset h 64 1 0 H') m := zQ_RVC (fun r n j g => fh r n j (by omega)) (fun _ _ _ => rfl) hV
        obtain ⟨sn, x1, x2, x3, x4⟩ := L91 (h := hset h 64 1 0 H') (m := m) (v := 0) (H := H') V1.1.1.2.2.2.2.2.2 (by omega) (by omega) V1.1.2.2.2.2.2.1 V1.1.2.2.2.2.2.2.2.2.2.2.2
        have q' : zQ (hset h 64 1 0 H') m T H' 0 R := zQ_h (zQ_leap q (by omega) c3 (fun k k0 k1 k2 => by
          have := hS.1 k k0 (by omega) (by rw [(q.1 k k0 k1).1]; exact k2)
          rw [(q.1 k k0 k1).1, eH] at this
          exact this)) (fun r j g => fh r 1 j (by omega))
        obtain ⟨h2, m2, R2, P2, b1, b2, b3, b4, b5, b6, b7, b8, b9, b10⟩ := Q_give (H := H') (sn := sn) T0 T1 (by omega) (by omega) zFu (P0 + 1) 0 R (hset h 64 1 0 H') m V1 q' hset_eq x2 x3 x4 (by decide) (by omega) (by omega) gP
        unfold F90
        rw [hset_eq, x1, Option.bind_some, b1, Option.bind_some, Option.bind_some, b2, wadd_eq (x := v8) (by omega) (by omega)]
        have inc := b7 ⟨c, c0, cn, by omega⟩
        have z14 : m2 14 2 = m 14 2 := b10 14 2 (by omega)
        have I := ih P2 (v8 + 1) R2 H' h2 m2 (zQ_RVC b9 b10 V1) b4 b5 b8 (by omega) (by omega) (by omega) (by omega) (by omega) (by omega)
        rw [z14] at I
        obtain ⟨h3, m3, R3, H3, d1, d2, d3, d4, d5⟩ := I
        exact ⟨h3, m3, R3, H3, d1, d2, d3, fun r n j g => by rw [d4 r n j g, b9 r n j g, fh r n j (by omega)], fun r j g => by rw [d5 r j g, b10 r j g]⟩
theorem F264_0s {x T l : Int} {m0 : zHM} (n6 : m0 14 2 ≤ 6) : ∀ (N : Nat) (o : Int) (m : zHM), 0 ≤ o → o ≤ m0 14 2 → m0 14 2 - o < N → (∀ c, 0 ≤ c → c < o → m 30 c = -1 ∧ m 32 c = 0 ∧ m 33 c = 0) → (∀ r j, ¬ (r = 30 ∨ r = 32 ∨ r = 33) → m r j = m0 r j) → ∃ m', F264_0 N x T l (m0 14 2) o m = F264_1 zFu x T l (m0 14 2) 0 m' ∧ (∀ c, 0 ≤ c → c < m0 14 2 → m' 30 c = -1 ∧ m' 32 c = 0 ∧ m' 33 c = 0) ∧ (∀ r j, ¬ (r = 30 ∨ r = 32 ∨ r = 33) → m' r j = m0 r j) := by
  intro N
  induction N with
  | zero => intro o m o0 o1 g; omega
  | succ N ih =>
    intro o m o0 o1 g hf hk
    rw [F264_0]
    by_cases u : m0 14 2 ≤ o
    · rw [if_pos u]
      exact ⟨m, rfl, fun c c0 c1 => hf c c0 (by omega), hk⟩
    · rw [if_neg u, zG_t (by omega), zG_t (by omega), zG_t (by omega), wadd_eq (x := o) (by omega) (by omega)]
      refine ih (o + 1) _ (by omega) (by omega) (by omega) (fun c c0 c1 => ?_) (fun r j g => by rw [mset_ne (by omega), mset_ne (by omega), mset_ne (by omega)]; exact hk r j g)
      by_cases w : c = o
      · subst w
        rw [mset_ne (by omega), mset_ne (by omega), mset_eq, mset_ne (by omega), mset_eq, mset_eq]
        exact ⟨rfl, rfl, rfl⟩
      · rw [mset_ne (by omega), mset_ne (by omega), mset_ne (by omega), mset_ne (by omega), mset_ne (by omega), mset_ne (by omega), mset_ne (by omega), mset_ne (by omega), mset_ne (by omega)]
        exact hf c c0 (by omega)
theorem Q_way {h : zHC} {m : zHM} {T x l : Int} (hV : RVC h m) (T0 : 0 ≤ T) (T1 : T ≤ 200) (x0 : 0 ≤ x) (x1 : x < 100) (l0 : 1 ≤ l) (l1 : l ≤ 9) : ∃ h' m' R H, F123 0 1 T x l h = F123_2 1 h' ∧ F264 x T l m = some m' ∧ zQ h' m' T H 6 R ∧ (∀ r n j, ¬ (64 ≤ r ∧ r ≤ 72 ∧ n = 1) → h' r n j = h r n j) ∧ (∀ r j, ¬ (30 ≤ r ∧ r ≤ 33) → m' r j = m r j) := by
  have big := zFu_big
  have w6 := hV.1.2.2.2.2.2.2.2.1
  unfold WN at w6
  unfold F123 F264
  obtain ⟨H, eH⟩ : ∃ H, hset (hset (hset h 64 1 0 T) 65 1 0 0) 66 1 0 0 = H := ⟨_, rfl⟩
  rw [eH]
  have fH : ∀ r n j, ¬ (64 ≤ r ∧ r ≤ 66 ∧ n = 1) → H r n j = h r n j := fun r n j g => by rw [← eH, hset_ne (by omega), hset_ne (by omega), hset_ne (by omega)]
  obtain ⟨h1, a1, a2, a3, a4, a5, a6, a7, a8, a9, a10, a11, a12⟩ := F79_pre (h := H) (i := 1) (v := 0) (p := 0) (x := x) (w := 1) (l := l) (k := 0) (by rw [← eH, hset_ne (by omega), hset_eq]) (by decide) (by decide)
  simp only [Int.zero_mul, Int.zero_add] at a11 a12
  obtain ⟨m1, b1, b2, b3⟩ := F264_0s (x := x) (T := T) (l := l) (m0 := m) (by omega) zFu 0 m (by decide) (by omega) (by omega) (fun c c0 c1 => by omega) (fun _ _ _ => rfl)
  have f1 : ∀ r n j, ¬ (64 ≤ r ∧ r ≤ 72 ∧ n = 1) → h1 r n j = h r n j := fun r n j g => by rw [a12 r n j (by omega), fH r n j (by omega)]
  have V1 : RVC h1 m1 := zQ_RVC f1 (fun r j g => b3 r j (by omega)) hV
  have n14 : m1 14 2 = m 14 2 := b3 14 2 (by omega)
  have e66 : h1 66 1 0 = 0 := by rw [a12 66 1 0 (by omega), ← eH, hset_eq]
  have e64 : h1 64 1 0 = T := by rw [a12 64 1 0 (by omega), ← eH, hset_ne (by omega), hset_ne (by omega), hset_eq]
  have q0 : zQ h1 m1 T T 0 0 := by
    refine ⟨fun c c0 c1 => ?_, fun c c0 c1 => a11 c (by omega) (by omega), fun c c0 c1 => ?_, fun c c0 c1 _ => (b2 c c0 (by omega)).2.2, ⟨by omega, by omega, ?_⟩, fun y z t t1 => ?_, fun c c0 c1 c2 => absurd (b2 c c0 (by omega)).1 c2⟩
    · rw [a11 c c0 (by omega), (b2 c c0 (by omega)).1]
      exact ⟨rfl, Or.inl rfl⟩
    · rw [(b2 c c0 (by omega)).2.1, (b2 c c0 (by omega)).1, if_neg (fun z => z.1 rfl)]
    · have e := zsum_cong (f := m1 32) (g := fun _ => 0) (n := (m1 14 2).toNat) (fun j j0 j1 => (b2 j j0 (by omega)).2.1)
      rw [e]
      have p : ∀ n : Nat, zsum (fun _ : Int => (0 : Int)) n = 0 := by
        intro n
        induction n with
        | zero => rfl
        | succ n ih => unfold zsum; rw [ih]; rfl
      exact (p _).symm
    · constructor
      · rintro ⟨j, j0, j1, -⟩
        omega
      · rintro ⟨y0, y1, y2, -⟩
        have := (b2 y y0 (by omega)).2.2
        omega
  have D := Q_dir T0 T1 x0 x1 l0 l1 zFu zFu 0 h1 m1 V1 q0 e64 (by decide) (by omega) (by omega) (by omega)
  rw [n14] at D
  obtain ⟨h2, m2, c1, c2, c3, c4, c5, c6⟩ := D
  rw [a1, c1, Option.bind_some, if_neg (show ¬ (0 : Int) = -1 by decide), b1, c2]
  unfold F123_0
  have n142 : m2 14 2 = m 14 2 := by rw [c6 14 2 (by omega)]; exact n14
  have Q := Q_run T0 T1 zFu zFu 0 0 T h2 m2 (zQ_RVC (fun r n j g => c5 r n j (by omega)) (fun r j g => c6 r j (by omega)) V1) (zQ_0 c3) c4 (by rw [c5 64 1 0 (by omega)]; exact e64) (Int.le_refl T) (by omega) (by decide) (by decide) (by omega) (by omega)
  rw [n142] at Q
  obtain ⟨h3, m3, R3, H3, d1, d2, d3, d4, d5⟩ := Q
  exact ⟨h3, m3, R3, H3, d1, d2, d3, fun r n j g => by rw [d4 r n j g, c5 r n j (by omega), f1 r n j g], fun r j g => by rw [d5 r j g, c6 r j (by omega), b3 r j (by omega)]⟩
end
section
/-! Pieces: what was heard held against what sounds; where one can begin. -/
theorem F126_s {h : zHC} {m : zHM} {T H C R k : Int} (q : zQ h m T H C R) (R6 : R ≤ 6) (hP : zPc h m) (k0 : 0 ≤ k) (k1 : k < m 34 0) : F126 1 k h = some (if m 33 (m 26 k) = m 28 k ∧ m 30 (m 26 k) = m 27 k then 1 else 0) := by
  have big := zFu_big
  obtain ⟨p1, p2, p3, p4⟩ := hP
  obtain ⟨e1, e2, e3, e4, e5, e6, e7, e8, e9⟩ := p4 k k0 k1
  have q5 := q.2.2.2.2.1
  have hQ := q.2.2.2.2.2.1 (m 26 k) (m 27 k) (m 28 k) e8
  have key : ∀ (n : Nat) (j : Int), 0 ≤ j → j ≤ h 66 1 0 → h 66 1 0 - j < n → (∀ i, 0 ≤ i → i < j → ¬ (h 71 1 (i * 5 + 1) = m 26 k ∧ h 71 1 (i * 5 + 2) = m 27 k ∧ h 71 1 (i * 5 + 3) = m 28 k)) → F126_0 h n 1 k j = some (if m 33 (m 26 k) = m 28 k ∧ m 30 (m 26 k) = m 27 k then 1 else 0) := by
    intro n
    induction n with
    | zero => intro j j0 j1 g; omega
    | succ n ih =>
      intro j j0 j1 g hn
      rw [F126_0]
      by_cases u : h 66 1 0 ≤ j
      · rw [if_pos u, if_neg]
        rintro ⟨w1, w2⟩
        obtain ⟨i, i0, i1, i2⟩ := hQ.mpr ⟨e2, e3, w1, w2⟩
        exact hn i i0 (by omega) i2
      · rw [if_neg u, F67_s j0 (by omega) (by decide) (by decide), F67_s j0 (by omega) (by decide) (by decide), F67_s j0 (by omega) (by decide) (by decide), Option.bind_some, e1, e4, e7, zG_t (show 0 ≤ k ∧ k < 6 by omega)]
        unfold F126_1
        rw [wadd_eq (x := j) (by omega) (by omega)]
        have next : ¬ (h 71 1 (j * 5 + 1) = m 26 k ∧ h 71 1 (j * 5 + 2) = m 27 k ∧ h 71 1 (j * 5 + 3) = m 28 k) → F126_0 h n 1 k (j + 1) = some (if m 33 (m 26 k) = m 28 k ∧ m 30 (m 26 k) = m 27 k then 1 else 0) := fun z => ih (j + 1) (by omega) (by omega) (by omega) (fun i i0 i1 => by
          by_cases w : i = j
          · subst w; exact z
          · exact hn i i0 (by omega))
        by_cases w1 : h 71 1 (j * 5 + 1) = m 26 k
        · rw [if_neg (show ¬ ¬ h 71 1 (j * 5 + 1) = m 26 k from fun z => z w1), Option.bind_some, zG_t (show 0 ≤ k ∧ k < 6 by omega)]
          by_cases w2 : h 71 1 (j * 5 + 2) = m 27 k
          · rw [if_neg (show ¬ ¬ h 71 1 (j * 5 + 2) = m 27 k from fun z => z w2), Option.bind_some, zG_t (show 0 ≤ k ∧ k < 6 by omega)]
            by_cases w3 : h 71 1 (j * 5 + 3) = m 28 k
            · rw [if_neg (show ¬ ¬ h 71 1 (j * 5 + 3) = m 28 k from fun z => z w3)]
              have r := hQ.mp ⟨j, j0, by omega, w1, w2, w3⟩
              rw [if_pos r.2.2]
            · rw [if_pos w3]
              exact next (fun z => w3 z.2.2)
          · rw [if_pos w2]
            exact next (fun z => w2 z.2.1)
        · rw [if_pos w1]
          exact next (fun z => w1 z.1)
  unfold F126
  exact key zFu 0 (by decide) q5.1 (by omega) (fun i i0 i1 => by omega)
theorem P_all {h : zHC} {m : zHM} {T H C R : Int} (q : zQ h m T H C R) (n6 : m 14 2 ≤ 6) (R6 : R ≤ 6) (hP : zPc h m) : ∃ b, F123_2 1 h = some (b, h) ∧ F266 m = some b ∧ (b = 0 ∨ b = 1) ∧ (b = 1 → ∀ i, 0 ≤ i → i < m 34 0 → m 33 (m 26 i) = m 28 i ∧ m 30 (m 26 i) = m 27 i) := by
  have big := zFu_big
  obtain ⟨p1, p2, p3, p4⟩ := id hP
  have key : ∀ (n n' : Nat) (k : Int), 0 ≤ k → k ≤ m 34 0 → m 34 0 - k < n → m 34 0 - k < n' → ∃ b, F123_3 n 1 k h = some (b, h) ∧ F266_0 m n' k = some b ∧ (b = 0 ∨ b = 1) ∧ (b = 1 → ∀ i, k ≤ i → i < m 34 0 → m 33 (m 26 i) = m 28 i ∧ m 30 (m 26 i) = m 27 i) := by
    intro n
    induction n with
    | zero => intro n' k k0 k1 g; omega
    | succ n ih =>
      intro n' k k0 k1 g g'
      cases n' with
      | zero => omega
      | succ n' =>
        rw [F123_3, F266_0, p1]
        by_cases u : m 34 0 ≤ k
        · rw [if_pos u, if_pos u]
          exact ⟨1, rfl, rfl, Or.inr rfl, fun _ i i0 i1 => by omega⟩
        · obtain ⟨e1, e2, e3, e4, e5, e6, e7, e8, e9⟩ := p4 k k0 (by omega)
          rw [if_neg u, if_neg u, F126_s q R6 hP k0 (by omega), Option.bind_some, zG_t (show 0 ≤ k ∧ k < 6 by omega), zG_t (show 0 ≤ m 26 k ∧ m 26 k < 6 by omega), zG_t (show 0 ≤ k ∧ k < 6 by omega), zG_t (show 0 ≤ k ∧ k < 6 by omega), zG_t (show 0 ≤ m 26 k ∧ m 26 k < 6 by omega), zG_t (show 0 ≤ k ∧ k < 6 by omega), wadd_eq (x := k) (by omega) (by omega)]
          by_cases w1 : m 33 (m 26 k) = m 28 k
          · rw [if_neg (show ¬ ¬ m 33 (m 26 k) = m 28 k from fun z => z w1)]
            by_cases w2 : m 30 (m 26 k) = m 27 k
            · rw [if_pos (show m 33 (m 26 k) = m 28 k ∧ m 30 (m 26 k) = m 27 k from ⟨w1, w2⟩), if_pos (show ¬ (1 : Int) = 0 by decide), if_pos w2]
              obtain ⟨b, b1, b2, b3, b4⟩ := ih n' (k + 1) (by omega) (by omega) (by omega) (by omega)
              refine ⟨b, b1, b2, b3, fun z i i0 i1 => ?_⟩
              by_cases y : i = k
              · subst y; exact ⟨w1, w2⟩
              · exact b4 z i (by omega) i1
            · rw [if_neg (show ¬ (m 33 (m 26 k) = m 28 k ∧ m 30 (m 26 k) = m 27 k) from fun z => w2 z.2), if_neg (show ¬ ¬ (0 : Int) = 0 by decide), if_neg w2]
              exact ⟨0, rfl, rfl, Or.inl rfl, fun z => by omega⟩
          · rw [if_pos w1, if_neg (show ¬ (m 33 (m 26 k) = m 28 k ∧ m 30 (m 26 k) = m 27 k) from fun z => w1 z.1), if_neg (show ¬ ¬ (0 : Int) = 0 by decide)]
            exact ⟨0, rfl, rfl, Or.inl rfl, fun z => by omega⟩
  unfold F123_2 F266
  obtain ⟨b, b1, b2, b3, b4⟩ := key zFu zFu 0 (by decide) (by omega) (by omega) (by omega)
  exact ⟨b, b1, b2, b3, b4⟩
def zCan (m : zHM) (c hrs : Int) : Prop := ∃ S : Nat, S < 2 ^ (m 14 2).toNat ∧ S.testBit c.toNat = true ∧ hrs = zDl m S
theorem F65_bit {S : Nat} {d : Int} (hS : S < 64) (d0 : 0 ≤ d) (d1 : d < 6) : F65 (S : Int) d = some (if S.testBit d.toNat = true then 1 else 0) := by
  have k : (List.range 64).all (fun a => (List.range 6).all (fun b => decide (F65 (a : Int) (b : Int) = some (if a.testBit b = true then 1 else 0)))) = true := by decide +kernel
  have e := of_decide_eq_true (List.all_eq_true.mp (List.all_eq_true.mp k S (List.mem_range.mpr hS)) d.toNat (List.mem_range.mpr (by omega)))
  rw [show ((d.toNat : Nat) : Int) = d by omega] at e
  exact e
theorem wshl_2 {n : Int} (n0 : 0 ≤ n) (n6 : n ≤ 6) : wshl 1 n = ((2 ^ n.toNat : Nat) : Int) := by
  have k : (List.range 7).all (fun a => decide (wshl 1 (a : Int) = ((2 ^ a : Nat) : Int))) = true := by decide +kernel
  have e := of_decide_eq_true (List.all_eq_true.mp k n.toNat (List.mem_range.mpr (by omega)))
  rw [show ((n.toNat : Nat) : Int) = n by omega] at e
  exact e
theorem two_64 {n : Nat} (h : n ≤ 6) : 2 ^ n ≤ 64 := by
  have : 2 ^ n ≤ 2 ^ 6 := Nat.pow_le_pow_right (by decide) h
  exact this
theorem F122_s {h : zHC} {m : zHM} {c hrs : Int} (hV : RVC h m) (c0 : 0 ≤ c) (c1 : c < m 14 2) : ∃ r, F122 0 c hrs h = some r ∧ (r = 0 ∨ r = 1) ∧ (r = 1 ↔ zCan m c hrs) := by
  have big := zFu_big
  have w6 := hV.1.2.2.2.2.2.2.2.1
  unfold WN at w6
  have hW := hV.1.2.2.2.2.2.2.2.2.1
  have eN : h 578 0 0 = m 14 2 := hV.1.1.2.2.1
  have p64 := two_64 (n := (m 14 2).toNat) (by omega)
  have inner : ∀ (k0 : Int → Int → Int → Int → Option Int) (S : Nat), S < 2 ^ (m 14 2).toNat → ∀ (n : Nat) (o : Nat), (o : Int) ≤ m 14 2 → m 14 2 - o < n → F122_1 k0 h n 0 c hrs (S : Int) (zsum (fun d => if S.testBit d.toNat = true then m 14 (7 + 3 * d + 1) else 0) o) (o : Int) = if hrs = zDl m S ∧ S.testBit c.toNat = true then some 1 else k0 0 c hrs ((S : Int) + 1) := by
    intro k0 S hS n
    induction n with
    | zero => intro o o1 g; omega
    | succ n ih =>
      intro o o1 g
      have sm : ∀ j : Int, 0 ≤ j → j < o → (fun d => if S.testBit d.toNat = true then m 14 (7 + 3 * d + 1) else 0) j ≤ 40 := fun j j0 j1 => by
        have w := hW j j0 (by omega)
        show (if _ then _ else _) ≤ (40 : Int)
        split <;> omega
      have s1 := zsum_le (n := o) (b := 40) sm
      have s0 : ∀ (f : Int → Int) (n : Nat), (∀ j : Int, 0 ≤ j → j < n → 0 ≤ f j) → 0 ≤ zsum f n := by
        intro f n
        induction n with
        | zero => intro _; exact Int.le_refl 0
        | succ n ih =>
          intro hf
          unfold zsum
          have := ih (fun j j0 j1 => hf j j0 (by omega))
          have := hf n (by omega) (by omega)
          omega
      have s2 := s0 (fun d => if S.testBit d.toNat = true then m 14 (7 + 3 * d + 1) else 0) o (fun j j0 j1 => by
        have w := hW j j0 (by omega)
        show (0 : Int) ≤ (if _ then _ else _)
        split <;> omega)
      rw [F122_1, eN]
      unfold F122_2 F122_3
      by_cases u : m 14 2 ≤ o
      · have e : (o : Int) = m 14 2 := by omega
        have e2 : o = (m 14 2).toNat := by omega
        rw [if_pos u, wadd_eq (x := (S : Int)) (by omega) (by omega), F65_bit (by omega) c0 (by omega), Option.bind_some]
        have ez : zsum (fun d => if S.testBit d.toNat = true then m 14 (7 + 3 * d + 1) else 0) o = zDl m S := by
          unfold zDl
          rw [e2]
        rw [ez]
        by_cases v : zDl m S = hrs
        · rw [if_neg (show ¬ ¬ zDl m S = hrs from fun z => z v)]
          by_cases w : S.testBit c.toNat = true
          · rw [if_pos w, if_neg (show ¬ (1 : Int) = 0 by decide), if_pos ⟨v.symm, w⟩]
          · rw [if_neg w, if_pos rfl, if_neg (fun z => w z.2)]
        · rw [if_pos v, if_neg (fun z => v z.1.symm)]
      · have wo := hW o (by omega) (by omega)
        rw [if_neg u, F65_bit (S := S) (d := (o : Int)) (by omega) (by omega) (by omega), Option.bind_some, wadd_eq (x := (o : Int)) (y := 1) (by omega) (by omega), show (o : Int) + 1 = ((o + 1 : Nat) : Int) by omega]
        have nx := ih (o + 1) (by omega) (by omega)
        rw [zsum] at nx
        by_cases v : S.testBit (o : Int).toNat = true
        · rw [if_pos v, if_neg (show ¬ (1 : Int) = 0 by decide), zG_t (show 0 ≤ (o : Int) ∧ (o : Int) < 6 by omega), (hV.1.2.1 o (by omega) (by omega)).2.1, wadd_eq (x := zsum _ o) (by omega) (by omega)]
          rw [if_pos v] at nx
          exact nx
        · rw [if_neg v, if_pos rfl, wadd_eq (x := zsum _ o) (by omega) (by omega)]
          rw [if_neg v] at nx
          exact nx
  have outer : ∀ (n : Nat) (S : Nat), S ≤ 2 ^ (m 14 2).toNat → 2 ^ (m 14 2).toNat - S < n → (∀ S', S' < S → ¬ (S'.testBit c.toNat = true ∧ hrs = zDl m S')) → ∃ r, F122_0 h n 0 c hrs (S : Int) = some r ∧ (r = 0 ∨ r = 1) ∧ (r = 1 ↔ zCan m c hrs) := by
    intro n
    induction n with
    | zero => intro S S1 g; omega
    | succ n ih =>
      intro S S1 g hn
      rw [F122_0, eN, wshl_2 (by omega) (by omega)]
      by_cases u : ((2 ^ (m 14 2).toNat : Nat) : Int) ≤ (S : Int)
      · rw [if_pos u]
        refine ⟨0, rfl, Or.inl rfl, fun z => by omega, ?_⟩
        rintro ⟨S', a, b, d⟩
        exact absurd ⟨b, d⟩ (hn S' (by omega))
      · have I := inner (F122_0 h n) S (by omega) zFu 0 (by omega) (by omega)
        rw [zsum] at I
        rw [if_neg u]
        have I' : F122_1 (F122_0 h n) h zFu 0 c hrs (S : Int) 0 0 = if hrs = zDl m S ∧ S.testBit c.toNat = true then some 1 else F122_0 h n 0 c hrs ((S : Int) + 1) := I
        rw [I']
        by_cases v : hrs = zDl m S ∧ S.testBit c.toNat = true
        · rw [if_pos v]
          exact ⟨1, rfl, Or.inr rfl, fun _ => ⟨S, by omega, v.2, v.1⟩, fun _ => rfl⟩
        · rw [if_neg v, show (S : Int) + 1 = ((S + 1 : Nat) : Int) by omega]
          refine ih (S + 1) (by omega) (by omega) (fun S' s' => ?_)
          by_cases w : S' = S
          · subst w; exact fun z => v ⟨z.2, z.1⟩
          · exact hn S' (by omega)
  unfold F122
  exact outer zFu 0 (Nat.zero_le _) (by omega) (fun S' s' => by omega)
theorem F121_s {h : zHC} {m : zHM} {T : Int} (hV : RVC h m) (hP : zPc h m) (T0 : 0 ≤ T) (T1 : T ≤ 200) : ∃ r, F121 0 T h = some r ∧ (r = 0 ∨ r = 1) ∧ (r = 1 ↔ ∀ i, 0 ≤ i → i < m 34 0 → zCan m (m 26 i) (m 27 i - T)) := by
  have big := zFu_big
  obtain ⟨p1, p2, p3, p4⟩ := id hP
  have key : ∀ (n : Nat) (k : Int), 0 ≤ k → k ≤ m 34 0 → m 34 0 - k < n → (∀ i, 0 ≤ i → i < k → zCan m (m 26 i) (m 27 i - T)) → ∃ r, F121_0 h n 0 T k = some r ∧ (r = 0 ∨ r = 1) ∧ (r = 1 ↔ ∀ i, 0 ≤ i → i < m 34 0 → zCan m (m 26 i) (m 27 i - T)) := by
    intro n
    induction n with
    | zero => intro k k0 k1 g; omega
    | succ n ih =>
      intro k k0 k1 g hd
      rw [F121_0, p1]
      by_cases u : m 34 0 ≤ k
      · rw [if_pos u]
        exact ⟨1, rfl, Or.inr rfl, fun _ i i0 i1 => hd i i0 (by omega), fun _ => rfl⟩
      · obtain ⟨e1, e2, e3, e4, e5, e6, e7, e8, e9⟩ := p4 k k0 (by omega)
        rw [if_neg u, zG_t (show 0 ≤ k ∧ k < 6 by omega), zG_t (show 0 ≤ k ∧ k < 6 by omega), e1, e4, wsub_eq (by omega) (by omega), wadd_eq (x := k) (by omega) (by omega)]
        obtain ⟨r, r1, r2, r3⟩ := F122_s (h := h) (m := m) (c := m 26 k) (hrs := m 27 k - T) hV e2 e3
        rw [r1, Option.bind_some]
        rcases r2 with z | z
        · subst z
          rw [if_neg (show ¬ ¬ (0 : Int) = 0 by decide)]
          refine ⟨0, rfl, Or.inl rfl, fun y => by omega, fun y => ?_⟩
          have := r3.mpr (y k k0 (by omega))
          omega
        · subst z
          rw [if_pos (show ¬ (1 : Int) = 0 by decide)]
          refine ih (k + 1) (by omega) (by omega) (by omega) (fun i i0 i1 => ?_)
          by_cases w : i = k
          · subst w; exact r3.mp rfl
          · exact hd i i0 (by omega)
  unfold F121
  exact key zFu 0 (by decide) (by omega) (by omega) (fun i i0 i1 => by omega)
end
section
/-! pieces(), whole. -/
def zPW (h : zHC) (m : zHM) (many B : Int) : Prop := RVC h m ∧ zPc h m ∧ h 256 0 0 = many ∧ 0 ≤ many ∧ many ≤ B ∧ m 35 0 = (if many < 50 then many else 50) ∧ ∀ j, 0 ≤ j → j < m 35 0 → h 257 0 j = m 29 j
def pwC (h h' : zHC) : Prop := ∀ r n j, ¬ ((64 ≤ r ∧ r ≤ 72 ∧ n = 1) ∨ ((r = 256 ∨ r = 257) ∧ n = 0)) → h' r n j = h r n j
def pwM (m m' : zHM) : Prop := ∀ r j, ¬ ((29 ≤ r ∧ r ≤ 33) ∨ r = 35) → m' r j = m r j
theorem pwC_trans {h h' h'' : zHC} (a : pwC h h') (b : pwC h' h'') : pwC h h'' := fun r n j hne => by rw [b r n j hne, a r n j hne]
theorem pwM_trans {m m' m'' : zHM} (a : pwM m m') (b : pwM m' m'') : pwM m m'' := fun r j hne => by rw [b r j hne, a r j hne]
theorem RVC_pw {h h' : zHC} {m m' : zHM} (f1 : pwC h h') (f2 : pwM m m') (hV : RVC h m) : RVC h' m' := RVC_keep (fun r j g => f1 r 0 j (by omega)) (fun j _ _ => f2 14 j (by omega)) (fun j => f2 19 j (by omega)) hV
theorem zPc_pw {h h' : zHC} {m m' : zHM} (f1 : pwC h h') (f2 : pwM m m') (hP : zPc h m) : zPc h' m' := by
  obtain ⟨p1, p2, p3, p4⟩ := hP
  unfold zPc
  rw [f1 258 0 0 (by omega), f2 34 0 (by omega), f2 14 2 (by omega)]
  refine ⟨p1, p2, p3, fun k k0 k1 => ?_⟩
  rw [f1 259 0 k (by omega), f1 260 0 k (by omega), f1 261 0 k (by omega), f2 26 k (by omega), f2 27 k (by omega), f2 28 k (by omega)]
  exact p4 k k0 k1
theorem zPW_keep {h h' : zHC} {m m' : zHM} {many B B' : Int} (f1 : ∀ r n j, ¬ (64 ≤ r ∧ r ≤ 72 ∧ n = 1) → h' r n j = h r n j) (f2 : ∀ r j, ¬ (30 ≤ r ∧ r ≤ 33) → m' r j = m r j) (hB : B ≤ B') (h0 : zPW h m many B) : zPW h' m' many B' := by
  obtain ⟨a1, a2, a3, a4, a5, a6, a7⟩ := h0
  refine ⟨zQ_RVC f1 f2 a1, zPc_pw (fun r n j g => f1 r n j (by omega)) (fun r j g => f2 r j (by omega)) a2, by rw [f1 256 0 0 (by omega)]; exact a3, a4, by omega, by rw [f2 35 0 (by omega)]; exact a6, fun j j0 j1 => ?_⟩
  rw [f2 35 0 (by omega)] at j1
  rw [f1 257 0 j (by omega), f2 29 j (by omega)]
  exact a7 j j0 j1
/-- a way that was found -/
theorem zPW_add {h : zHC} {m : zHM} {many B w : Int} (h0 : zPW h m many B) (hB : B ≤ 1000000) : ∃ h', F127 w h = some h' ∧ zPW h' (if 50 ≤ many then m else mset (mset m 29 many w) 35 0 (many + 1)) (many + 1) (B + 1) ∧ (∀ r n j, ¬ ((r = 256 ∨ r = 257) ∧ n = 0) → h' r n j = h r n j) := by
  obtain ⟨a1, a2, a3, a4, a5, a6, a7⟩ := id h0
  unfold F127 F127_0
  rw [a3]
  by_cases u : 50 ≤ many
  · rw [if_pos u, if_pos u, wadd_eq (x := many) (by omega) (by omega)]
    rw [if_neg (by omega)] at a6
    have f : ∀ r n j, ¬ (r = 256 ∧ n = 0) → (hset h 256 0 0 (many + 1)) r n j = h r n j := fun r n j g => hset_ne (by omega)
    refine ⟨_, rfl, ⟨RVC_pw (fun r n j g => f r n j (by omega)) (fun _ _ _ => rfl) a1, zPc_pw (fun r n j g => f r n j (by omega)) (fun _ _ _ => rfl) a2, hset_eq, by omega, by omega, by rw [if_neg (by omega)]; exact a6, fun j j0 j1 => by rw [f 257 0 j (by omega)]; exact a7 j j0 j1⟩, fun r n j g => f r n j (by omega)⟩
  · rw [if_neg u, if_neg u, zG_t (by omega), hset_ne (by omega), a3, wadd_eq (x := many) (by omega) (by omega)]
    rw [if_pos (by omega)] at a6
    have f : ∀ r n j, ¬ ((r = 256 ∨ r = 257) ∧ n = 0) → (hset (hset h 257 0 many w) 256 0 0 (many + 1)) r n j = h r n j := fun r n j g => by rw [hset_ne (by omega), hset_ne (by omega)]
    have fm : ∀ r j, ¬ (r = 29 ∨ r = 35) → (mset (mset m 29 many w) 35 0 (many + 1)) r j = m r j := fun r j g => by rw [mset_ne (by omega), mset_ne (by omega)]
    refine ⟨_, rfl, ⟨RVC_pw (fun r n j g => f r n j (by omega)) (fun r j g => fm r j (by omega)) a1, zPc_pw (fun r n j g => f r n j (by omega)) (fun r j g => fm r j (by omega)) a2, hset_eq, by omega, by omega, ?_, fun j j0 j1 => ?_⟩, fun r n j g => f r n j g⟩
    · rw [mset_eq]
      by_cases v : many + 1 < 50
      · rw [if_pos v]
      · rw [if_neg v]; omega
    · rw [mset_eq] at j1
      by_cases v : j = many
      · subst v
        rw [hset_ne (by omega), hset_eq, mset_ne (by omega), mset_eq]
      · rw [hset_ne (by omega), hset_ne (by omega), mset_ne (by omega), mset_ne (by omega)]
        exact a7 j j0 (by omega)
theorem W_loud {T x r1 : Int} {k0 : Int → Int → Int → zHC → Option (Int × zHC)} {k1 : Int → Int → Int → Int → Int → zHC → Option (Int × zHC)} {j0 : Int → Int → zHM → Option (Int × zHM)} {j1 : Int → Int → Int → zHM → Option (Int × zHM)} (T0 : 0 ≤ T) (T1 : T ≤ 200) (x0 : 0 ≤ x) (x1 : x < 100) : ∀ (N N' : Nat) (l many : Int) (h : zHC) (m : zHM), zPW h m many (900 * T + 9 * x + (l - 1)) → 1 ≤ l → l ≤ 10 → 10 - l < N → 10 - l < N' → ∃ h' m' many', F120_3 k0 k1 N 0 1 T r1 x l h = k1 0 1 T r1 (x + 1) h' ∧ F262_2 j0 j1 N' many T x l m = j1 many' T (x + 1) m' ∧ zPW h' m' many' (900 * T + 9 * (x + 1)) ∧ pwC h h' ∧ pwM m m' := by
  intro N
  induction N with
  | zero => intro N' l many h m hW l0 l1 g; omega
  | succ N ih =>
    intro N' l many h m hW l0 l1 g g'
    cases N' with
    | zero => omega
    | succ N' =>
      obtain ⟨a1, a2, a3, a4, a5, a6, a7⟩ := id hW
      have w6 := a1.1.2.2.2.2.2.2.2.1
      unfold WN at w6
      rw [F120_3, F262_2]
      unfold F120_4 F262_3
      rw [wadd_eq (x := x) (by omega) (by omega)]
      have stop : ∃ h' m' many', k1 0 1 T r1 (x + 1) h = k1 0 1 T r1 (x + 1) h' ∧ j1 many T (x + 1) m = j1 many' T (x + 1) m' ∧ zPW h' m' many' (900 * T + 9 * (x + 1)) ∧ pwC h h' ∧ pwM m m' := ⟨h, m, many, rfl, rfl, zPW_keep (fun _ _ _ _ => rfl) (fun _ _ _ => rfl) (by omega) hW, fun _ _ _ _ => rfl, fun _ _ _ => rfl⟩
      by_cases u : 9 < l
      · rw [if_pos u, if_pos u]
        exact stop
      · rw [if_neg u, if_neg u, E69 a1.1.1, E224 (m := m) (a := m 14) rfl rfl, Option.bind_some, Option.bind_some]
        by_cases c : zCell (m 14) x
        · rw [if_pos c, if_neg (show ¬ (1 : Int) = 0 by decide), if_neg (show ¬ (1 : Int) = 0 by decide)]
          obtain ⟨h1, m1, R, H, b1, b2, b3, b4, b5⟩ := Q_way (T := T) (x := x) (l := l) a1 T0 T1 x0 x1 l0 (by omega)
          have n14 : m1 14 2 = m 14 2 := b5 14 2 (by omega)
          have W1 : zPW h1 m1 many (900 * T + 9 * x + (l - 1)) := zPW_keep b4 b5 (Int.le_refl _) hW
          have R6 := (zQ_R (by omega) b3).1
          obtain ⟨b, c1, c2, c3, -⟩ := P_all b3 (by omega) (by omega) W1.2.1
          have f1 : pwC h h1 := fun r n j g => b4 r n j (by omega)
          have f2 : pwM m m1 := fun r j g => b5 r j (by omega)
          rw [b1, c1, b2, Option.bind_some, Option.bind_some, c2, Option.bind_some]
          unfold F120_5 F262_4
          unfold F262_5
          rw [wadd_eq (x := l) (by omega) (by omega)]
          rcases c3 with z | z
          · subst z
            rw [if_pos (rfl : (0 : Int) = 0), if_neg (show ¬ ¬ (0 : Int) = 0 by decide)]
            obtain ⟨h2, m2, many2, d1, d2, d3, d4, d5⟩ := ih N' (l + 1) many h1 m1 (zPW_keep (fun _ _ _ _ => rfl) (fun _ _ _ => rfl) (by omega) W1) (by omega) (by omega) (by omega) (by omega)
            exact ⟨h2, m2, many2, d1, d2, d3, pwC_trans f1 d4, pwM_trans f2 d5⟩
          · subst z
            rw [if_neg (show ¬ (1 : Int) = 0 by decide), if_pos (show ¬ (1 : Int) = 0 by decide), wmul_eq (x := T) (by omega) (by omega), wmul_eq (x := x) (by omega) (by omega), wmul_eq (x := 1000) (by omega) (by omega), wmul_eq (x := 10) (by omega) (by omega), wadd_eq (x := T * 1000) (by omega) (by omega), wadd_eq (x := 1000 * T) (by omega) (by omega), wadd_eq (x := T * 1000 + x * 10) (by omega) (by omega), wadd_eq (x := 1000 * T + 10 * x) (by omega) (by omega), wadd_eq (x := many) (by omega) (by omega)]
            obtain ⟨h2, d1, d2, d3⟩ := zPW_add (w := T * 1000 + x * 10 + l) W1 (by omega)
            dsimp only
            rw [d1, Option.bind_some]
            have ew : 1000 * T + 10 * x + l = T * 1000 + x * 10 + l := by omega
            rw [ew]
            have fin : ∀ M, zPW h2 M (many + 1) (900 * T + 9 * x + (l - 1) + 1) → pwM m1 M → ∃ h' m' many', F120_3 k0 k1 N 0 1 T r1 x (l + 1) h2 = k1 0 1 T r1 (x + 1) h' ∧ F262_2 j0 j1 N' (many + 1) T x (l + 1) M = j1 many' T (x + 1) m' ∧ zPW h' m' many' (900 * T + 9 * (x + 1)) ∧ pwC h h' ∧ pwM m m' := by
              intro M hM fM
              obtain ⟨h3, m3, many3, e1, e2, e3, e4, e5⟩ := ih N' (l + 1) (many + 1) h2 M (zPW_keep (fun _ _ _ _ => rfl) (fun _ _ _ => rfl) (by omega) hM) (by omega) (by omega) (by omega) (by omega)
              exact ⟨h3, m3, many3, e1, e2, e3, pwC_trans (pwC_trans f1 (fun r n j g => d3 r n j (by omega))) e4, pwM_trans (pwM_trans f2 fM) e5⟩
            by_cases v : 50 ≤ many
            · rw [if_pos v] at d2 ⊢
              exact fin m1 d2 (fun _ _ _ => rfl)
            · rw [if_neg v] at d2 ⊢
              rw [zG_t (show 0 ≤ many ∧ many < 50 by omega)]
              exact fin _ d2 (fun r j g => by rw [mset_ne (by omega), mset_ne (by omega)])
        · rw [if_neg c, if_pos rfl, if_pos rfl]
          exact stop
theorem W_at {T r1 : Int} {k0 : Int → Int → Int → zHC → Option (Int × zHC)} {j0 : Int → Int → zHM → Option (Int × zHM)} (T0 : 0 ≤ T) (T1 : T ≤ 200) (hr : ¬ r1 = 0) : ∀ (N N' : Nat) (x many : Int) (h : zHC) (m : zHM), zPW h m many (900 * T + 9 * x) → 0 ≤ x → x ≤ 100 → 100 - x < N → 100 - x < N' → ∃ h' m' many', F120_1 k0 N 0 1 T r1 x h = k0 0 1 (T + 1) h' ∧ F262_1 j0 N' many T x m = j0 many' (T + 1) m' ∧ zPW h' m' many' (900 * (T + 1)) ∧ pwC h h' ∧ pwM m m' := by
  intro N
  induction N with
  | zero => intro N' x many h m hW x0 x1 g; omega
  | succ N ih =>
    intro N' x many h m hW x0 x1 g g'
    have big := zFu_big
    cases N' with
    | zero => omega
    | succ N' =>
      rw [F120_1, F262_1]
      unfold F120_2
      rw [wadd_eq (x := T) (by omega) (by omega)]
      by_cases u : 100 ≤ x
      · rw [if_pos u, if_pos u]
        exact ⟨h, m, many, rfl, rfl, zPW_keep (fun _ _ _ _ => rfl) (fun _ _ _ => rfl) (by omega) hW, fun _ _ _ _ => rfl, fun _ _ _ => rfl⟩
      · rw [if_neg u, if_neg u, if_neg hr]
        obtain ⟨h1, m1, many1, a1, a2, a3, a4, a5⟩ := W_loud (k0 := k0) (k1 := F120_1 k0 N) (j0 := j0) (j1 := F262_1 j0 N') (r1 := r1) T0 T1 x0 (by omega) zFu zFu 1 many h m (zPW_keep (fun _ _ _ _ => rfl) (fun _ _ _ => rfl) (by omega) hW) (by decide) (by decide) (by omega) (by omega)
        rw [a1, a2]
        obtain ⟨h2, m2, many2, b1, b2, b3, b4, b5⟩ := ih N' (x + 1) many1 h1 m1 a3 (by omega) (by omega) (by omega) (by omega)
        exact ⟨h2, m2, many2, b1, b2, b3, pwC_trans a4 b4, pwM_trans a5 b5⟩
/-- where not all can have begun, the model finds none -/
theorem M_none {h : zHC} {m : zHM} {T x l : Int} (hV : RVC h m) (hP : zPc h m) (T0 : 0 ≤ T) (T1 : T ≤ 200) (x0 : 0 ≤ x) (x1 : x < 100) (l0 : 1 ≤ l) (l1 : l ≤ 9) (hn : ¬ ∀ i, 0 ≤ i → i < m 34 0 → zCan m (m 26 i) (m 27 i - T)) : ∃ m', F264 x T l m = some m' ∧ F266 m' = some 0 ∧ (∀ r j, ¬ (30 ≤ r ∧ r ≤ 33) → m' r j = m r j) := by
  have w6 := hV.1.2.2.2.2.2.2.2.1
  unfold WN at w6
  obtain ⟨h1, m1, R, H, b1, b2, b3, b4, b5⟩ := Q_way (T := T) (x := x) (l := l) hV T0 T1 x0 x1 l0 l1
  have n14 : m1 14 = m 14 := by funext j; exact b5 14 j (by omega)
  have P1 : zPc h1 m1 := zPc_pw (fun r n j g => b4 r n j (by omega)) (fun r j g => b5 r j (by omega)) hP
  have R6 := (zQ_R (by rw [n14]; omega) b3).1
  rw [n14] at R6
  obtain ⟨b, c1, c2, c3, c4⟩ := P_all b3 (by rw [n14]; omega) (by omega) P1
  refine ⟨m1, b2, ?_, b5⟩
  rcases c3 with z | z
  · rw [c2, z]
  · exfalso
    apply hn
    intro i i0 i1
    have ci := c4 z i i0 (by rw [b5 34 0 (by omega)]; exact i1)
    obtain ⟨e1, e2, e3, e4, e5, e6, e7, e8, e9⟩ := P1.2.2.2 i i0 (by rw [b5 34 0 (by omega)]; exact i1)
    have g1 : ¬ m1 32 (m1 26 i) = 0 := fun y => by
      have := b3.2.2.2.1 _ e2 e3 y
      omega
    have g2 : ¬ m1 30 (m1 26 i) = -1 := fun y => by
      apply g1
      rw [b3.2.2.1 _ e2 e3, if_neg (fun t => t.1 y)]
    obtain ⟨S, s1, s2, s3, s4⟩ := b3.2.2.2.2.2.2 _ e2 e3 g2
    rw [ci.2] at s4
    have dl : zDl m1 S = zDl m S := by unfold zDl; rw [n14]
    rw [n14] at s1
    rw [dl, b5 27 i (by omega)] at s4
    rw [b5 26 i (by omega)] at s2
    exact ⟨S, s1, s2, s4⟩
theorem V_loud {T x many : Int} {h : zHC} {j0 : Int → Int → zHM → Option (Int × zHM)} {j1 : Int → Int → Int → zHM → Option (Int × zHM)} (T0 : 0 ≤ T) (T1 : T ≤ 200) (x0 : 0 ≤ x) (x1 : x < 100) : ∀ (N' : Nat) (l : Int) (m : zHM), RVC h m → zPc h m → (¬ ∀ i, 0 ≤ i → i < m 34 0 → zCan m (m 26 i) (m 27 i - T)) → 1 ≤ l → l ≤ 10 → 10 - l < N' → ∃ m', F262_2 j0 j1 N' many T x l m = j1 many T (x + 1) m' ∧ (∀ r j, ¬ (30 ≤ r ∧ r ≤ 33) → m' r j = m r j) := by
  intro N
  induction N with
  | zero => intro l m hV hP hn l0 l1 g; omega
  | succ N ih =>
    intro l m hV hP hn l0 l1 g
    rw [F262_2]
    unfold F262_3 F262_5
    rw [wadd_eq (x := x) (by omega) (by omega)]
    by_cases u : 9 < l
    · rw [if_pos u]
      exact ⟨m, rfl, fun _ _ _ => rfl⟩
    · rw [if_neg u, E224 (m := m) (a := m 14) rfl rfl, Option.bind_some, wadd_eq (x := l) (by omega) (by omega)]
      by_cases c : zCell (m 14) x
      · obtain ⟨m1, a1, a2, a3⟩ := M_none hV hP T0 T1 x0 x1 l0 (by omega) hn
        rw [if_pos c, if_neg (show ¬ (1 : Int) = 0 by decide), a1, Option.bind_some, a2, Option.bind_some, if_neg (show ¬ ¬ (0 : Int) = 0 by decide)]
        have n14 : m1 14 = m 14 := by funext j; exact a3 14 j (by omega)
        have hn1 : ¬ ∀ i, 0 ≤ i → i < m1 34 0 → zCan m1 (m1 26 i) (m1 27 i - T) := by
          intro z
          apply hn
          intro i i0 i1
          obtain ⟨S, s1, s2, s3⟩ := z i i0 (by rw [a3 34 0 (by omega)]; exact i1)
          rw [n14] at s1
          rw [a3 26 i (by omega)] at s2
          rw [a3 27 i (by omega)] at s3
          refine ⟨S, s1, s2, ?_⟩
          rw [s3]
          unfold zDl
          rw [n14]
        obtain ⟨m2, b1, b2⟩ := ih (l + 1) m1 (zQ_RVC (fun _ _ _ _ => rfl) a3 hV) (zPc_pw (fun _ _ _ _ => rfl) (fun r j g => a3 r j (by omega)) hP) hn1 (by omega) (by omega) (by omega)
        exact ⟨m2, b1, fun r j g => by rw [b2 r j g, a3 r j g]⟩
      · rw [if_neg c, if_pos rfl]
        exact ⟨m, rfl, fun _ _ _ => rfl⟩
theorem V_at {T many : Int} {h : zHC} {j0 : Int → Int → zHM → Option (Int × zHM)} (T0 : 0 ≤ T) (T1 : T ≤ 200) : ∀ (N' : Nat) (x : Int) (m : zHM), RVC h m → zPc h m → (¬ ∀ i, 0 ≤ i → i < m 34 0 → zCan m (m 26 i) (m 27 i - T)) → 0 ≤ x → x ≤ 100 → 100 - x < N' → ∃ m', F262_1 j0 N' many T x m = j0 many (T + 1) m' ∧ (∀ r j, ¬ (30 ≤ r ∧ r ≤ 33) → m' r j = m r j) := by
  intro N
  induction N with
  | zero => intro x m hV hP hn x0 x1 g; omega
  | succ N ih =>
    intro x m hV hP hn x0 x1 g
    have big := zFu_big
    rw [F262_1, wadd_eq (x := T) (by omega) (by omega)]
    by_cases u : 100 ≤ x
    · rw [if_pos u]
      exact ⟨m, rfl, fun _ _ _ => rfl⟩
    · rw [if_neg u]
      obtain ⟨m1, a1, a3⟩ := V_loud (j0 := j0) (j1 := F262_1 j0 N) (many := many) T0 T1 x0 (by omega) zFu 1 m hV hP hn (by decide) (by decide) (by omega)
      rw [a1]
      have n14 : m1 14 = m 14 := by funext j; exact a3 14 j (by omega)
      have hn1 : ¬ ∀ i, 0 ≤ i → i < m1 34 0 → zCan m1 (m1 26 i) (m1 27 i - T) := by
        intro z
        apply hn
        intro i i0 i1
        obtain ⟨S, s1, s2, s3⟩ := z i i0 (by rw [a3 34 0 (by omega)]; exact i1)
        rw [n14] at s1
        rw [a3 26 i (by omega)] at s2
        rw [a3 27 i (by omega)] at s3
        refine ⟨S, s1, s2, ?_⟩
        rw [s3]
        unfold zDl
        rw [n14]
      obtain ⟨m2, b1, b2⟩ := ih (x + 1) m1 (zQ_RVC (fun _ _ _ _ => rfl) a3 hV) (zPc_pw (fun _ _ _ _ => rfl) (fun r j g => a3 r j (by omega)) hP) hn1 (by omega) (by omega) (by omega)
      exact ⟨m2, b1, fun r j g => by rw [b2 r j g, a3 r j g]⟩
/-- behind the first piece's hour the class finds none -/
theorem W_rest {h : zHC} {m : zHM} (hV : RVC h m) (hP : zPc h m) : ∀ (N : Nat) (T : Int), 0 ≤ T → T ≤ 201 → m 27 0 ≤ T → 201 - T < N → F120_0 N 0 1 T h = some (h 256 0 0, h) := by
  intro N
  induction N with
  | zero => intro T T0 T1 g; omega
  | succ N ih =>
    intro T T0 T1 hT g
    have big := zFu_big
    rw [F120_0]
    by_cases u : 200 < T
    · rw [if_pos u]
    · obtain ⟨r, r1, r2, r3⟩ := F121_s hV hP T0 (by omega)
      have r0 : r = 0 := by
        rcases r2 with z | z
        · exact z
        · obtain ⟨S, s1, s2, s3⟩ := r3.mp z 0 (by decide) (by have := hP.2.1; omega)
          obtain ⟨e1, e2, e3, -⟩ := hP.2.2.2 0 (by decide) (by have := hP.2.1; omega)
          have := zDl_pos hV.1.2.2.2.2.2.2.2.2.1 e2 e3 s2
          omega
      subst r0
      obtain ⟨F, eF⟩ : ∃ F, zFu = F + 1 := ⟨zFu - 1, by omega⟩
      rw [if_neg u, r1, Option.bind_some, eF, F120_1, if_neg (show ¬ (100 : Int) ≤ 0 by decide), if_pos rfl]
      unfold F120_2
      rw [wadd_eq (x := T) (by omega) (by omega)]
      exact ih (T + 1) (by omega) (by omega) (by omega) (by omega)
theorem W_hour : ∀ (N N' : Nat) (T many : Int) (h : zHC) (m : zHM), zPW h m many (900 * T) → 0 ≤ T → T ≤ 201 → 201 - T < N → 201 - T < N' → ∃ h' m' many', F120_0 N 0 1 T h = some (many', h') ∧ F262_0 N' many T m = some (many', m') ∧ zPW h' m' many' 999999 ∧ pwC h h' ∧ pwM m m' := by
  intro N
  induction N with
  | zero => intro N' T many h m hW T0 T1 g; omega
  | succ N ih =>
    intro N' T many h m hW T0 T1 g g'
    have big := zFu_big
    cases N' with
    | zero => omega
    | succ N' =>
      obtain ⟨a1, a2, a3, a4, a5, a6, a7⟩ := id hW
      by_cases u : 200 < T
      · rw [F120_0, F262_0, if_pos u, if_pos u, a3]
        exact ⟨h, m, many, rfl, rfl, zPW_keep (fun _ _ _ _ => rfl) (fun _ _ _ => rfl) (by omega) hW, fun _ _ _ _ => rfl, fun _ _ _ => rfl⟩
      · by_cases v : T < m 27 0
        · obtain ⟨r, r1, r2, r3⟩ := F121_s a1 a2 T0 (by omega)
          rw [F120_0, F262_0, if_neg u, if_neg u, if_pos v, r1, Option.bind_some]
          rcases r2 with z | z
          · subst z
            have hn : ¬ ∀ i, 0 ≤ i → i < m 34 0 → zCan m (m 26 i) (m 27 i - T) := fun y => by
              have := r3.mpr y
              omega
            obtain ⟨m1, b1, b2⟩ := V_at (j0 := F262_0 N') (many := many) T0 (by omega) zFu 0 m a1 a2 hn (by decide) (by decide) (by omega)
            obtain ⟨F, eF⟩ : ∃ F, zFu = F + 1 := ⟨zFu - 1, by omega⟩
            have eC : F120_1 (F120_0 N) zFu 0 1 T 0 0 h = F120_0 N 0 1 (T + 1) h := by
              rw [eF, F120_1, if_neg (show ¬ (100 : Int) ≤ 0 by decide), if_pos rfl]
              unfold F120_2
              rw [wadd_eq (x := T) (by omega) (by omega)]
            rw [eC, b1]
            obtain ⟨h2, m2, many2, c1, c2, c3, c4, c5⟩ := ih N' (T + 1) many h m1 (zPW_keep (fun _ _ _ _ => rfl) b2 (by omega) hW) (by omega) (by omega) (by omega) (by omega)
            exact ⟨h2, m2, many2, c1, c2, c3, c4, pwM_trans (fun r j g => b2 r j (by omega)) c5⟩
          · subst z
            obtain ⟨h1, m1, many1, b1, b2, b3, b4, b5⟩ := W_at (k0 := F120_0 N) (j0 := F262_0 N') (T := T) (r1 := 1) T0 (by omega) (by decide) zFu zFu 0 many h m (zPW_keep (fun _ _ _ _ => rfl) (fun _ _ _ => rfl) (by omega) hW) (by decide) (by decide) (by omega) (by omega)
            rw [b1, b2]
            obtain ⟨h2, m2, many2, c1, c2, c3, c4, c5⟩ := ih N' (T + 1) many1 h1 m1 b3 (by omega) (by omega) (by omega) (by omega)
            exact ⟨h2, m2, many2, c1, c2, c3, pwC_trans b4 c4, pwM_trans b5 c5⟩
        · have e := W_rest a1 a2 (N + 1) T T0 T1 (by omega) g
          rw [e, F262_0, if_neg u, if_neg v, a3]
          exact ⟨h, m, many, rfl, rfl, zPW_keep (fun _ _ _ _ => rfl) (fun _ _ _ => rfl) (by omega) hW, fun _ _ _ _ => rfl, fun _ _ _ => rfl⟩
theorem C_pieces {hc : zHC} {hm : zHM} (h : RG hc hm) : ∃ r hc' hm', F118 hc = some (r, hc') ∧ F262 hm = some (r, hm') ∧ RG hc' hm' := by
  have big := zFu_big
  obtain ⟨t1, t2, t3, t4, t5, t6, t7, t8, t9⟩ := id h
  have fin : ∀ (h' : zHC) (m' : zHM), h' 321 0 0 = 0 → m' 2 0 = 0 → (∀ r n j, ¬ ((64 ≤ r ∧ r ≤ 72 ∧ n = 1) ∨ (256 ≤ r ∧ r ≤ 261) ∨ (r = 321 ∧ n = 0 ∧ j = 0)) → h' r n j = hc r n j) → (∀ r j, ¬ (r = 0 ∨ r = 2 ∨ (26 ≤ r ∧ r ≤ 35)) → m' r j = hm r j) → RPc h' m' → RG h' m' := by
    intro h' m' e1 e2 f1 f2 p
    refine ⟨⟨by rw [e1, e2], by rw [e2]; exact Int.le_refl 0, by rw [e2]; decide, fun i i0 i1 => ?_, ?_⟩, RVC_keep (fun r j g => f1 r 0 j (by omega)) (fun j _ _ => f2 14 j (by omega)) (fun j => f2 19 j (by omega)) t2, RUn_keep (fun r n j g => f1 r n j (by omega)) (fun j _ _ => f2 14 j (by omega)) (fun r j g => f2 r j (by omega)) (VR_n t2.1) t3, RIm_keep (fun r n j g => f1 r n j (by omega)) (fun r j g => f2 r j (by omega)) t4, RSn_cong (f1 384 0 0 (by omega)) (f1 385 0 0 (by omega)) (fun j _ _ => f1 386 0 j (by omega)) (fun j _ _ => f2 14 j (by omega)) t5, p, RSt_keep (fun r j g => f1 r 0 j (by omega)) (fun j => f2 41 j (by omega)) t7, RWr_keep (fun r j g => f1 r 0 j (by omega)) (fun r j g => f2 r j (by omega)) t8, RKw_keep (fun j => f1 330 0 j (by omega)) t9⟩
    · rw [f1 320 0 i (by omega), f2 1 i (by omega)]
      exact t1.2.2.2.1 i i0 i1
    · rw [f1 322 0 0 (by omega), f2 10 0 (by omega)]
      exact t1.2.2.2.2
  unfold F118 F262
  rcases L_take h with ⟨h1, m1, a1, a2, a3, a4, a5, a6⟩ | ⟨h1, m1, a1, a2, a4, a5, a6⟩
  · rw [a1, a2, Option.bind_some, Option.bind_some, if_neg (show ¬ (1 : Int) = 0 by decide), if_pos (show ¬ (1 : Int) = 0 by decide)]
    dsimp only
    unfold F120
    obtain ⟨H, eH⟩ : ∃ H, hset (hset h1 321 0 0 0) 256 0 0 0 = H := ⟨_, rfl⟩
    obtain ⟨M, eM⟩ : ∃ M, mset m1 35 0 0 = M := ⟨_, rfl⟩
    rw [eH, eM]
    have fH : ∀ r n j, ¬ ((r = 321 ∧ n = 0 ∧ j = 0) ∨ (r = 256 ∧ n = 0 ∧ j = 0)) → H r n j = h1 r n j := fun r n j g => by rw [← eH, hset_ne (by omega), hset_ne (by omega)]
    have fM : ∀ r j, ¬ (r = 35 ∧ j = 0) → M r j = m1 r j := fun r j g => by rw [← eM, mset_ne g]
    have V : RVC H M := RVC_keep (fun r j g => by rw [fH r 0 j (by omega), a5 r 0 j (by omega)]) (fun j _ _ => by rw [fM 14 j (by omega), a6 14 j (by omega)]) (fun j => by rw [fM 19 j (by omega), a6 19 j (by omega)]) t2
    have P : zPc H M := by
      obtain ⟨p1, p2, p3, p4⟩ := a3
      unfold zPc
      rw [fH 258 0 0 (by omega), fM 34 0 (by omega), fM 14 2 (by omega)]
      refine ⟨p1, p2, p3, fun k k0 k1 => ?_⟩
      rw [fH 259 0 k (by omega), fH 260 0 k (by omega), fH 261 0 k (by omega), fM 26 k (by omega), fM 27 k (by omega), fM 28 k (by omega)]
      exact p4 k k0 k1
    have M35 : M 35 0 = 0 := by rw [← eM, mset_eq]
    have W : zPW H M 0 (900 * 0) := ⟨V, P, by rw [← eH, hset_eq], by decide, by decide, by rw [M35]; rfl, fun j j0 j1 => by omega⟩
    obtain ⟨h2, m2, many, b1, b2, b3, b4, b5⟩ := W_hour zFu zFu 0 0 H M W (by decide) (by decide) (by omega) (by omega)
    rw [b1, b2, Option.bind_some]
    refine ⟨_, _, _, rfl, rfl, fin h2 m2 ?_ ?_ (fun r n j g => ?_) (fun r j g => ?_) ?_⟩
    · rw [b4 321 0 0 (by omega), ← eH, hset_ne (by omega), hset_eq]
    · rw [b5 2 0 (by omega), fM 2 0 (by omega)]
      exact a4
    · rw [b4 r n j (by omega), fH r n j (by omega), a5 r n j (by omega)]
    · rw [b5 r j (by omega), fM r j (by omega), a6 r j (by omega)]
    · obtain ⟨c1, c2, c3, c4, c5, c6, c7⟩ := b3
      exact ⟨by rw [c3]; exact c4, by rw [c3]; omega, by rw [c3]; exact c6, c7⟩
  · rw [a1, a2, Option.bind_some, Option.bind_some, if_pos (rfl : (0 : Int) = 0), if_neg (show ¬ ¬ (0 : Int) = 0 by decide)]
    refine ⟨_, _, _, rfl, rfl, fin _ m1 hset_eq a4 (fun r n j g => ?_) (fun r j g => a6 r j (by omega)) ?_⟩
    · dsimp only
      rw [hset_ne (by omega), a5 r n j (by omega)]
    · exact RPc_keep (fun r j g => by dsimp only; rw [hset_ne (by omega), a5 r 0 j (by omega)]) (fun r j g => a6 r j (by omega)) t6
end
