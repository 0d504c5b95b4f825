/-! Pieces: a whole saying. -/
theorem zQ_next {h : zHC} {m : zHM} {T H C R : Int} (q : zQ h m T H C R) (hn : 0 ≤ C → C < m 14 2 → ¬ m 30 C = H) : zQ h m T H (C + 1) R := by
  obtain ⟨q1, q2, q3, q4, q5, q6, q7⟩ := q
  refine ⟨q1, q2, fun c c0 c1 => ?_, q4, q5, q6, q7⟩
  rw [q3 c c0 c1]
  by_cases v : ¬ m 30 c = -1 ∧ (m 30 c < H ∨ m 30 c = H ∧ c < C)
  · rw [if_pos v, if_pos (by omega)]
  · rw [if_neg v, if_neg]
    intro z
    by_cases w : c = C
    · subst w
      exact hn c0 c1 (by omega)
    · omega
theorem zQ_end {h : zHC} {m : zHM} {T H R : Int} (q : zQ h m T H (m 14 2) R) (n6 : m 14 2 ≤ 6) : zQ h m T H 6 R := by
  obtain ⟨q1, q2, q3, q4, q5, q6, q7⟩ := q
  refine ⟨q1, q2, fun c c0 c1 => ?_, q4, q5, q6, q7⟩
  rw [q3 c c0 c1]
  by_cases v : ¬ m 30 c = -1 ∧ (m 30 c < H ∨ m 30 c = H ∧ c < m 14 2)
  · rw [if_pos v, if_pos (by omega)]
  · rw [if_neg v, if_neg (by omega)]
/-- on to the next hour in which one is given back -/
theorem zQ_leap {h : zHC} {m : zHM} {T H H' R : Int} (q : zQ h m T H 6 R) (n6 : m 14 2 ≤ 6) (hH : H < H') (hs : ∀ c, 0 ≤ c → c < m 14 2 → H < m 30 c → H' ≤ m 30 c) : zQ h m T H' 0 R := by
  obtain ⟨q1, q2, q3, q4, q5, q6, q7⟩ := q
  refine ⟨q1, q2, fun c c0 c1 => ?_, q4, q5, q6, q7⟩
  rw [q3 c c0 c1]
  have := hs c c0 c1
  by_cases v : ¬ m 30 c = -1 ∧ (m 30 c < H ∨ m 30 c = H ∧ c < 6)
  · rw [if_pos v, if_pos (by omega)]
  · rw [if_neg v, if_neg (by omega)]
theorem zQ_0 {h : zHC} {m : zHM} {T C : Int} (q : zQ h m T T 0 0) : zQ h m T T C 0 := by
  obtain ⟨q1, q2, q3, q4, q5, q6, q7⟩ := q
  refine ⟨q1, q2, fun c c0 c1 => ?_, q4, q5, q6, q7⟩
  have := (q1 c c0 c1).2
  rw [q3 c c0 c1, if_neg (by omega), if_neg (by omega)]
theorem Q_give {T H sn : Int} (T0 : 0 ≤ T) (T1 : T ≤ 200) (H0 : T ≤ H) (H1 : H ≤ T + 240) : ∀ (N P : Nat) (C R : Int) (h : zHC) (m : zHM), RVC h m → zQ h m T H C R → h 64 1 0 = H → F208 H m = some sn → 0 ≤ sn → sn ≤ 9 → 0 ≤ C → C ≤ m 14 2 → m 14 2 - C < N → 6 - R < P → ∃ h' m' R' P', F90_0 N 1 0 0 0 sn C h = some h' ∧ F264_2 P (m 14 2) R m = F264_2 P' (m 14 2) R' m' ∧ (P' : Int) + R' = P + R ∧ zQ h' m' T H 6 R' ∧ zCS h' H ∧ R ≤ R' ∧ ((∃ c, C ≤ c ∧ c < m 14 2 ∧ m 30 c = H) → R + 1 ≤ R') ∧ h' 64 1 0 = H ∧ (∀ r n j, ¬ (64 ≤ r ∧ r ≤ 72 ∧ n = 1) → h' r n j = h r n j) ∧ (∀ r j, ¬ (30 ≤ r ∧ r ≤ 33) → m' r j = m r j) := by
  intro N
  induction N with
  | zero => intro P C R h m hV q e64 hsn t0 t1 C0 C1 g; omega
  | succ N ih =>
    intro P C R h m hV q e64 hsn t0 t1 C0 C1 g gP
    have big := zFu_big
    have w6 := hV.1.2.2.2.2.2.2.2.1
    unfold WN at w6
    have eN : h 578 0 0 = m 14 2 := hV.1.1.2.2.1
    have q5 := q.2.2.2.2.1
    rw [F90_0, eN]
    by_cases u : m 14 2 ≤ C
    · have eC : C = m 14 2 := by omega
      subst eC
      obtain ⟨h', a1, a2, a3⟩ := Q_soon q T1 e64
      rw [if_pos u, a1, Option.bind_some]
      exact ⟨h', m, R, P, rfl, rfl, by omega, zQ_h (zQ_end q (by omega)) (fun r j g => a3 r 1 j (by omega)), a2, Int.le_refl R, fun ⟨c, c0, c1, _⟩ => by omega, by rw [a3 64 1 0 (by omega)]; exact e64, fun r n j g => a3 r n j (by omega), fun _ _ _ => rfl⟩
    · have C2 : C < m 14 2 := by omega
      rw [if_neg u, wmul_eq (x := 0) (y := 6) (by decide) (by decide), show (0 : Int) * 6 = 0 by decide, wadd_eq (x := 0) (y := C) (by omega) (by omega), Int.zero_add, zG_t (show 0 ≤ C ∧ C < 180 by omega), (q.1 C C0 C2).1, e64]
      unfold F90_1
      rw [wadd_eq (x := C) (y := 1) (by omega) (by omega)]
      by_cases d : m 30 C = H
      · have g0 : m 32 C = 0 := by rw [q.2.2.1 C C0 C2, if_neg (by omega)]
        have Rn := (zQ_R (by omega) q).2 C C0 C2 g0
        have wC := hV.1.2.2.2.2.2.2.2.2.1 C C0 C2
        have ev := (q.1 C C0 C2).2
        rw [if_neg (show ¬ ¬ m 30 C = H from fun z => z d), zG_t (show 0 ≤ C ∧ C < 180 by omega), zG_t (show 0 ≤ C ∧ C < 6 by omega), (hV.1.2.1 C C0 C2).2.2, wsub_eq (x := m 14 (7 + 3 * C + 2)) (by omega) (by omega), wsub_eq (y := 0) (by omega) (by omega), Int.sub_zero]
        have e69 : h 69 1 C = m 31 C := by
          rcases ev with z | z
          · omega
          · exact z.2.2.1
        rw [e69]
        have e31 : 1 ≤ m 31 C ∧ m 31 C ≤ 9 := by omega
        obtain ⟨V, eV⟩ : ∃ V, (if m 14 (7 + 3 * C + 2) - sn ≤ m 31 C then m 14 (7 + 3 * C + 2) - sn else m 31 C) = V := ⟨_, rfl⟩
        have eV2 : (if m 14 (7 + 3 * C + 2) - sn < m 31 C then m 14 (7 + 3 * C + 2) - sn else m 31 C) = V := by
          rw [← eV]
          by_cases z : m 14 (7 + 3 * C + 2) - sn < m 31 C
          · rw [if_pos z, if_pos (by omega)]
          · rw [if_neg z]
            by_cases z2 : m 14 (7 + 3 * C + 2) - sn ≤ m 31 C
            · rw [if_pos z2]; omega
            · rw [if_neg z2]
        have V9 : V ≤ 9 := by
          rw [← eV]
          by_cases z2 : m 14 (7 + 3 * C + 2) - sn ≤ m 31 C
          · rw [if_pos z2]; omega
          · rw [if_neg z2]; omega
        rw [eV2]
        obtain ⟨P0, eP⟩ : ∃ P0, P = P0 + 1 := ⟨P - 1, by omega⟩
        subst eP
        have y14 : ∀ j, (mset m 32 C 1) 14 j = m 14 j := fun j => mset_ne (by omega)
        have f207 : F207 C (mset m 32 C 1) = some (m 14 (7 + 3 * C + 2)) := by rw [F207_s C0 (by omega), y14]
        have f208 : F208 H (mset m 32 C 1) = some sn := by
          rw [← hsn]
          obtain ⟨x, x1, x2, -⟩ := L91 (h := h) (m := m) (v := 0) (H := H) hV.1.1.2.2.2.2.2.2 (by omega) (by omega) hV.1.2.2.2.2.2.1 hV.1.2.2.2.2.2.2.2.2.2.2.2
          have VM : RVC h (mset m 32 C 1) := RVC_keep (fun _ _ _ => rfl) (fun j _ _ => y14 j) (fun j => mset_ne (by omega)) hV
          obtain ⟨x', x3, x4, -⟩ := L91 (h := h) (m := mset m 32 C 1) (v := 0) (H := H) VM.1.1.2.2.2.2.2.2 (by rw [y14]; omega) (by rw [y14]; omega) VM.1.2.2.2.2.2.1 VM.1.2.2.2.2.2.2.2.2.2.2.2
          rw [x4, x2]
          exact x3.symm.trans x1
        have FF := Q_first (k0 := F264_2 P0) (v5 := R) q (by omega) C0 C2 (by omega) d f207 f208 (by omega) (by omega) t0 t1 zFu (-1) 0 (by decide) (by omega) (by omega) (Or.inl ⟨C0, Or.inl rfl⟩)
        rw [eV] at FF
        obtain ⟨h1, m1, a1, a2, a3, a4, a5⟩ := Q_sound (k0 := F264_2 P0) (V := V) (v5 := R) hV q T0 T1 C0 C2 H0 H1 d e64 V9 (by omega) (by omega)
        have eM : F264_2 (P0 + 1) (m 14 2) R m = F264_2 P0 (m 14 2) (R + 1) m1 := by
          rw [F264_2, if_neg (show ¬ m 14 2 ≤ R by omega), FF, a2]
        rw [a1, Option.bind_some, eM]
        have V1 : RVC h1 m1 := zQ_RVC (fun r n j g => a4 r n j (by omega)) (fun r j g => a5 r j (by omega)) hV
        have z14 : m1 14 2 = m 14 2 := a5 14 2 (by omega)
        have f208' : F208 H m1 = some sn := by
          obtain ⟨x, x1, x2, -⟩ := L91 (h := h) (m := m) (v := 0) (H := H) hV.1.1.2.2.2.2.2.2 (by omega) (by omega) hV.1.2.2.2.2.2.1 hV.1.2.2.2.2.2.2.2.2.2.2.2
          have VM : RVC h m1 := RVC_keep (fun _ _ _ => rfl) (fun j _ _ => a5 14 j (by omega)) (fun j => a5 19 j (by omega)) hV
          obtain ⟨x', x3, x4, -⟩ := L91 (h := h) (m := m1) (v := 0) (H := H) VM.1.1.2.2.2.2.2.2 (by rw [a5 14 6 (by omega)]; omega) (by rw [a5 14 6 (by omega)]; omega) VM.1.2.2.2.2.2.1 VM.1.2.2.2.2.2.2.2.2.2.2.2
          rw [← hsn, x4, x2]
          exact x3.symm.trans x1
        have I := ih P0 (C + 1) (R + 1) h1 m1 V1 a3 (by rw [a4 64 1 0 (by omega)]; exact e64) f208' t0 t1 (by omega) (by rw [z14]; omega) (by rw [z14]; omega) (by omega)
        rw [z14] at I
        obtain ⟨h2, m2, R2, P2, b1, b2, b3, b4, b5, b6, b7, b8, b9, b10⟩ := I
        exact ⟨h2, m2, R2, P2, b1, b2, by omega, b4, b5, by omega, fun _ => b6, b8, fun r n j g => by rw [b9 r n j g, a4 r n j (by omega)], fun r j g => by rw [b10 r j g, a5 r j g]⟩
      · rw [if_pos d]
        obtain ⟨h2, m2, R2, P2, b1, b2, b3, b4, b5, b6, b7, b8, b9, b10⟩ := ih P (C + 1) R h m hV (zQ_next q (fun _ _ => d)) e64 hsn t0 t1 (by omega) (by omega) (by omega) gP
        refine ⟨h2, m2, R2, P2, b1, b2, b3, b4, b5, b6, fun ⟨c, c0, c1, c2⟩ => b7 ⟨c, ?_, c1, c2⟩, b8, b9, b10⟩
        by_cases w : c = C
        · subst w; exact absurd c2 d
        · omega
theorem Q_run {T : Int} (T0 : 0 ≤ T) (T1 : T ≤ 200) : ∀ (N P : Nat) (v8 R H : Int) (h : zHC) (m : zHM), RVC h m → zQ h m T H 6 R → zCS h H → h 64 1 0 = H → T ≤ H → H ≤ T + 240 → 0 ≤ v8 → v8 ≤ R → 10 - v8 < N → 6 - R < P → ∃ h' m' R' H', F123_1 N 0 1 0 1 v8 h = F123_2 1 h' ∧ F264_2 P (m 14 2) R m = some m' ∧ zQ h' m' T H' 6 R' ∧ (∀ r n j, ¬ (64 ≤ r ∧ r ≤ 72 ∧ n = 1) → h' r n j = h r n j) ∧ (∀ r j, ¬ (30 ≤ r ∧ r ≤ 33) → m' r j = m r j) := by
  intro N
  induction N with
  | zero =>
    intro P v8 R H h m hV q hS e64 H0 H1 v0 v1 g
    have w6 := hV.1.2.2.2.2.2.2.2.1
    unfold WN at w6
    have := (zQ_R (by omega) q).1
    omega
  | succ N ih =>
    intro P v8 R H h m hV q hS e64 H0 H1 v0 v1 g gP
    have big := zFu_big
    have w6 := hV.1.2.2.2.2.2.2.2.1
    unfold WN at w6
    have qR := zQ_R (by omega) q
    obtain ⟨P0, eP⟩ : ∃ P0, P = P0 + 1 := ⟨P - 1, by omega⟩
    subst eP
    have stop : (∀ c, 0 ≤ c → c < m 14 2 → m 32 c = 0 → m 30 c = -1) → F264_2 (P0 + 1) (m 14 2) R m = some m := by
      intro hn
      rw [F264_2]
      by_cases u : m 14 2 ≤ R
      · rw [if_pos u]
      · rw [if_neg u]
        exact Q_none (by omega) hn zFu 0 (by decide) (by omega) (by omega)
    rw [F123_1]
    by_cases u : 6 ≤ v8
    · rw [if_pos u]
      refine ⟨h, m, R, H, rfl, stop (fun c c0 c1 z => ?_), q, fun _ _ _ _ => rfl, fun _ _ _ => rfl⟩
      have := qR.2 c c0 c1 z
      omega
    · rw [if_neg u, if_neg (show ¬ (1 : Int) = 0 by decide)]
      unfold F124 F125
      rw [zG_t (show 0 ≤ (0 : Int) ∧ (0 : Int) < 30 by decide)]
      by_cases s : h 72 1 0 = 1000000
      · rw [if_pos s, Option.bind_some, if_neg (show ¬ ¬ (0 : Int) = 0 by decide), Option.bind_some]
        dsimp only
        obtain ⟨N0, eN⟩ : ∃ N0, N = N0 + 1 := ⟨N - 1, by omega⟩
        subst eN
        have e : F123_1 (N0 + 1) 0 1 0 0 (wadd v8 1) h = F123_2 1 h := by
          rw [F123_1]
          by_cases z : 6 ≤ wadd v8 1
          · rw [if_pos z]
          · rw [if_neg z, if_pos rfl]
        rw [e]
        refine ⟨h, m, R, H, rfl, stop (fun c c0 c1 z => ?_), q, fun _ _ _ _ => rfl, fun _ _ _ => rfl⟩
        have z3 := q.2.2.1 c c0 c1
        have z1 := q.1 c c0 c1
        rw [z] at z3
        by_cases y : ¬ m 30 c = -1 ∧ (m 30 c < H ∨ m 30 c = H ∧ c < 6)
        · rw [if_pos y] at z3; omega
        · by_cases y2 : m 30 c = -1
          · exact y2
          · have := hS.1 c c0 (by omega) (by rw [z1.1]; omega)
            rw [z1.1] at this
            omega
      · obtain ⟨c, c0, c1, c2, c3⟩ : ∃ c, 0 ≤ c ∧ c < 6 ∧ h 68 1 c = h 72 1 0 ∧ H < h 72 1 0 := by
          rcases hS.2 with z | z
          · exact absurd z s
          · exact z
        rw [if_neg s, Option.bind_some, if_pos (show ¬ (1 : Int) = 0 by decide), zG_t (show 0 ≤ (0 : Int) ∧ (0 : Int) < 30 by decide)]
        obtain ⟨H', eH⟩ : ∃ H', h 72 1 0 = H' := ⟨_, rfl⟩
        rw [eH]
        rw [eH] at c2 c3
        have cn : c < m 14 2 := by
          refine Int.not_le.mp (fun z => ?_)
          have := q.2.1 c z c1
          omega
        have dc := q.1 c c0 cn
        have fh : ∀ r n j, ¬ (r = 64 ∧ n = 1 ∧ j = 0) → (hset h 64 1 0 H') r n j = h r n j := fun r n j g => hset_ne g
        have V1 : RVC (hset h 64 1 0 H') m := zQ_RVC (fun r n j g => fh r n j (by omega)) (fun _ _ _ => rfl) hV
        obtain ⟨sn, x1, x2, x3, x4⟩ := L91 (h := hset h 64 1 0 H') (m := m) (v := 0) (H := H') V1.1.1.2.2.2.2.2.2 (by omega) (by omega) V1.1.2.2.2.2.2.1 V1.1.2.2.2.2.2.2.2.2.2.2.2
        have q' : zQ (hset h 64 1 0 H') m T H' 0 R := zQ_h (zQ_leap q (by omega) c3 (fun k k0 k1 k2 => by
          have := hS.1 k k0 (by omega) (by rw [(q.1 k k0 k1).1]; exact k2)
          rw [(q.1 k k0 k1).1, eH] at this
          exact this)) (fun r j g => fh r 1 j (by omega))
        obtain ⟨h2, m2, R2, P2, b1, b2, b3, b4, b5, b6, b7, b8, b9, b10⟩ := Q_give (H := H') (sn := sn) T0 T1 (by omega) (by omega) zFu (P0 + 1) 0 R (hset h 64 1 0 H') m V1 q' hset_eq x2 x3 x4 (by decide) (by omega) (by omega) gP
        unfold F90
        rw [hset_eq, x1, Option.bind_some, b1, Option.bind_some, Option.bind_some, b2, wadd_eq (x := v8) (by omega) (by omega)]
        have inc := b7 ⟨c, c0, cn, by omega⟩
        have z14 : m2 14 2 = m 14 2 := b10 14 2 (by omega)
        have I := ih P2 (v8 + 1) R2 H' h2 m2 (zQ_RVC b9 b10 V1) b4 b5 b8 (by omega) (by omega) (by omega) (by omega) (by omega) (by omega)
        rw [z14] at I
        obtain ⟨h3, m3, R3, H3, d1, d2, d3, d4, d5⟩ := I
        exact ⟨h3, m3, R3, H3, d1, d2, d3, fun r n j g => by rw [d4 r n j g, b9 r n j g, fh r n j (by omega)], fun r j g => by rw [d5 r j g, b10 r j g]⟩
theorem F264_0s {x T l : Int} {m0 : zHM} (n6 : m0 14 2 ≤ 6) : ∀ (N : Nat) (o : Int) (m : zHM), 0 ≤ o → o ≤ m0 14 2 → m0 14 2 - o < N → (∀ c, 0 ≤ c → c < o → m 30 c = -1 ∧ m 32 c = 0 ∧ m 33 c = 0) → (∀ r j, ¬ (r = 30 ∨ r = 32 ∨ r = 33) → m r j = m0 r j) → ∃ m', F264_0 N x T l (m0 14 2) o m = F264_1 zFu x T l (m0 14 2) 0 m' ∧ (∀ c, 0 ≤ c → c < m0 14 2 → m' 30 c = -1 ∧ m' 32 c = 0 ∧ m' 33 c = 0) ∧ (∀ r j, ¬ (r = 30 ∨ r = 32 ∨ r = 33) → m' r j = m0 r j) := by
  intro N
  induction N with
  | zero => intro o m o0 o1 g; omega
  | succ N ih =>
    intro o m o0 o1 g hf hk
    rw [F264_0]
    by_cases u : m0 14 2 ≤ o
    · rw [if_pos u]
      exact ⟨m, rfl, fun c c0 c1 => hf c c0 (by omega), hk⟩
    · rw [if_neg u, zG_t (by omega), zG_t (by omega), zG_t (by omega), wadd_eq (x := o) (by omega) (by omega)]
      refine ih (o + 1) _ (by omega) (by omega) (by omega) (fun c c0 c1 => ?_) (fun r j g => by rw [mset_ne (by omega), mset_ne (by omega), mset_ne (by omega)]; exact hk r j g)
      by_cases w : c = o
      · subst w
        rw [mset_ne (by omega), mset_ne (by omega), mset_eq, mset_ne (by omega), mset_eq, mset_eq]
        exact ⟨rfl, rfl, rfl⟩
      · rw [mset_ne (by omega), mset_ne (by omega), mset_ne (by omega), mset_ne (by omega), mset_ne (by omega), mset_ne (by omega), mset_ne (by omega), mset_ne (by omega), mset_ne (by omega)]
        exact hf c c0 (by omega)
theorem Q_way {h : zHC} {m : zHM} {T x l : Int} (hV : RVC h m) (T0 : 0 ≤ T) (T1 : T ≤ 200) (x0 : 0 ≤ x) (x1 : x < 100) (l0 : 1 ≤ l) (l1 : l ≤ 9) : ∃ h' m' R H, F123 0 1 T x l h = F123_2 1 h' ∧ F264 x T l m = some m' ∧ zQ h' m' T H 6 R ∧ (∀ r n j, ¬ (64 ≤ r ∧ r ≤ 72 ∧ n = 1) → h' r n j = h r n j) ∧ (∀ r j, ¬ (30 ≤ r ∧ r ≤ 33) → m' r j = m r j) := by
  have big := zFu_big
  have w6 := hV.1.2.2.2.2.2.2.2.1
  unfold WN at w6
  unfold F123 F264
  obtain ⟨H, eH⟩ : ∃ H, hset (hset (hset h 64 1 0 T) 65 1 0 0) 66 1 0 0 = H := ⟨_, rfl⟩
  rw [eH]
  have fH : ∀ r n j, ¬ (64 ≤ r ∧ r ≤ 66 ∧ n = 1) → H r n j = h r n j := fun r n j g => by rw [← eH, hset_ne (by omega), hset_ne (by omega), hset_ne (by omega)]
  obtain ⟨h1, a1, a2, a3, a4, a5, a6, a7, a8, a9, a10, a11, a12⟩ := F79_pre (h := H) (i := 1) (v := 0) (p := 0) (x := x) (w := 1) (l := l) (k := 0) (by rw [← eH, hset_ne (by omega), hset_eq]) (by decide) (by decide)
  simp only [Int.zero_mul, Int.zero_add] at a11 a12
  obtain ⟨m1, b1, b2, b3⟩ := F264_0s (x := x) (T := T) (l := l) (m0 := m) (by omega) zFu 0 m (by decide) (by omega) (by omega) (fun c c0 c1 => by omega) (fun _ _ _ => rfl)
  have f1 : ∀ r n j, ¬ (64 ≤ r ∧ r ≤ 72 ∧ n = 1) → h1 r n j = h r n j := fun r n j g => by rw [a12 r n j (by omega), fH r n j (by omega)]
  have V1 : RVC h1 m1 := zQ_RVC f1 (fun r j g => b3 r j (by omega)) hV
  have n14 : m1 14 2 = m 14 2 := b3 14 2 (by omega)
  have e66 : h1 66 1 0 = 0 := by rw [a12 66 1 0 (by omega), ← eH, hset_eq]
  have e64 : h1 64 1 0 = T := by rw [a12 64 1 0 (by omega), ← eH, hset_ne (by omega), hset_ne (by omega), hset_eq]
  have q0 : zQ h1 m1 T T 0 0 := by
    refine ⟨fun c c0 c1 => ?_, fun c c0 c1 => a11 c (by omega) (by omega), fun c c0 c1 => ?_, fun c c0 c1 _ => (b2 c c0 (by omega)).2.2, ⟨by omega, by omega, ?_⟩, fun y z t t1 => ?_, fun c c0 c1 c2 => absurd (b2 c c0 (by omega)).1 c2⟩
    · rw [a11 c c0 (by omega), (b2 c c0 (by omega)).1]
      exact ⟨rfl, Or.inl rfl⟩
    · rw [(b2 c c0 (by omega)).2.1, (b2 c c0 (by omega)).1, if_neg (fun z => z.1 rfl)]
    · have e := zsum_cong (f := m1 32) (g := fun _ => 0) (n := (m1 14 2).toNat) (fun j j0 j1 => (b2 j j0 (by omega)).2.1)
      rw [e]
      have p : ∀ n : Nat, zsum (fun _ : Int => (0 : Int)) n = 0 := by
        intro n
        induction n with
        | zero => rfl
        | succ n ih => unfold zsum; rw [ih]; rfl
      exact (p _).symm
    · constructor
      · rintro ⟨j, j0, j1, -⟩
        omega
      · rintro ⟨y0, y1, y2, -⟩
        have := (b2 y y0 (by omega)).2.2
        omega
  have D := Q_dir T0 T1 x0 x1 l0 l1 zFu zFu 0 h1 m1 V1 q0 e64 (by decide) (by omega) (by omega) (by omega)
  rw [n14] at D
  obtain ⟨h2, m2, c1, c2, c3, c4, c5, c6⟩ := D
  rw [a1, c1, Option.bind_some, if_neg (show ¬ (0 : Int) = -1 by decide), b1, c2]
  unfold F123_0
  have n142 : m2 14 2 = m 14 2 := by rw [c6 14 2 (by omega)]; exact n14
  have Q := Q_run T0 T1 zFu zFu 0 0 T h2 m2 (zQ_RVC (fun r n j g => c5 r n j (by omega)) (fun r j g => c6 r j (by omega)) V1) (zQ_0 c3) c4 (by rw [c5 64 1 0 (by omega)]; exact e64) (Int.le_refl T) (by omega) (by decide) (by decide) (by omega) (by omega)
  rw [n142] at Q
  obtain ⟨h3, m3, R3, H3, d1, d2, d3, d4, d5⟩ := Q
  exact ⟨h3, m3, R3, H3, d1, d2, d3, fun r n j g => by rw [d4 r n j g, c5 r n j (by omega), f1 r n j g], fun r j g => by rw [d5 r j g, c6 r j (by omega), b3 r j (by omega)]⟩
