/-! Pieces: a cliff sounds; the next hour in which one does. -/
theorem F93_t {h : zHC} {v c f i : Int} (c0 : 0 ≤ c) (c1 : c < 6) : ∃ r, F93 v c f i h = some r := by
  have key : ∀ (n : Nat) (b p : Int), 0 ≤ p → p ≤ 6 → 6 - p < n → ∃ r, F93_0 h n v c f i b p = some r := by
    intro n
    induction n with
    | zero => intro b p p0 p1 g; omega
    | succ n ih =>
      intro b p p0 p1 g
      rw [F93_0]
      by_cases u : h 579 v 0 ≤ p
      · rw [if_pos u]; exact ⟨b, rfl⟩
      · rw [if_neg u]
        by_cases w : 6 ≤ p
        · rw [if_pos w]; exact ⟨b, rfl⟩
        · rw [if_neg w, zG_t ⟨c0, c1⟩, zG_t (by omega)]
          obtain ⟨x, hx⟩ : ∃ x, F83 (h 584 v c) (h 67 i p) = some x := ⟨_, rfl⟩
          unfold F93_1
          rw [hx, Option.bind_some, wadd_eq (x := p) (y := 1) (by omega) (by omega)]
          split
          · exact ih _ (p + 1) (by omega) (by omega) (by omega)
          · exact ih _ (p + 1) (by omega) (by omega) (by omega)
  have big := zFu_big
  exact key zFu 0 0 (by decide) (by decide) (by omega)
theorem Q_gone {h h1 : zHC} {m : zHM} {T H C R s0 : Int} (q : zQ h m T H C R) (n0 : 0 ≤ m 14 2) (C0 : 0 ≤ C) (C1 : C < m 14 2) (H0 : 0 ≤ H) (eH : m 30 C = H) (f1 : ∀ r j, (r = 68 ∨ r = 69) → h1 r 1 j = h r 1 j) (hl : (s0 = 0 ∧ h1 66 1 0 = h 66 1 0 ∧ ∀ j, h1 71 1 j = h 71 1 j) ∨ (1 ≤ s0 ∧ h1 66 1 0 = h 66 1 0 + 1 ∧ (∀ j, 0 ≤ j → j < 5 * h 66 1 0 → h1 71 1 j = h 71 1 j) ∧ h1 71 1 (h 66 1 0 * 5 + 1) = C ∧ h1 71 1 (h 66 1 0 * 5 + 2) = H ∧ h1 71 1 (h 66 1 0 * 5 + 3) = s0)) : zQ h1 (mset (mset m 32 C 1) 33 C s0) T H (C + 1) (R + 1) := by
  obtain ⟨q1, q2, q3, q4, q5, q6, q7⟩ := q
  have g0 : m 32 C = 0 := by rw [q3 C C0 C1, if_neg (by omega)]
  have z33 := q4 C C0 C1 g0
  obtain ⟨M, eM⟩ : ∃ M, mset (mset m 32 C 1) 33 C s0 = M := ⟨_, rfl⟩
  rw [eM]
  have fm : ∀ r j, ¬ ((r = 32 ∨ r = 33) ∧ j = C) → M r j = m r j := fun r j g => by rw [← eM, mset_ne (by omega), mset_ne (by omega)]
  have y14 : M 14 = m 14 := by funext j; exact fm 14 j (by omega)
  have y30 : M 30 = m 30 := by funext j; exact fm 30 j (by omega)
  have y31 : M 31 = m 31 := by funext j; exact fm 31 j (by omega)
  have x32 : M 32 C = 1 := by rw [← eM, mset_ne (by omega), mset_eq]
  have x33 : M 33 C = s0 := by rw [← eM, mset_eq]
  refine ⟨fun c c0 c1 => ?_, fun c c0 c1 => ?_, fun c c0 c1 => ?_, fun c c0 c1 c2 => ?_, ⟨?_, ?_, ?_⟩, fun x y z z1 => ?_, fun c c0 c1 c2 => ?_⟩
  · rw [y14] at c1
    rw [y30, y31, f1 68 c (by omega), f1 69 c (by omega)]
    exact q1 c c0 c1
  · rw [y14] at c0
    rw [f1 68 c (by omega)]
    exact q2 c c0 c1
  · rw [y14] at c1
    rw [y30]
    by_cases w : c = C
    · subst w
      rw [x32, if_pos (by omega)]
    · rw [fm 32 c (by omega), q3 c c0 c1]
      by_cases v : ¬ m 30 c = -1 ∧ (m 30 c < H ∨ m 30 c = H ∧ c < C)
      · rw [if_pos v, if_pos (by omega)]
      · rw [if_neg v, if_neg (by omega)]
  · rw [y14] at c1
    by_cases w : c = C
    · subst w; omega
    · rw [fm 32 c (by omega)] at c2
      rw [fm 33 c (by omega)]
      exact q4 c c0 c1 c2
  · rcases hl with ⟨-, e, -⟩ | ⟨-, e, -⟩ <;> omega
  · rcases hl with ⟨-, e, -⟩ | ⟨-, e, -⟩ <;> omega
  · rw [y14]
    have e := zsum_upd (f := m 32) (g := M 32) (n := (m 14 2).toNat) (k := C) (d := 1) C0 (by omega) (by omega) (fun j j0 j1 j2 => fm 32 j (by omega))
    omega
  · rw [y14, y30]
    rcases hl with ⟨s1, s2, s3⟩ | ⟨s1, s2, s3, s4, s5, s6⟩
    · rw [s2]
      simp only [s3]
      refine (q6 x y z z1).trans ?_
      by_cases w : x = C
      · subst w
        rw [x33, z33]
        exact ⟨fun t => by omega, fun t => by omega⟩
      · rw [fm 33 x (by omega)]
    · rw [s2]
      by_cases w : x = C ∧ y = H ∧ z = s0
      · obtain ⟨w1, w2, w3⟩ := w
        subst w1 w2 w3
        exact ⟨fun _ => ⟨C0, C1, x33, eH⟩, fun _ => ⟨h 66 1 0, q5.1, by omega, s4, s5, s6⟩⟩
      · have lft : (∃ j, 0 ≤ j ∧ j < h 66 1 0 + 1 ∧ h1 71 1 (j * 5 + 1) = x ∧ h1 71 1 (j * 5 + 2) = y ∧ h1 71 1 (j * 5 + 3) = z) ↔ (∃ j, 0 ≤ j ∧ j < h 66 1 0 ∧ h 71 1 (j * 5 + 1) = x ∧ h 71 1 (j * 5 + 2) = y ∧ h 71 1 (j * 5 + 3) = z) := by
          constructor
          · rintro ⟨j, j0, j1, j2, j3, j4⟩
            by_cases u : j = h 66 1 0
            · subst u
              exact absurd ⟨j2.symm.trans s4, j3.symm.trans s5, j4.symm.trans s6⟩ w
            · rw [s3 _ (by omega) (by omega)] at j2 j3 j4
              exact ⟨j, j0, by omega, j2, j3, j4⟩
          · rintro ⟨j, j0, j1, j2, j3, j4⟩
            exact ⟨j, j0, by omega, by rw [s3 _ (by omega) (by omega)]; exact j2, by rw [s3 _ (by omega) (by omega)]; exact j3, by rw [s3 _ (by omega) (by omega)]; exact j4⟩
        refine lft.trans ((q6 x y z z1).trans ?_)
        by_cases u : x = C
        · subst u
          rw [x33, z33]
          exact ⟨fun t => by omega, fun t => absurd ⟨rfl, t.2.2.2.symm.trans eH, t.2.2.1.symm⟩ w⟩
        · rw [fm 33 x (by omega)]
  · rw [y14] at c1
    rw [y30] at c2
    obtain ⟨S, t1, t2, t3, t4⟩ := q7 c c0 c1 c2
    refine ⟨S, by rw [y14]; exact t1, t2, fun e e0 e1 e2 => ?_, ?_⟩
    · rw [y14] at e1
      rcases t3 e e0 e1 e2 with z | z
      · exact Or.inl z
      · by_cases w : e = C
        · subst w; exact Or.inr x32
        · exact Or.inr (by rw [fm 32 e (by omega)]; exact z)
    · rw [y30, t4]
      unfold zDl
      rw [y14]
theorem Q_sound {h : zHC} {m : zHM} {T H C R V v5 : Int} {k0 : Int → Int → zHM → Option zHM} (hV : RVC h m) (q : zQ h m T H C R) (T0 : 0 ≤ T) (T1 : T ≤ 200) (C0 : 0 ≤ C) (C1 : C < m 14 2) (H0 : T ≤ H) (H1 : H ≤ T + 240) (eH : m 30 C = H) (e64 : h 64 1 0 = H) (V1 : V ≤ 9) (v0 : 0 ≤ v5) (v1 : v5 ≤ 10) : ∃ h' m', F92 1 0 0 C V h = some h' ∧ (if 0 ≤ V then F264_5 k0 (m 14 2) v5 C V V C (mset m 32 C 1) else F264_5 k0 (m 14 2) v5 C V 0 C (mset m 32 C 1)) = k0 (m 14 2) (v5 + 1) m' ∧ zQ h' m' T H (C + 1) (R + 1) ∧ (∀ r n j, ¬ ((r = 66 ∨ (68 ≤ r ∧ r ≤ 71)) ∧ n = 1) → h' r n j = h r n j) ∧ (∀ r j, ¬ (30 ≤ r ∧ r ≤ 33) → m' r j = m r j) := by
  have big := zFu_big
  have w6 := hV.1.2.2.2.2.2.2.2.1
  unfold WN at w6
  have q5 := q.2.2.2.2.1
  have qR := zQ_R (by omega) q
  have g0 : m 32 C = 0 := by rw [q.2.2.1 C C0 C1, if_neg (by omega)]
  unfold F264_5
  rw [zG_t (show 0 ≤ C ∧ C < 6 by omega), zG_t (show 0 ≤ C ∧ C < 6 by omega)]
  by_cases p : 1 ≤ V
  · rw [if_pos (show 0 ≤ V by omega)]
    obtain ⟨r, hr⟩ := F93_t (h := h) (v := 0) (c := C) (f := V) (i := 1) C0 (by omega)
    obtain ⟨h1, b1, b2, b3, b4, b5, b6, b7, b8, b9, b10, b11⟩ := F92_pre (k := 0) (E := h 66 1 0) hr rfl q5.1 (by omega) (by decide) (by decide) p
    rw [b1]
    have z1 : zQ h1 (mset (mset m 32 C 1) 33 C V) T H (C + 1) (R + 1) := Q_gone q (by omega) C0 C1 (by omega) eH (fun r j g => b2 r 1 j (by omega)) (Or.inr ⟨p, b3, fun j j0 j1 => b2 71 1 j (by omega), b5, by rw [b6]; exact e64, b7⟩)
    have fm : ∀ r j, ¬ (r = 32 ∨ r = 33) → (mset (mset m 32 C 1) 33 C V) r j = m r j := fun r j g => by rw [mset_ne (by omega), mset_ne (by omega)]
    have V2 : RVC h1 (mset (mset m 32 C 1) 33 C V) := zQ_RVC (fun r n j g => b2 r n j (by omega)) (fun r j g => fm r j (by omega)) hV
    have n14 : (mset (mset m 32 C 1) 33 C V) 14 2 = m 14 2 := fm 14 2 (by omega)
    have O := Q_on (k0 := k0) (v5 := v5) (C := C) (f := V) T0 T1 C0 p V1 H0 H1 zFu zFu 0 h1 _ V2 z1 (by rw [n14]; exact C1) (by rw [fm 30 C (by omega)]; exact eH) (by rw [mset_ne (by omega), mset_eq]) (by rw [b2 64 1 0 (by omega)]; exact e64) (by decide) (by rw [n14]; omega) (by rw [n14]; omega) (by rw [n14]; omega)
    rw [n14] at O
    obtain ⟨h2, m2, c1, c2, c3, c4, c5, c6, c7⟩ := O
    rw [wadd_eq (x := v5) (by omega) (by omega)] at c2
    exact ⟨h2, m2, c1, c2, c3, fun r n j g => by rw [c5 r n j (by omega), b2 r n j (by omega)], fun r j g => by rw [c6 r j (by omega), fm r j (by omega)]⟩
  · have e92 : F92 1 0 0 C V h = some h := by
      unfold F92
      rw [if_neg (by omega)]
    have fm : ∀ r j, ¬ (r = 32 ∨ r = 33) → (mset (mset m 32 C 1) 33 C 0) r j = m r j := fun r j g => by rw [mset_ne (by omega), mset_ne (by omega)]
    have e264 : F264_8 k0 zFu (m 14 2) v5 C V 0 (mset (mset m 32 C 1) 33 C 0) = k0 (m 14 2) (v5 + 1) (mset (mset m 32 C 1) 33 C 0) := by
      obtain ⟨N, eN⟩ : ∃ N, zFu = N + 1 := ⟨zFu - 1, by omega⟩
      rw [eN, F264_8, if_neg (show ¬ m 14 2 ≤ 0 by omega), if_pos (show V ≤ 0 by omega)]
      unfold F264_9
      rw [wadd_eq (x := v5) (by omega) (by omega)]
    have e0 : (if 0 ≤ V then F264_8 k0 zFu (m 14 2) v5 C V 0 (mset (mset m 32 C 1) 33 C V) else F264_8 k0 zFu (m 14 2) v5 C V 0 (mset (mset m 32 C 1) 33 C 0)) = F264_8 k0 zFu (m 14 2) v5 C V 0 (mset (mset m 32 C 1) 33 C 0) := by
      by_cases u : 0 ≤ V
      · have : V = 0 := by omega
        subst this
        rw [if_pos u]
      · rw [if_neg u]
    rw [e0, e92, e264]
    exact ⟨h, _, rfl, rfl, Q_gone q (by omega) C0 C1 (by omega) eH (fun _ _ _ => rfl) (Or.inl ⟨rfl, rfl, fun _ => rfl⟩), fun _ _ _ _ => rfl, fun r j g => fm r j (by omega)⟩
theorem Q_first {h : zHC} {m : zHM} {T H C R st sn v5 : Int} {k0 : Int → Int → zHM → Option zHM} (q : zQ h m T H C R) (n6 : m 14 2 ≤ 6) (C0 : 0 ≤ C) (C1 : C < m 14 2) (H0 : 0 ≤ H) (eH : m 30 C = H) (hst : F207 C (mset m 32 C 1) = some st) (hsn : F208 H (mset m 32 C 1) = some sn) (s0 : 1 ≤ st) (s1 : st ≤ 9) (t0 : 0 ≤ sn) (t1 : sn ≤ 9) : ∀ (N : Nat) (v6 v7 : Int), 0 ≤ v7 → v7 ≤ m 14 2 → m 14 2 - v7 < N → ((v7 ≤ C ∧ (v6 = -1 ∨ (0 ≤ v6 ∧ v6 < v7 ∧ H < m 30 v6))) ∨ (C < v7 ∧ v6 = C)) → F264_4 k0 N (m 14 2) v5 v6 v7 m = if 0 ≤ (if st - sn ≤ m 31 C then st - sn else m 31 C) then F264_5 k0 (m 14 2) v5 C (if st - sn ≤ m 31 C then st - sn else m 31 C) (if st - sn ≤ m 31 C then st - sn else m 31 C) C (mset m 32 C 1) else F264_5 k0 (m 14 2) v5 C (if st - sn ≤ m 31 C then st - sn else m 31 C) 0 C (mset m 32 C 1) := by
  intro N
  induction N with
  | zero => intro v6 v7 a b g; omega
  | succ N ih =>
    intro v6 v7 a b g hc
    have g0 : m 32 C = 0 := by rw [q.2.2.1 C C0 C1, if_neg (by omega)]
    by_cases u : m 14 2 ≤ v7
    · have e6 : v6 = C := by omega
      subst e6
      rw [F264_4, if_pos u, if_pos (show ¬ v6 = -1 by omega), zG_t (by omega), zG_t (by omega), hst, Option.bind_some, zG_t (by omega), eH, hsn, Option.bind_some, wsub_eq (by omega) (by omega)]
      unfold F238
      by_cases w : st - sn ≤ m 31 v6
      · rw [if_pos w, Option.bind_some]
        simp only [if_pos w]
      · rw [if_neg w, Option.bind_some]
        simp only [if_neg w]
    · have go : ∀ x, ((v7 + 1 ≤ C ∧ (x = -1 ∨ (0 ≤ x ∧ x < v7 + 1 ∧ H < m 30 x))) ∨ (C < v7 + 1 ∧ x = C)) → F264_4 k0 N (m 14 2) v5 x (wadd v7 1) m = if 0 ≤ (if st - sn ≤ m 31 C then st - sn else m 31 C) then F264_5 k0 (m 14 2) v5 C (if st - sn ≤ m 31 C then st - sn else m 31 C) (if st - sn ≤ m 31 C then st - sn else m 31 C) C (mset m 32 C 1) else F264_5 k0 (m 14 2) v5 C (if st - sn ≤ m 31 C then st - sn else m 31 C) 0 C (mset m 32 C 1) := fun x hx => by
        rw [wadd_eq (x := v7) (by omega) (by omega)]
        exact ih x (v7 + 1) (by omega) (by omega) (by omega) hx
      have d7 := q.1 v7 a (by omega)
      have g7 := q.2.2.1 v7 a (by omega)
      rw [F264_4, if_neg u, zG_t (show 0 ≤ v7 ∧ v7 < 6 by omega)]
      unfold F264_7
      unfold F264_6
      by_cases w : m 32 v7 = 0
      · rw [if_neg (show ¬ ¬ m 32 v7 = 0 from fun z => z w), zG_t (show 0 ≤ v7 ∧ v7 < 6 by omega)]
        by_cases w2 : m 30 v7 = -1
        · rw [if_pos w2]
          refine go v6 ?_
          by_cases y : v7 = C
          · subst y; omega
          · omega
        · rw [if_neg w2]
          have ge : H < m 30 v7 ∨ (m 30 v7 = H ∧ C ≤ v7) := by
            rw [w] at g7
            by_cases y : ¬ m 30 v7 = -1 ∧ (m 30 v7 < H ∨ m 30 v7 = H ∧ v7 < C)
            · rw [if_pos y] at g7; omega
            · omega
          by_cases w3 : v6 = -1
          · rw [if_pos w3]
            refine go v7 ?_
            by_cases y : v7 = C
            · exact Or.inr ⟨by omega, y⟩
            · exact Or.inl ⟨by omega, Or.inr ⟨a, by omega, by omega⟩⟩
          · rw [if_neg w3, zG_t (show 0 ≤ v7 ∧ v7 < 6 by omega), zG_t (show 0 ≤ v6 ∧ v6 < 6 by omega)]
            by_cases w4 : m 30 v6 ≤ m 30 v7
            · rw [if_pos w4]
              refine go v6 ?_
              rcases hc with ⟨y1, y2⟩ | ⟨y1, y2⟩
              · by_cases y : v7 = C
                · subst y; omega
                · omega
              · omega
            · rw [if_neg w4]
              refine go v7 ?_
              rcases hc with ⟨y1, y2⟩ | ⟨y1, y2⟩
              · by_cases y : v7 = C
                · exact Or.inr ⟨by omega, y⟩
                · exact Or.inl ⟨by omega, Or.inr ⟨a, by omega, by omega⟩⟩
              · subst y2; omega
      · rw [if_pos w]
        refine go v6 ?_
        by_cases y : v7 = C
        · subst y; exact absurd g0 w
        · omega
theorem Q_none {m : zHM} {v5 : Int} {k0 : Int → Int → zHM → Option zHM} (n6 : m 14 2 ≤ 6) (hn : ∀ c, 0 ≤ c → c < m 14 2 → m 32 c = 0 → m 30 c = -1) : ∀ (N : Nat) (v7 : Int), 0 ≤ v7 → v7 ≤ m 14 2 → m 14 2 - v7 < N → F264_4 k0 N (m 14 2) v5 (-1) v7 m = some m := by
  intro N
  induction N with
  | zero => intro v7 a b g; omega
  | succ N ih =>
    intro v7 a b g
    rw [F264_4]
    by_cases u : m 14 2 ≤ v7
    · rw [if_pos u, if_neg (show ¬ ¬ (-1 : Int) = -1 by decide)]
    · rw [if_neg u, zG_t (show 0 ≤ v7 ∧ v7 < 6 by omega)]
      unfold F264_6
      rw [wadd_eq (x := v7) (by omega) (by omega)]
      have go := ih (v7 + 1) (by omega) (by omega) (by omega)
      by_cases w : m 32 v7 = 0
      · rw [if_neg (show ¬ ¬ m 32 v7 = 0 from fun z => z w), zG_t (show 0 ≤ v7 ∧ v7 < 6 by omega), if_pos (hn v7 a (by omega) w)]
        exact go
      · rw [if_pos w]
        exact go
