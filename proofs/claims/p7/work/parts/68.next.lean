/-! step() and go(). -/
theorem F23_s {c : Int} : F23 c = some (if c = 32 ∨ c = 10 then 1 else 0) := by
  unfold F23 F23_0
  by_cases q : c = 32
  · rw [if_pos q, if_pos (Or.inl q)]
  · rw [if_neg q]
    by_cases q2 : c = 10
    · rw [if_neg (fun z => z q2), if_pos (Or.inr q2)]
    · rw [if_pos q2, if_neg (by omega)]
theorem F28_s {c : Int} : F28 c = some (if c = 59 ∨ c = 60 ∨ c = 61 ∨ c = 62 ∨ c = 40 ∨ c = 41 then 1 else 0) := by
  unfold F28 F28_0
  by_cases q1 : c = 59
  · rw [if_pos q1, if_pos (by omega)]
  rw [if_neg q1]
  by_cases q2 : c = 60
  · rw [if_pos q2, if_pos (by omega)]
  rw [if_neg q2]
  by_cases q3 : c = 61
  · rw [if_pos q3, if_pos (by omega)]
  rw [if_neg q3]
  by_cases q4 : c = 62
  · rw [if_pos q4, if_pos (by omega)]
  rw [if_neg q4]
  by_cases q5 : c = 40
  · rw [if_pos q5, if_pos (by omega)]
  rw [if_neg q5]
  by_cases q6 : c = 41
  · rw [if_neg (fun z => z q6), if_pos (by omega)]
  · rw [if_pos q6, if_neg (by omega)]
theorem MB : ∀ (n : Nat) (m : zHM), 0 ≤ m 5 0 → m 5 0 ≤ m 3 0 → m 3 0 ≤ 940 → m 3 0 - m 5 0 < n → ∃ m1, F176_0 n m = F176_1 m1 ∧ m 5 0 ≤ m1 5 0 ∧ m1 5 0 ≤ m 3 0 ∧ ∀ r j, ¬ (r = 5 ∧ j = 0) → m1 r j = m r j := by
  intro n
  induction n with
  | zero => intro m p0 p1 s g; omega
  | succ n ih =>
    intro m p0 p1 s g
    rw [F176_0]
    by_cases e : m 3 0 ≤ m 5 0
    · rw [if_pos e]
      exact ⟨m, rfl, Int.le_refl _, p1, fun _ _ _ => rfl⟩
    · rw [if_neg e]
      simp (disch := omega) only [zG_t]
      unfold F176_2
      rw [wadd_eq (by omega) (by omega)]
      have nx : ∃ m1, F176_0 n (mset m 5 0 (m 5 0 + 1)) = F176_1 m1 ∧ m 5 0 ≤ m1 5 0 ∧ m1 5 0 ≤ m 3 0 ∧ ∀ r j, ¬ (r = 5 ∧ j = 0) → m1 r j = m r j := by
        obtain ⟨m1, a1, a2, a3, a4⟩ := ih (mset m 5 0 (m 5 0 + 1)) (by rw [mset_eq]; omega) (by rw [mset_eq, mset_ne (by omega)]; omega) (by rw [mset_ne (by omega)]; exact s) (by rw [mset_eq, mset_ne (by omega)]; omega)
        rw [mset_eq] at a2
        rw [mset_ne (by omega)] at a3
        exact ⟨m1, a1, by omega, a3, fun r j hne => by rw [a4 r j hne, mset_ne (by omega)]⟩
      by_cases q : m 1 (m 5 0) = 32
      · rw [if_pos q]; exact nx
      · rw [if_neg q]
        by_cases q2 : m 1 (m 5 0) = 10
        · rw [if_neg (fun z => z q2)]; exact nx
        · rw [if_pos q2]
          exact ⟨m, rfl, Int.le_refl _, p1, fun _ _ _ => rfl⟩
theorem T_blank {stop : Int} : ∀ (n n' : Nat) (h : zHC) (m : zHM), TB h m → h 328 0 0 = m 5 0 → 0 ≤ m 5 0 → m 5 0 ≤ m 3 0 → stop ≤ m 3 0 → m 3 0 - m 5 0 < n → m 3 0 - m 5 0 < n' → ∃ h1 m1, F21_0 n stop h = F21_1 stop h1 ∧ F176_0 n' m = F176_1 m1 ∧ (∀ r n j, ¬ (r = 328 ∧ n = 0 ∧ j = 0) → h1 r n j = h r n j) ∧ (∀ r j, ¬ (r = 5 ∧ j = 0) → m1 r j = m r j) ∧ 0 ≤ m1 5 0 ∧ m1 5 0 ≤ m 3 0 ∧ ((h1 328 0 0 = m1 5 0 ∧ m1 5 0 < stop) ∨ (stop ≤ h1 328 0 0 ∧ stop ≤ m1 5 0)) := by
  intro n
  induction n with
  | zero => intro n' h m hb hp p0 p1 hs g1 g2; omega
  | succ n ih =>
    intro n' h m hb hp p0 p1 hs g1 g2
    cases n' with
    | zero => omega
    | succ n' =>
      obtain ⟨b1, b2, b3, b4, b5, b6, b7, b8⟩ := id hb
      by_cases e : stop ≤ m 5 0
      · obtain ⟨m1, a1, a2, a3, a4⟩ := MB (n' + 1) m p0 p1 b3 (by omega)
        rw [F21_0, if_pos (by omega)]
        exact ⟨h, m1, rfl, a1, fun _ _ _ _ => rfl, a4, by omega, a3, Or.inr ⟨by omega, by omega⟩⟩
      · obtain ⟨c1, c2, c3⟩ := b7 (m 5 0) (by omega) (by omega)
        rw [F21_0, F176_0, hp, if_neg e, if_neg (show ¬ m 3 0 ≤ m 5 0 by omega)]
        simp (disch := omega) only [zG_t]
        rw [c1, F23_s]
        simp only [Option.bind_some]
        unfold F176_2
        rw [wadd_eq (by omega) (by omega)]
        by_cases q : m 1 (m 5 0) = 32 ∨ m 1 (m 5 0) = 10
        · rw [if_pos q, if_neg (show ¬ (1 : Int) = 0 by decide)]
          have em : (if m 1 (m 5 0) = 32 then F176_0 n' (mset m 5 0 (m 5 0 + 1)) else if ¬ m 1 (m 5 0) = 10 then F176_1 m else F176_0 n' (mset m 5 0 (m 5 0 + 1))) = F176_0 n' (mset m 5 0 (m 5 0 + 1)) := by
            rcases q with q | q
            · rw [if_pos q]
            · by_cases u : m 1 (m 5 0) = 32
              · rw [if_pos u]
              · rw [if_neg u, if_neg (fun z => z q)]
          rw [em]
          obtain ⟨h1, m1, x1, x2, x3, x4, x5, x6, x7⟩ := ih n' (hset h 328 0 0 (m 5 0 + 1)) (mset m 5 0 (m 5 0 + 1)) (TB_keep hb (fun r n j hne => hset_ne (by omega)) (fun r j hne => mset_ne (by omega))) (by rw [hset_eq, mset_eq]) (by rw [mset_eq]; omega) (by rw [mset_eq, mset_ne (by omega)]; omega) (by rw [mset_ne (by omega)]; exact hs) (by rw [mset_eq, mset_ne (by omega)]; omega) (by rw [mset_eq, mset_ne (by omega)]; omega)
          exact ⟨h1, m1, x1, x2, fun r n j hne => by rw [x3 r n j hne, hset_ne (by omega)], fun r j hne => by rw [x4 r j hne, mset_ne (by omega)], x5, by rw [mset_ne (by omega)] at x6; exact x6, x7⟩
        · rw [if_neg q, if_pos rfl, if_neg (show ¬ m 1 (m 5 0) = 32 by omega), if_pos (show ¬ m 1 (m 5 0) = 10 by omega)]
          exact ⟨h, m, rfl, rfl, fun _ _ _ _ => rfl, fun _ _ _ => rfl, p0, p1, Or.inl ⟨hp, by omega⟩⟩
theorem T_step {h : zHC} {m : zHM} (hb : TB h m) (hp : h 328 0 0 = m 5 0) (p0 : 0 ≤ m 5 0) (p1 : m 5 0 ≤ m 3 0) : ∃ h' m', F21 h = some h' ∧ F176 m = some m' ∧ TR h' m' ∧ (∀ r n j, ¬ (324 ≤ r ∧ r ≤ 328) → h' r n j = h r n j) ∧ (∀ r j, ¬ ((5 ≤ r ∧ r ≤ 9) ∨ r = 12) → m' r j = m r j) := by
  have big := zFu_big
  obtain ⟨b1, b2, b3, b4, b5, b6, b7, b8⟩ := id hb
  have es : ∃ stop, (if h 329 0 0 < h 321 0 0 then h 329 0 0 else h 321 0 0) = stop ∧ stop ≤ m 3 0 ∧ stop ≤ m 4 0 ∧ (m 3 0 ≤ m 4 0 → stop = m 3 0) ∧ (m 4 0 < m 3 0 → stop = m 4 0) := by
    refine ⟨_, rfl, ?_⟩
    rw [b4, b1]
    by_cases q : m 4 0 < m 3 0
    · rw [if_pos q]; exact ⟨by omega, by omega, by omega, fun _ => rfl⟩
    · rw [if_neg q]; exact ⟨by omega, by omega, fun _ => rfl, by omega⟩
  obtain ⟨stop, s1, s2, s3, s4, s5⟩ := es
  obtain ⟨h1, m1, x1, x2, x3, x4, x5, x6, x7⟩ := T_blank (stop := stop) zFu zFu h m hb hp p0 p1 s2 (by omega) (by omega)
  unfold F21 F176
  rw [s1, x1, x2]
  have e3 : m1 3 0 = m 3 0 := x4 3 0 (by omega)
  have e4 : m1 4 0 = m 4 0 := x4 4 0 (by omega)
  have hb1 : TB h1 m1 := TB_keep hb (fun r n j hne => x3 r n j (by omega)) (fun r j hne => x4 r j (by omega))
  unfold F21_1 F176_1
  rw [e3, e4]
  rcases x7 with ⟨y1, y2⟩ | ⟨y1, y2⟩
  · obtain ⟨c1, c2, c3⟩ := hb1.2.2.2.2.2.2.1 (m1 5 0) x5 (by omega)
    have eM : (if m 3 0 ≤ m 4 0 then F176_3 (mset m1 6 0 (m1 5 0)) else if m1 5 0 < m 4 0 then F176_3 (mset m1 6 0 (m1 5 0)) else some (mset (mset (mset m1 6 0 (m1 5 0)) 6 0 (m 4 0)) 7 0 1)) = F176_3 (mset m1 6 0 (m1 5 0)) := by
      by_cases q : m 3 0 ≤ m 4 0
      · rw [if_pos q]
      · rw [if_neg q, if_pos (by omega)]
    rw [eM, y1, if_pos y2, if_neg (show ¬ stop < m1 5 0 by omega)]
    unfold F176_3
    have g1 : ∀ r j, ¬ (r = 6 ∧ j = 0) → (mset m1 6 0 (m1 5 0)) r j = m1 r j := fun r j hne => mset_ne hne
    have g2 : (mset m1 6 0 (m1 5 0)) 6 0 = m1 5 0 := mset_eq
    generalize mset m1 6 0 (m1 5 0) = m2 at g1 g2
    have k1 : ∀ r n j, ¬ (r = 325 ∧ n = 0 ∧ j = 0) → (hset h1 325 0 0 (m1 5 0)) r n j = h1 r n j := fun r n j hne => hset_ne hne
    have k2 : (hset h1 325 0 0 (m1 5 0)) 325 0 0 = m1 5 0 := hset_eq
    generalize hset h1 325 0 0 (m1 5 0) = h2 at k1 k2
    have hb2 : TB h2 m2 := TB_keep hb1 (fun r n j hne => k1 r n j (by omega)) (fun r j hne => g1 r j (by omega))
    have v5 : m2 5 0 = m1 5 0 := g1 5 0 (by omega)
    have v3 : m2 3 0 = m 3 0 := by rw [g1 3 0 (by omega), e3]
    have v1 : m2 1 (m1 5 0) = m1 1 (m1 5 0) := g1 1 _ (by omega)
    rw [v5, v3, v1, if_pos (show m1 5 0 < m 3 0 by omega)]
    simp (disch := omega) only [zG_t]
    rw [c1]
    have fC : ∀ h3 : zHC, (∀ r n j, ¬ ((r = 324 ∨ r = 326 ∨ r = 327 ∨ r = 328) ∧ n = 0 ∧ j = 0) → h3 r n j = h2 r n j) → ∀ r n j, ¬ (324 ≤ r ∧ r ≤ 328) → h3 r n j = h r n j := fun h3 f r n j hne => by rw [f r n j (by omega), k1 r n j (by omega), x3 r n j (by omega)]
    have fM : ∀ m3 : zHM, (∀ r j, ¬ ((5 ≤ r ∧ r ≤ 9) ∨ r = 12) → m3 r j = m2 r j) → ∀ r j, ¬ ((5 ≤ r ∧ r ≤ 9) ∨ r = 12) → m3 r j = m r j := fun m3 f r j hne => by rw [f r j hne, g1 r j (by omega), x4 r j (by omega)]
    generalize hcc : m1 1 (m1 5 0) = c at c1 c2 c3 v1
    have run : ∀ v2 : Int, ((97 ≤ c ∧ c ≤ 122 ∧ v2 = 1) ∨ (48 ≤ c ∧ c ≤ 57 ∧ v2 = 0)) → ∃ h' m', F21_2 h2 = some h' ∧ F176_7 zFu v2 1 (mset (mset m2 12 0 0) 8 0 0) = some m' ∧ TR h' m' ∧ (∀ r n j, ¬ (324 ≤ r ∧ r ≤ 328) → h' r n j = h r n j) ∧ (∀ r j, ¬ ((5 ≤ r ∧ r ≤ 9) ∨ r = 12) → m' r j = m r j) := by
      intro v2 hv
      have q1 : ∀ r n j, ¬ ((r = 326 ∨ r = 327) ∧ n = 0 ∧ j = 0) → (hset (hset h2 327 0 0 0) 326 0 0 0) r n j = h2 r n j := fun r n j hne => by rw [hset_ne (by omega), hset_ne (by omega)]
      have q2 : ∀ r j, ¬ ((r = 8 ∨ r = 12) ∧ j = 0) → (mset (mset m2 12 0 0) 8 0 0) r j = m2 r j := fun r j hne => by rw [mset_ne (by omega), mset_ne (by omega)]
      have z0 : RN (hset (hset h2 327 0 0 0) 326 0 0 0) (mset (mset m2 12 0 0) 8 0 0) 0 0 0 v2 1 := by
        refine ⟨by decide, by decide, rfl, by omega, ?_, fun _ _ => ⟨[], rfl, fun d hd => (by cases hd), ?_, ?_⟩, fun _ _ => ⟨?_, ?_, fun _ => mset_eq, fun u => by omega, fun u => by omega, fun u => by omega⟩, fun u => by omega⟩
        · rw [if_pos (by omega)]
        · rw [hset_ne (by omega), hset_eq]; rfl
        · rw [mset_ne (by omega), mset_eq]; rfl
        · rw [hset_eq, mset_eq]
        · rw [mset_eq]; exact Int.le_refl 0
      obtain ⟨h3, m3, w1, w2, w3, w4, w5⟩ := T_run zFu zFu 0 0 0 v2 1 _ _ (TB_keep hb2 (fun r n j hne => q1 r n j (by omega)) (fun r j hne => q2 r j (by omega))) z0 (by rw [q2 5 0 (by omega), q2 6 0 (by omega), v5, g2]; omega) (by rw [q1 328 0 0 (by omega), k1 328 0 0 (by omega), q2 5 0 (by omega), v5]; exact y1) (by rw [q2 6 0 (by omega), g2]; exact x5) (by rw [q2 5 0 (by omega), q2 6 0 (by omega), v5, g2]; exact Int.le_refl _) (by rw [q2 5 0 (by omega), q2 3 0 (by omega), v5, v3]; exact x6) (by rw [q1 325 0 0 (by omega), q2 6 0 (by omega), k2, g2]) (fun _ => by rw [q2 5 0 (by omega), q2 3 0 (by omega), v5, v3, q2 1 _ (by omega), v1]; exact ⟨by omega, hv⟩) (by rw [q2 5 0 (by omega), q2 3 0 (by omega), v5, v3]; omega) (by rw [q2 5 0 (by omega), q2 3 0 (by omega), v5, v3]; omega)
      refine ⟨h3, m3, ?_, w2, w3, fC h3 (fun r n j hne => by rw [w4 r n j hne, q1 r n j (by omega)]), fM m3 (fun r j hne => by rw [w5 r j (by omega), q2 r j (by omega)])⟩
      unfold F21_2 F26
      rw [w1, Option.bind_some]
    rw [F24_s, F177_s, Option.bind_some, Option.bind_some]
    unfold F176_4
    rw [F177_s]
    simp only [Option.bind_some]
    by_cases lt : 97 ≤ c ∧ c ≤ 122
    · rw [if_pos lt, if_pos (show ¬ (1 : Int) = 0 by decide), if_pos (show ¬ (1 : Int) = 0 by decide)]
      exact run 1 (Or.inl ⟨lt.1, lt.2, rfl⟩)
    · rw [if_neg lt, if_neg (show ¬ ¬ (0 : Int) = 0 by decide), if_neg (show ¬ ¬ (0 : Int) = 0 by decide), F25_s, F178_s, Option.bind_some, Option.bind_some]
      by_cases dg : 48 ≤ c ∧ c ≤ 57
      · rw [if_pos dg, if_neg (show ¬ (1 : Int) = 0 by decide), if_pos (show ¬ (1 : Int) = 0 by decide)]
        exact run 0 (Or.inr ⟨dg.1, dg.2, rfl⟩)
      · rw [if_neg dg, if_pos rfl, if_neg (show ¬ ¬ (0 : Int) = 0 by decide), F28_s, Option.bind_some]
        have wp : wadd (m1 5 0) 1 = m1 5 0 + 1 := wadd_eq (by omega) (by omega)
        have mark : ∀ sc sm : Int, ((sc = 1 ∧ sm = 1) ∨ (sc = 5 ∧ sm = 4)) → ∃ h' m', F21_3 sc (hset h2 326 0 0 c) = some h' ∧ F176_6 c sm m2 = some m' ∧ TR h' m' ∧ (∀ r n j, ¬ (324 ≤ r ∧ r ≤ 328) → h' r n j = h r n j) ∧ (∀ r j, ¬ ((5 ≤ r ∧ r ≤ 9) ∨ r = 12) → m' r j = m r j) := by
          intro sc sm hs
          unfold F21_3 F176_6
          rw [hset_ne (show ¬ ((328 : Nat) = 326 ∧ (0 : Int) = 0 ∧ (0 : Int) = 0) by omega), k1 328 0 0 (by omega), y1, v5, wp]
          refine ⟨_, _, rfl, rfl, ⟨TB_keep hb2 (fun r n j hne => by rw [hset_ne (by omega), hset_ne (by omega), hset_ne (by omega)]) (fun r j hne => by rw [mset_ne (by omega), mset_ne (by omega), mset_ne (by omega)]), ?_, ?_, fun _ => ?_⟩, fC _ (fun r n j hne => by rw [hset_ne (by omega), hset_ne (by omega), hset_ne (by omega)]), fM _ (fun r j hne => by rw [mset_ne (by omega), mset_ne (by omega), mset_ne (by omega)])⟩
          · rcases hs with ⟨u1, u2⟩ | ⟨u1, u2⟩
            · refine Or.inr (Or.inr (Or.inl ⟨?_, ?_⟩))
              · rw [hset_ne (by omega), hset_eq]; exact u1
              · rw [mset_ne (by omega), mset_ne (by omega), mset_eq]; exact u2
            · refine Or.inr (Or.inr (Or.inr (Or.inr (Or.inr (Or.inr ⟨?_, ?_, ?_⟩)))))
              · rw [hset_ne (by omega), hset_eq]; exact u1
              · rw [mset_ne (by omega), mset_ne (by omega), mset_eq]; exact u2
              · rw [hset_ne (by omega), hset_ne (by omega), hset_eq, mset_ne (by omega), mset_eq]
          · rw [hset_ne (by omega), hset_ne (by omega), hset_ne (by omega), mset_ne (by omega), mset_ne (by omega), mset_ne (by omega), k2, g2]
          · rw [hset_eq, mset_eq, mset_ne (by omega), mset_ne (by omega), mset_ne (by omega), v3]
            exact ⟨rfl, by omega, by omega⟩
        unfold F176_5
        by_cases mk : c = 59 ∨ c = 60 ∨ c = 61 ∨ c = 62 ∨ c = 40 ∨ c = 41
        · rw [if_pos mk, if_neg (show ¬ (1 : Int) = 0 by decide)]
          have em : (if c = 59 then F176_6 c 4 m2 else if c = 60 then F176_6 c 4 m2 else if c = 61 then F176_6 c 4 m2 else if c = 62 then F176_6 c 4 m2 else if c = 40 then F176_6 c 4 m2 else if ¬ c = 41 then F176_6 c 1 m2 else F176_6 c 4 m2) = F176_6 c 4 m2 := by
            split
            · rfl
            split
            · rfl
            split
            · rfl
            split
            · rfl
            split
            · rfl
            rw [if_neg (by omega)]
          rw [em]
          exact mark 5 4 (Or.inr ⟨rfl, rfl⟩)
        · rw [if_neg mk, if_pos rfl, if_neg (show ¬ c = 59 by omega), if_neg (show ¬ c = 60 by omega), if_neg (show ¬ c = 61 by omega), if_neg (show ¬ c = 62 by omega), if_neg (show ¬ c = 40 by omega), if_pos (show ¬ c = 41 by omega)]
          exact mark 1 1 (Or.inl ⟨rfl, rfl⟩)
  · rw [if_neg (show ¬ h1 328 0 0 < stop by omega)]
    have es : (if stop < h1 328 0 0 then stop else h1 328 0 0) = stop := by split <;> omega
    rw [es]
    have fC : ∀ r n j, ¬ (324 ≤ r ∧ r ≤ 328) → (hset (hset h1 325 0 0 stop) 324 0 0 0) r n j = h r n j := fun r n j hne => by rw [hset_ne (by omega), hset_ne (by omega), x3 r n j (by omega)]
    by_cases q : m 3 0 ≤ m 4 0
    · have s4 := s4 q
      unfold F176_3
      rw [if_pos q, mset_ne (show ¬ ((5 : Nat) = 6 ∧ (0 : Int) = 0) by omega), mset_ne (show ¬ ((3 : Nat) = 6 ∧ (0 : Int) = 0) by omega), e3, if_neg (show ¬ m1 5 0 < m 3 0 by omega)]
      refine ⟨_, _, rfl, rfl, ⟨TB_keep hb1 (fun r n j hne => by rw [hset_ne (by omega), hset_ne (by omega)]) (fun r j hne => by rw [mset_ne (by omega), mset_ne (by omega)]), Or.inl ⟨hset_eq, ?_, mset_eq⟩, ?_, fun w => absurd hset_eq w⟩, fC, fun r j hne => by rw [mset_ne (by omega), mset_ne (by omega), x4 r j (by omega)]⟩
      · rw [mset_ne (by omega), mset_ne (by omega), mset_ne (by omega), mset_ne (by omega), e3, e4]
        exact q
      · rw [hset_ne (by omega), hset_eq, mset_ne (by omega), mset_eq]
        omega
    · have s5 := s5 (by omega)
      rw [if_neg q, if_neg (show ¬ m1 5 0 < m 4 0 by omega)]
      refine ⟨_, _, rfl, rfl, ⟨TB_keep hb1 (fun r n j hne => by rw [hset_ne (by omega), hset_ne (by omega)]) (fun r j hne => by rw [mset_ne (by omega), mset_ne (by omega), mset_ne (by omega)]), Or.inr (Or.inl ⟨hset_eq, ?_, mset_eq⟩), ?_, fun w => absurd hset_eq w⟩, fC, fun r j hne => by rw [mset_ne (by omega), mset_ne (by omega), mset_ne (by omega), x4 r j (by omega)]⟩
      · rw [mset_ne (by omega), mset_ne (by omega), mset_ne (by omega), mset_ne (by omega), mset_ne (by omega), mset_ne (by omega), e3, e4]
        omega
      · rw [hset_ne (by omega), hset_eq, mset_ne (by omega), mset_eq]
        exact s5
