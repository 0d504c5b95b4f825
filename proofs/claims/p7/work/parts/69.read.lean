/-! What is read of a token. -/
def FT (h : zHC) (m : zHM) : Prop := h 322 0 0 = m 10 0 ∧ h 323 0 0 = m 11 0
theorem TR_kind {h : zHC} {m : zHM} (hT : TR h m) : (h 324 0 0 = 2 ↔ m 7 0 = 2 ∧ ∀ j, 0 ≤ j → j < 21 → ¬ m 12 0 = zPk 27 (kw j)) ∧ (h 324 0 0 = 4 ↔ m 7 0 = 3) ∧ (h 324 0 0 = 5 ↔ m 7 0 = 4) := by
  obtain ⟨-, hk, -, -⟩ := hT
  rcases hk with ⟨a, b, c⟩ | ⟨a, b, c⟩ | ⟨a, c⟩ | ⟨a, c, d, e⟩ | ⟨a, c, d, d', e⟩ | ⟨a, c, -⟩ | ⟨a, c, -⟩
  · exact ⟨⟨fun w => by omega, fun w => by omega⟩, by omega, by omega⟩
  · exact ⟨⟨fun w => by omega, fun w => by omega⟩, by omega, by omega⟩
  · exact ⟨⟨fun w => by omega, fun w => by omega⟩, by omega, by omega⟩
  · exact ⟨⟨fun _ => ⟨c, e⟩, fun _ => a⟩, by omega, by omega⟩
  · exact ⟨⟨fun w => by omega, fun w => absurd e (w.2 _ d d')⟩, by omega, by omega⟩
  · exact ⟨⟨fun w => by omega, fun w => by omega⟩, by omega, by omega⟩
  · exact ⟨⟨fun w => by omega, fun w => by omega⟩, by omega, by omega⟩
theorem E181 {h : zHC} {m : zHM} {k : Int} (hT : TR h m) (k0 : 0 ≤ k) (k1 : k < 21) : F181 k m = some (if h 324 0 0 = 3 ∧ h 326 0 0 = k then 1 else 0) := by
  obtain ⟨-, hk, -, -⟩ := hT
  unfold F181
  rw [F182_s k0 k1]
  rcases hk with ⟨a, b, c⟩ | ⟨a, b, c⟩ | ⟨a, c⟩ | ⟨a, c, d, e⟩ | ⟨a, c, d, d', e⟩ | ⟨a, c, -⟩ | ⟨a, c, -⟩
  · rw [if_pos (by omega), if_neg (by omega)]
  · rw [if_pos (by omega), if_neg (by omega)]
  · rw [if_pos (by omega), if_neg (by omega)]
  · rw [if_neg (by omega), Option.bind_some, if_pos (fun z => e k k0 k1 (qcmp_0.mp z)), if_neg (by omega)]
  · rw [if_neg (by omega), Option.bind_some]
    by_cases q : h 326 0 0 = k
    · rw [if_neg (fun z => z (qcmp_0.mpr (by rw [e, q]))), if_pos ⟨a, q⟩]
    · rw [if_pos (fun z => q (kw_inj d d' k0 k1 (zPk_inj (Or.inl rfl) (kw_ok d d').1 (kw_ok k0 k1).1 (e.symm.trans (qcmp_0.mp z))))), if_neg (fun z => q z.2)]
  · rw [if_pos (by omega), if_neg (by omega)]
  · rw [if_pos (by omega), if_neg (by omega)]
theorem E191 {h : zHC} {m : zHM} (hT : TR h m) : F191 m = some (if h 324 0 0 = 2 then 1 else 0) := by
  have hk := (TR_kind hT).1
  unfold F191
  by_cases q : m 7 0 = 2
  · rw [if_pos q]
    have key : ∀ (n : Nat) (j : Int), 0 ≤ j → j ≤ 21 → 21 - j < n → (∀ q, 0 ≤ q → q < j → ¬ m 12 0 = zPk 27 (kw q)) → F191_0 m n j = some (if h 324 0 0 = 2 then 1 else 0) := by
      intro n
      induction n with
      | zero => intro j j0 j1 g; omega
      | succ n ih =>
        intro j j0 j1 g hb
        rw [F191_0]
        by_cases e : j = 21
        · rw [if_pos (by omega), if_pos (hk.mpr ⟨q, fun i i0 i1 => hb i i0 (by omega)⟩)]
        · rw [if_neg (by omega), F182_s j0 (by omega), Option.bind_some]
          by_cases u : m 12 0 = zPk 27 (kw j)
          · rw [if_neg (fun z => z (qcmp_0.mpr u)), if_neg (fun z => (hk.mp z).2 j j0 (by omega) u)]
          · rw [if_pos (fun z => u (qcmp_0.mp z)), wadd_eq (by omega) (by omega)]
            refine ih (j + 1) (by omega) (by omega) (by omega) (fun i i0 i1 => ?_)
            by_cases v : i = j
            · subst v; exact u
            · exact hb i i0 (by omega)
    have big := zFu_big
    exact key zFu 0 (by decide) (by decide) (by omega) (fun i i0 i1 => by omega)
  · rw [if_neg q, if_neg (fun z => q (hk.mp z).1)]
theorem E51 {h : zHC} {c : Int} : F51 c h = some (if h 324 0 0 = 5 ∧ h 326 0 0 = c then 1 else 0) := by
  unfold F51
  by_cases q : h 324 0 0 = 5
  · rw [if_neg (fun z => z q)]
    by_cases q2 : h 326 0 0 = c
    · rw [if_neg (fun z => z q2), if_pos ⟨q, q2⟩]
    · rw [if_pos q2, if_neg (fun z => q2 z.2)]
  · rw [if_pos q, if_neg (fun z => q z.1)]
theorem E152 {h : zHC} {c : Int} : F152 c h = some (if h 324 0 0 = 3 ∧ h 326 0 0 = c then 1 else 0) := by
  unfold F152
  by_cases q : h 324 0 0 = 3
  · rw [if_neg (fun z => z q)]
    by_cases q2 : h 326 0 0 = c
    · rw [if_neg (fun z => z q2), if_pos ⟨q, q2⟩]
    · rw [if_pos q2, if_neg (fun z => q2 z.2)]
  · rw [if_pos q, if_neg (fun z => q z.1)]
theorem E202 {h : zHC} {m : zHM} {c : Int} (hT : TR h m) : F202 c m = some (if h 324 0 0 = 5 ∧ h 326 0 0 = c then 1 else 0) := by
  have hk := (TR_kind hT).2.2
  obtain ⟨-, hk2, -, -⟩ := hT
  unfold F202
  by_cases q : m 7 0 = 4
  · have e : h 326 0 0 = m 9 0 := by
      rcases hk2 with ⟨a, b, c⟩ | ⟨a, b, c⟩ | ⟨a, c⟩ | ⟨a, c, d, e⟩ | ⟨a, c, d, d', e⟩ | ⟨a, c, -⟩ | ⟨a, c, d⟩
      · omega
      · omega
      · omega
      · omega
      · omega
      · omega
      · exact d
    rw [if_neg (fun z => z q), ← e]
    by_cases q2 : h 326 0 0 = c
    · rw [if_neg (fun z => z q2), if_pos ⟨hk.mpr q, q2⟩]
    · rw [if_pos q2, if_neg (fun z => q2 z.2)]
  · rw [if_pos q, if_neg (fun z => q (hk.mp z.1))]
theorem E29 {h : zHC} {m : zHM} (hT : TR h m) : F29 h = some (if m 7 0 = 0 then 1 else 0) := by
  obtain ⟨hb, hk, -, -⟩ := hT
  unfold F29
  rw [hb.1, hb.2.2.2.1]
  rcases hk with ⟨a, b, c⟩ | ⟨a, b, c⟩ | ⟨a, c⟩ | ⟨a, c, -⟩ | ⟨a, c, -⟩ | ⟨a, c, -⟩ | ⟨a, c, -⟩
  · rw [if_neg (fun z => z a), if_neg (by omega), if_pos c]
  · rw [if_neg (fun z => z a), if_pos b, if_neg (by omega)]
  · rw [if_pos (by omega), if_neg (by omega)]
  · rw [if_pos (by omega), if_neg (by omega)]
  · rw [if_pos (by omega), if_neg (by omega)]
  · rw [if_pos (by omega), if_neg (by omega)]
  · rw [if_pos (by omega), if_neg (by omega)]
theorem L31 {h : zHC} {m : zHM} {k : Int} (hT : TR h m) (hk : k = 1 ∨ ¬ m 7 0 = 1) : ∃ h' m', F31 k h = some (0, h') ∧ F185 k m = some (0, m') ∧ FT h' m' ∧ tfC h h' ∧ tfM m m' := by
  obtain ⟨-, -, hs, -⟩ := hT
  unfold F31 F185 F185_0
  have e : (if ¬ m 7 0 = 1 then some ((0 : Int), mset (mset m 10 0 k) 11 0 (m 6 0)) else some (0, mset (mset m 10 0 1) 11 0 (m 6 0))) = some (0, mset (mset m 10 0 k) 11 0 (m 6 0)) := by
    rcases hk with q | q
    · rw [q]; split <;> rfl
    · rw [if_pos q]
  rw [e]
  exact ⟨_, _, rfl, rfl, ⟨by rw [hset_ne (by omega), hset_eq, mset_ne (by omega), mset_eq], by rw [hset_eq, mset_eq]; exact hs⟩, fun r n j hne => by rw [hset_ne (by omega), hset_ne (by omega)], fun r j hne => by rw [mset_ne (by omega), mset_ne (by omega)]⟩
theorem L33 {h : zHC} {m : zHM} {lo hi : Int} (hT : TR h m) : (h 324 0 0 = 4 ∧ lo ≤ m 8 0 ∧ m 8 0 ≤ hi ∧ h 326 0 0 = m 8 0 ∧ F33 lo hi h = some (1, h) ∧ F187 lo hi m = some (1, mset m 13 0 (m 8 0))) ∨ (∃ h' m', F33 lo hi h = some (0, h') ∧ F187 lo hi m = some (0, m') ∧ FT h' m' ∧ tfC h h' ∧ tfM m m') := by
  have hk := (TR_kind hT).2.1
  obtain ⟨-, hk2, -, -⟩ := id hT
  by_cases q : h 324 0 0 = 4
  · have q7 := hk.mp q
    have e : h 326 0 0 = m 8 0 := by
      rcases hk2 with ⟨a, b, c⟩ | ⟨a, b, c⟩ | ⟨a, c⟩ | ⟨a, c, d, e⟩ | ⟨a, c, d, d', e⟩ | ⟨a, c, d, -⟩ | ⟨a, c, d⟩
      · omega
      · omega
      · omega
      · omega
      · omega
      · exact d
      · omega
    by_cases u : lo ≤ m 8 0 ∧ m 8 0 ≤ hi
    · refine Or.inl ⟨q, u.1, u.2, e, ?_, ?_⟩
      · unfold F33 F33_1
        rw [if_pos q, e, if_neg (by omega), if_pos u.2]
      · unfold F187
        rw [if_pos q7, F188, if_neg (by omega), if_neg (by omega), Option.bind_some, if_pos (by decide)]
    · obtain ⟨h', m', a1, a2, a3, a4, a5⟩ := L31 (k := 2) hT (Or.inr (by omega))
      refine Or.inr ⟨h', m', ?_, ?_, a3, a4, a5⟩
      · unfold F33 F33_0
        rw [if_pos q, e, a1, Option.bind_some, if_pos rfl]
        by_cases v : m 8 0 < lo
        · rw [if_pos v]
        · rw [if_neg v, if_neg (by omega)]
      · unfold F187
        rw [if_pos q7, E188, if_neg u, Option.bind_some, if_neg (by decide), a2, Option.bind_some, zG_t (Or.inl rfl)]
  · obtain ⟨h', m', a1, a2, a3, a4, a5⟩ := L31 (k := 1) hT (Or.inl rfl)
    refine Or.inr ⟨h', m', ?_, ?_, a3, a4, a5⟩
    · unfold F33
      rw [if_neg q, a1, Option.bind_some, zG_t (Or.inl rfl)]
    · unfold F187
      rw [if_neg (fun z => q (hk.mpr z)), a2, Option.bind_some, zG_t (Or.inl rfl)]
theorem TR_told {h : zHC} {m : zHM} {x : Int} (hT : TR h m) : TR h (mset m 13 0 x) := by
  obtain ⟨hb, hk, hs, hp⟩ := hT
  have f : ∀ r j, ¬ r = 13 → (mset m 13 0 x) r j = m r j := fun r j hne => mset_ne (by omega)
  refine ⟨TB_keep hb tfC_refl (fun r j hne => f r j (by omega)), ?_, by rw [f 6 0 (by decide)]; exact hs, by rw [f 5 0 (by decide), f 3 0 (by decide)]; exact hp⟩
  unfold TK
  rw [f 3 0 (by decide), f 4 0 (by decide), f 7 0 (by decide), f 12 0 (by decide), f 8 0 (by decide), f 9 0 (by decide)]
  exact hk
/-- a token passed -/
theorem L21 {h : zHC} {m : zHM} (hT : TR h m) (hk : ¬ h 324 0 0 = 0) : ∃ h' m', F21 h = some h' ∧ F176 m = some m' ∧ TR h' m' ∧ (∀ r n j, ¬ (324 ≤ r ∧ r ≤ 328) → h' r n j = h r n j) ∧ (∀ r j, ¬ ((5 ≤ r ∧ r ≤ 9) ∨ r = 12) → m' r j = m r j) := by
  obtain ⟨hb, -, -, hp⟩ := hT
  obtain ⟨p1, p2, p3⟩ := hp hk
  exact T_step hb p1 p2 p3
/-- TR, where other regions have changed -/
theorem TR_keep {h h' : zHC} {m m' : zHM} (hT : TR h m) (f1 : ∀ r j, 320 ≤ r → r ≤ 330 → h' r 0 j = h r 0 j) (f2 : ∀ r j, (r = 1 ∨ (3 ≤ r ∧ r ≤ 9) ∨ r = 12) → m' r j = m r j) : TR h' m' := by
  obtain ⟨⟨b1, b2, b3, b4, b5, b6, b7, b8⟩, hk, hs, hp⟩ := hT
  refine ⟨?_, ?_, by rw [f1 325 0 (by decide) (by decide), f2 6 0 (by decide)]; exact hs, by rw [f1 324 0 (by decide) (by decide), f1 328 0 (by decide) (by decide), f2 5 0 (by decide), f2 3 0 (by decide)]; exact hp⟩
  · unfold TB
    rw [f1 321 0 (by decide) (by decide), f1 329 0 (by decide) (by decide), f2 3 0 (by decide), f2 4 0 (by decide)]
    refine ⟨b1, b2, b3, b4, b5, b6, fun i i0 i1 => ?_, RKw_keep (fun j => f1 330 j (by decide) (by decide)) b8⟩
    rw [f1 320 i (by decide) (by decide), f2 1 i (by decide)]
    exact b7 i i0 i1
  · unfold TK
    rw [f1 324 0 (by decide) (by decide), f1 326 0 (by decide) (by decide), f1 327 0 (by decide) (by decide), f2 3 0 (by decide), f2 4 0 (by decide), f2 7 0 (by decide), f2 12 0 (by decide), f2 8 0 (by decide), f2 9 0 (by decide)]
    exact hk
/-- the text opened -/
theorem L_open {hc : zHC} {hm : zHM} {most : Int} (h : RG hc hm) (m0 : 0 ≤ most) (m1 : most ≤ 940) : ∃ h' m', F20 most hc = some h' ∧ F174 most hm = some m' ∧ TR h' m' ∧ h' 322 0 0 = 0 ∧ m' 10 0 = 0 ∧ m' 2 0 = 0 ∧ (∀ r n j, ¬ (322 ≤ r ∧ r ≤ 329) → h' r n j = hc r n j) ∧ (∀ r j, ¬ (r = 0 ∨ r = 2 ∨ (3 ≤ r ∧ r ≤ 12)) → m' r j = hm r j) := by
  obtain ⟨t1, t2, t3, t4, t5⟩ := h.1
  have hK := h.2.2.2.2.2.2.2.2
  unfold F20 F174 F175
  rw [Option.bind_some]
  have e2 : (mset hm 0 0 0) 2 0 = hm 2 0 := m0_ne (by decide)
  rw [e2]
  generalize hh1 : hset (hset (hset (hset hc 329 0 0 most) 328 0 0 0) 322 0 0 0) 323 0 0 0 = h1
  generalize hm1 : mset (mset (mset (mset (mset (mset hm 0 0 0) 2 0 0) 3 0 (hm 2 0)) 4 0 most) 10 0 0) 5 0 0 = m1
  have fc : ∀ r n j, ¬ (r = 322 ∨ r = 323 ∨ r = 328 ∨ r = 329) → h1 r n j = hc r n j := fun r n j hne => by rw [← hh1, hset_ne (by omega), hset_ne (by omega), hset_ne (by omega), hset_ne (by omega)]
  have fm : ∀ r j, ¬ (r = 0 ∨ r = 2 ∨ r = 3 ∨ r = 4 ∨ r = 5 ∨ r = 10) → m1 r j = hm r j := fun r j hne => by rw [← hm1, mset_ne (by omega), mset_ne (by omega), mset_ne (by omega), mset_ne (by omega), mset_ne (by omega), mset_ne (by omega)]
  have c328 : h1 328 0 0 = 0 := by rw [← hh1, hset_ne (by omega), hset_ne (by omega), hset_eq]
  have c329 : h1 329 0 0 = most := by rw [← hh1, hset_ne (by omega), hset_ne (by omega), hset_ne (by omega), hset_eq]
  have c322 : h1 322 0 0 = 0 := by rw [← hh1, hset_ne (by omega), hset_eq]
  have d5 : m1 5 0 = 0 := by rw [← hm1, mset_eq]
  have d10 : m1 10 0 = 0 := by rw [← hm1, mset_ne (by omega), mset_eq]
  have d4 : m1 4 0 = most := by rw [← hm1, mset_ne (by omega), mset_ne (by omega), mset_eq]
  have d3 : m1 3 0 = hm 2 0 := by rw [← hm1, mset_ne (by omega), mset_ne (by omega), mset_ne (by omega), mset_eq]
  have d2 : m1 2 0 = 0 := by rw [← hm1, mset_ne (by omega), mset_ne (by omega), mset_ne (by omega), mset_ne (by omega), mset_eq]
  have hb : TB h1 m1 := by
    refine ⟨by rw [fc _ _ _ (by omega), d3]; exact t1, by omega, by omega, by rw [c329, d4], by omega, by omega, fun i i0 i1 => ?_, RKw_keep (fun j => fc 330 0 j (by omega)) hK⟩
    rw [fc _ _ _ (by omega), fm _ _ (by omega)]
    exact t4 i i0 i1
  obtain ⟨h2, m2, a1, a2, a3, a4, a5⟩ := T_step hb (by rw [c328, d5]) (by omega) (by omega)
  rw [a1, a2]
  exact ⟨h2, m2, rfl, rfl, a3, by rw [a4 _ _ _ (by omega)]; exact c322, by rw [a5 _ _ (by omega)]; exact d10, by rw [a5 _ _ (by omega)]; exact d2, fun r n j hne => by rw [a4 r n j (by omega), fc r n j (by omega)], fun r j hne => by rw [a5 r j (by omega), fm r j (by omega)]⟩
theorem L38b {h : zHC} {m : zHM} {v w w' : Int} (e3 : h 579 v 0 = m 14 3) (n0 : 0 ≤ m 14 3) (n1 : m 14 3 ≤ 6) (hQ : ∀ p, 0 ≤ p → p < m 14 3 → WR (h 587 v p) (m 19 (6 + p))) (hw : WR w w') : ∃ r, F38 v w h = some r ∧ F192b 6 (m 14 3) w' m = some r ∧ (r = -1 ∨ 0 ≤ r ∧ r < m 14 3) := by
  have key : ∀ (n n' : Nat) (p : Int), 0 ≤ p → p ≤ m 14 3 → m 14 3 - p < n → m 14 3 - p < n' → ∃ r, F38_0 h n v w p = some r ∧ F192b_0 m n' 6 (m 14 3) w' p = some r ∧ (r = -1 ∨ 0 ≤ r ∧ r < m 14 3) := by
    intro n
    induction n with
    | zero => intro n' p p0 p1 g1 g2; omega
    | succ n ih =>
      intro n' p p0 p1 g1 g2
      cases n' with
      | zero => omega
      | succ n' =>
        rw [F38_0, F192b_0, e3]
        by_cases e : m 14 3 ≤ p
        · rw [if_pos e, if_pos e]
          exact ⟨-1, rfl, rfl, Or.inl rfl⟩
        · have ep : wadd p 1 = p + 1 := wadd_eq (by omega) (by omega)
          rw [if_neg e, if_neg e, wadd_eq (x := 6) (by omega) (by omega), zG_t (by omega), zG_t (by omega), ep]
          have hi := WR_iff (hQ p p0 (by omega)) hw
          by_cases q : m 19 (6 + p) = w'
          · rw [if_neg (fun z => z (qcmp_0.mpr (hi.mpr q))), if_neg (fun z => z (qcmp_0.mpr q))]
            exact ⟨p, rfl, rfl, Or.inr ⟨p0, by omega⟩⟩
          · rw [if_pos (fun z => q (hi.mp (qcmp_0.mp z))), if_pos (fun z => q (qcmp_0.mp z))]
            exact ih n' (p + 1) (by omega) (by omega) (by omega) (by omega)
  have big := zFu_big
  exact key zFu zFu 0 (by decide) n0 (by omega) (by omega)
