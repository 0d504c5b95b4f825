/-! Pieces that were heard: taken from the tape. -/
def zPc (h : zHC) (m : zHM) : Prop := h 258 0 0 = m 34 0 ∧ 1 ≤ m 34 0 ∧ m 34 0 ≤ 6 ∧ ∀ k, 0 ≤ k → k < m 34 0 → h 259 0 k = m 26 k ∧ 0 ≤ m 26 k ∧ m 26 k < m 14 2 ∧ h 260 0 k = m 27 k ∧ 0 ≤ m 27 k ∧ m 27 k ≤ 255 ∧ h 261 0 k = m 28 k ∧ 1 ≤ m 28 k ∧ m 28 k ≤ 9
def zTp (h : zHC) (m : zHM) : Prop := ∀ i, 0 ≤ i → i < 940 → h 320 0 i = m 1 i ∧ 0 ≤ m 1 i ∧ m 1 i ≤ 255
theorem P_take {m : zHM} {L n : Int} (n0 : 1 ≤ n) (n6 : n ≤ 6) (eL : L = 3 * n) : ∀ (N N' : Nat) (j : Int) (h : zHC), zTp h m → h 578 0 0 = m 14 2 → 0 ≤ j → j ≤ n → n - j < N → n - j < N' → (∀ i, 0 ≤ i → i < j → h 259 0 i = m 1 (3 * i) ∧ m 1 (3 * i) < m 14 2 ∧ h 260 0 i = m 1 (3 * i + 1) ∧ h 261 0 i = m 1 (3 * i + 2) ∧ 1 ≤ m 1 (3 * i + 2) ∧ m 1 (3 * i + 2) ≤ 9) → (∃ h', F119_0 N 0 n j h = some (1, h') ∧ F263_0 N' L (3 * j) m = F263_1 zFu 0 (mset m 34 0 n) ∧ h' 258 0 0 = n ∧ (∀ i, 0 ≤ i → i < n → h' 259 0 i = m 1 (3 * i) ∧ m 1 (3 * i) < m 14 2 ∧ h' 260 0 i = m 1 (3 * i + 1) ∧ h' 261 0 i = m 1 (3 * i + 2) ∧ 1 ≤ m 1 (3 * i + 2) ∧ m 1 (3 * i + 2) ≤ 9) ∧ ∀ r k q, ¬ (258 ≤ r ∧ r ≤ 261) → h' r k q = h r k q) ∨ (∃ h', F119_0 N 0 n j h = some (0, h') ∧ F263_0 N' L (3 * j) m = some (0, m) ∧ ∀ r k q, ¬ (258 ≤ r ∧ r ≤ 261) → h' r k q = h r k q) := by
  intro N
  induction N with
  | zero => intro N' j h hb e j0 j1 g1; omega
  | succ N ih =>
    intro N' j h hb e j0 j1 g1 g2 hf
    cases N' with
    | zero => omega
    | succ N' =>
      by_cases u : j = n
      · subst u
        rw [F119_0, F263_0, if_pos (Int.le_refl _), if_pos (show L ≤ 3 * j by omega), show wdiv L 3 = j by rw [wdiv_eq (by omega) (by omega) (by decide) (by decide)]; omega]
        refine Or.inl ⟨_, rfl, rfl, hset_eq, fun i i0 i1 => ?_, fun r k q g => hset_ne (by omega)⟩
        rw [hset_ne (by omega), hset_ne (by omega), hset_ne (by omega)]
        exact hf i i0 i1
      · obtain ⟨b0, b1, b2⟩ := hb (3 * j) (by omega) (by omega)
        obtain ⟨b3, b4, b5⟩ := hb (3 * j + 1) (by omega) (by omega)
        obtain ⟨b6, b7, b8⟩ := hb (3 * j + 2) (by omega) (by omega)
        obtain ⟨H, eH⟩ : ∃ H, hset (hset (hset h 259 0 j (m 1 (3 * j))) 260 0 j (m 1 (3 * j + 1))) 261 0 j (m 1 (3 * j + 2)) = H := ⟨_, rfl⟩
        have eC : F119_0 (N + 1) 0 n j h = if m 14 2 ≤ m 1 (3 * j) then some (0, H) else (F74 (m 1 (3 * j + 2))).bind fun r1 => if ¬ r1 = 0 then F119_0 N 0 n (j + 1) H else some (0, H) := by
          rw [F119_0, if_neg (show ¬ n ≤ j by omega), wmul_eq (x := j) (y := 3) (by omega) (by omega), show j * 3 = 3 * j by omega, wadd_eq (x := 3 * j) (y := 1) (by omega) (by omega), wadd_eq (x := 3 * j) (y := 2) (by omega) (by omega), wadd_eq (x := j) (y := 1) (by omega) (by omega), zG_t (by omega), zG_t (by omega), zG_t (by omega), zG_t (by omega), zG_t (by omega), zG_t (by omega), zG_t (by omega), zG_t (by omega), hset_eq, hset_eq, e, b0, b3, b6, eH]
        have eM : F263_0 (N' + 1) L (3 * j) m = if m 14 2 ≤ m 1 (3 * j) then some (0, m) else (F188 (m 1 (3 * j + 2)) 1 9).bind fun r1 => if ¬ r1 = 0 then F263_0 N' L (3 * (j + 1)) m else some (0, m) := by
          rw [F263_0, if_neg (show ¬ L ≤ 3 * j by omega), wadd_eq (x := 3 * j) (y := 2) (by omega) (by omega), wadd_eq (x := 3 * j) (y := 3) (by omega) (by omega), zG_t (show 0 ≤ 3 * j ∧ 3 * j < 940 by omega), zG_t (show 0 ≤ 3 * j + 2 ∧ 3 * j + 2 < 940 by omega), show 3 * j + 3 = 3 * (j + 1) by omega]
        have hH : ∀ r k q, ¬ (258 ≤ r ∧ r ≤ 261) → H r k q = h r k q := fun r k q g => by rw [← eH, hset_ne (by omega), hset_ne (by omega), hset_ne (by omega)]
        rw [eC, eM]
        by_cases v : m 14 2 ≤ m 1 (3 * j)
        · rw [if_pos v, if_pos v]
          exact Or.inr ⟨H, rfl, rfl, hH⟩
        · rw [if_neg v, if_neg v, E74, E188, Option.bind_some, Option.bind_some]
          by_cases w : 1 ≤ m 1 (3 * j + 2) ∧ m 1 (3 * j + 2) ≤ 9
          · rw [if_pos w, if_pos (show ¬ (1 : Int) = 0 by decide), if_pos (show ¬ (1 : Int) = 0 by decide)]
            have go := ih N' (j + 1) H (fun i i0 i1 => by rw [hH 320 0 i (by omega)]; exact hb i i0 i1) (by rw [hH 578 0 0 (by omega)]; exact e) (by omega) (by omega) (by omega) (by omega) (fun i i0 i1 => by
              by_cases x : i = j
              · subst x
                rw [← eH, hset_ne (by omega), hset_ne (by omega), hset_eq, hset_ne (by omega), hset_eq, hset_eq]
                exact ⟨rfl, by omega, rfl, rfl, w.1, w.2⟩
              · rw [← eH, hset_ne (by omega), hset_ne (by omega), hset_ne (by omega), hset_ne (by omega), hset_ne (by omega), hset_ne (by omega), hset_ne (by omega), hset_ne (by omega), hset_ne (by omega)]
                exact hf i i0 (by omega))
            rcases go with ⟨h', a1, a2, a3, a4, a5⟩ | ⟨h', a1, a2, a3⟩
            · exact Or.inl ⟨h', a1, a2, a3, a4, fun r k q g => by rw [a5 r k q g, hH r k q g]⟩
            · exact Or.inr ⟨h', a1, a2, fun r k q g => by rw [a3 r k q g, hH r k q g]⟩
          · rw [if_neg w, if_neg (show ¬ ¬ (0 : Int) = 0 by decide), if_neg (show ¬ ¬ (0 : Int) = 0 by decide)]
            exact Or.inr ⟨H, rfl, rfl, hH⟩
theorem F263_1s {m0 : zHM} {n : Int} (n6 : n ≤ 6) : ∀ (N : Nat) (j : Int) (m : zHM), m 34 0 = n → 0 ≤ j → j ≤ n → n - j < N → (∀ i, 0 ≤ i → i < j → m 26 i = m0 1 (3 * i) ∧ m 27 i = m0 1 (3 * i + 1) ∧ m 28 i = m0 1 (3 * i + 2)) → (∀ r q, ¬ (26 ≤ r ∧ r ≤ 28) → m r q = m0 r q) → ∃ m', F263_1 N j m = some (1, m') ∧ (∀ i, 0 ≤ i → i < n → m' 26 i = m0 1 (3 * i) ∧ m' 27 i = m0 1 (3 * i + 1) ∧ m' 28 i = m0 1 (3 * i + 2)) ∧ ∀ r q, ¬ (26 ≤ r ∧ r ≤ 28) → m' r q = m0 r q := by
  intro N
  induction N with
  | zero => intro j m e j0 j1 g; omega
  | succ N ih =>
    intro j m e j0 j1 g hf hk
    rw [F263_1, e]
    by_cases u : j = n
    · rw [if_pos (by omega)]
      exact ⟨m, rfl, fun i i0 i1 => hf i i0 (by omega), hk⟩
    · rw [if_neg (show ¬ n ≤ j by omega), wmul_eq (x := 3) (y := j) (by omega) (by omega), wadd_eq (x := 3 * j) (y := 1) (by omega) (by omega), wadd_eq (x := 3 * j) (y := 2) (by omega) (by omega), wadd_eq (x := j) (y := 1) (by omega) (by omega), zG_t (by omega), zG_t (by omega), zG_t (by omega), zG_t (by omega), zG_t (by omega), zG_t (by omega), hk 1 _ (by omega), hk 1 _ (by omega), hk 1 _ (by omega)]
      refine ih (j + 1) _ (by rw [mset_ne (by omega), mset_ne (by omega), mset_ne (by omega)]; exact e) (by omega) (by omega) (by omega) (fun i i0 i1 => ?_) (fun r q gq => by rw [mset_ne (by omega), mset_ne (by omega), mset_ne (by omega)]; exact hk r q gq)
      by_cases x : i = j
      · subst x
        rw [mset_ne (by omega), mset_ne (by omega), mset_eq, mset_ne (by omega), mset_eq, mset_eq]
        exact ⟨rfl, rfl, rfl⟩
      · rw [mset_ne (by omega), mset_ne (by omega), mset_ne (by omega), mset_ne (by omega), mset_ne (by omega), mset_ne (by omega), mset_ne (by omega), mset_ne (by omega), mset_ne (by omega)]
        exact hf i i0 (by omega)
def ptC (h h' : zHC) : Prop := ∀ r n j, ¬ (258 ≤ r ∧ r ≤ 261) → h' r n j = h r n j
def ptM (m m' : zHM) : Prop := ∀ r j, ¬ ((26 ≤ r ∧ r ≤ 28) ∨ r = 34 ∨ r = 2 ∨ r = 0) → m' r j = m r j
theorem L_take {hc : zHC} {hm : zHM} (h : RG hc hm) : (∃ h' m', F119 0 hc = some (1, h') ∧ F263 (mset hm 0 0 0) = some (1, m') ∧ zPc h' m' ∧ m' 2 0 = 0 ∧ ptC hc h' ∧ ptM hm m') ∨ (∃ h' m', F119 0 hc = some (0, h') ∧ F263 (mset hm 0 0 0) = some (0, m') ∧ m' 2 0 = 0 ∧ ptC hc h' ∧ ptM hm m') := by
  have big := zFu_big
  obtain ⟨⟨t1, t2, t3, t4, t5⟩, hV, -⟩ := h
  have e578 : hc 578 0 0 = hm 14 2 := hV.1.1.2.2.1
  unfold F119 F263 F175
  rw [Option.bind_some]
  dsimp only
  have e2 : (mset hm 0 0 0) 2 0 = hm 2 0 := mset_ne (by omega)
  rw [e2, t1, wdiv_eq t2 (by omega) (by decide) (by decide), wrem_eq t2 (by omega) (by decide) (by decide)]
  obtain ⟨M, eM⟩ : ∃ M, mset (mset hm 0 0 0) 2 0 0 = M := ⟨_, rfl⟩
  rw [eM]
  have hM : ∀ r j, ¬ (r = 2 ∨ r = 0) → M r j = hm r j := fun r j g => by rw [← eM, mset_ne (by omega), mset_ne (by omega)]
  have m20 : M 2 0 = 0 := by rw [← eM, mset_eq]
  have none_ : (∃ h' m', some ((0 : Int), hc) = some (1, h') ∧ some ((0 : Int), M) = some (1, m') ∧ zPc h' m' ∧ m' 2 0 = 0 ∧ ptC hc h' ∧ ptM hm m') ∨ (∃ h' m', some ((0 : Int), hc) = some (0, h') ∧ some ((0 : Int), M) = some (0, m') ∧ m' 2 0 = 0 ∧ ptC hc h' ∧ ptM hm m') := Or.inr ⟨hc, M, rfl, rfl, m20, fun _ _ _ _ => rfl, fun r j g => hM r j (by omega)⟩
  rw [E188]
  by_cases q1 : hm 2 0 / 3 < 1
  · rw [if_pos q1]
    by_cases q0 : hm 2 0 % 3 = 0
    · rw [if_neg (show ¬ ¬ hm 2 0 % 3 = 0 from fun z => z q0), if_neg (show ¬ (1 ≤ hm 2 0 / 3 ∧ hm 2 0 / 3 ≤ 6) by omega), Option.bind_some, if_neg (show ¬ ¬ (0 : Int) = 0 by decide)]
      exact none_
    · rw [if_pos q0]
      exact none_
  rw [if_neg q1]
  by_cases q2 : 6 < hm 2 0 / 3
  · rw [if_pos q2]
    by_cases q0 : hm 2 0 % 3 = 0
    · rw [if_neg (show ¬ ¬ hm 2 0 % 3 = 0 from fun z => z q0), if_neg (show ¬ (1 ≤ hm 2 0 / 3 ∧ hm 2 0 / 3 ≤ 6) by omega), Option.bind_some, if_neg (show ¬ ¬ (0 : Int) = 0 by decide)]
      exact none_
    · rw [if_pos q0]
      exact none_
  rw [if_neg q2, wmul_eq (by omega) (by omega)]
  by_cases q0 : hm 2 0 % 3 = 0
  · rw [if_pos (show hm 2 0 / 3 * 3 = hm 2 0 by omega), if_neg (show ¬ ¬ hm 2 0 % 3 = 0 from fun z => z q0), if_pos (show 1 ≤ hm 2 0 / 3 ∧ hm 2 0 / 3 ≤ 6 by omega), Option.bind_some, if_pos (show ¬ (1 : Int) = 0 by decide)]
    obtain ⟨n, en⟩ : ∃ n, hm 2 0 / 3 = n := ⟨_, rfl⟩
    rw [en]
    have tM : zTp hc M := fun i i0 i1 => by rw [hM 1 i (by omega)]; exact t4 i i0 i1
    have P := P_take (m := M) (L := hm 2 0) (n := n) (by omega) (by omega) (by omega) zFu zFu 0 hc tM (by rw [hM 14 2 (by omega)]; exact e578) (by decide) (by omega) (by omega) (by omega) (fun i i0 i1 => by omega)
    rw [show (3 : Int) * 0 = 0 by decide] at P
    rcases P with ⟨h', a1, a2, a3, a4, a5⟩ | ⟨h', a1, a2, a3⟩
    · obtain ⟨m', b1, b2, b3⟩ := F263_1s (m0 := mset M 34 0 n) (n := n) (by omega) zFu 0 (mset M 34 0 n) mset_eq (by decide) (by omega) (by omega) (fun i i0 i1 => by omega) (fun _ _ _ => rfl)
      rw [a1, a2, b1]
      have m34 : m' 34 0 = n := by rw [b3 34 0 (by omega), mset_eq]
      have m142 : m' 14 2 = M 14 2 := by rw [b3 14 2 (by omega), mset_ne (by omega)]
      refine Or.inl ⟨h', m', rfl, rfl, ⟨by rw [a3, m34], by omega, by omega, fun k k0 k1 => ?_⟩, by rw [b3 2 0 (by omega), mset_ne (by omega)]; exact m20, a5, fun r j g => by rw [b3 r j (by omega), mset_ne (by omega), hM r j (by omega)]⟩
      rw [m34] at k1
      obtain ⟨c1, c2, c3, c4, c5, c6⟩ := a4 k k0 k1
      obtain ⟨d1, d2, d3⟩ := b2 k k0 k1
      rw [mset_ne (by omega)] at d1 d2 d3
      have x0 := (tM (3 * k) (by omega) (by omega)).2
      have x1 := (tM (3 * k + 1) (by omega) (by omega)).2
      rw [c1, c3, c4, d1, d2, d3, m142]
      exact ⟨rfl, x0.1, c2, rfl, x1.1, x1.2, rfl, c5, c6⟩
    · rw [a1, a2]
      exact Or.inr ⟨h', M, rfl, rfl, m20, a3, fun r j g => hM r j (by omega)⟩
  · rw [if_neg (show ¬ hm 2 0 / 3 * 3 = hm 2 0 by omega), if_pos q0]
    exact none_
