section
/-! Pieces that were heard: taken from the tape. -/
def zPc (h : zHC) (m : zHM) : Prop := h 258 0 0 = m 34 0 ∧ 1 ≤ m 34 0 ∧ m 34 0 ≤ 6 ∧ ∀ k, 0 ≤ k → k < m 34 0 → h 259 0 k = m 26 k ∧ 0 ≤ m 26 k ∧ m 26 k < m 14 2 ∧ h 260 0 k = m 27 k ∧ 0 ≤ m 27 k ∧ m 27 k ≤ 255 ∧ h 261 0 k = m 28 k ∧ 1 ≤ m 28 k ∧ m 28 k ≤ 9
def zTp (h : zHC) (m : zHM) : Prop := ∀ i, 0 ≤ i → i < 940 → h 320 0 i = m 1 i ∧ 0 ≤ m 1 i ∧ m 1 i ≤ 255
theorem P_take {m : zHM} {L n : Int} (n0 : 1 ≤ n) (n6 : n ≤ 6) (eL : L = 3 * n) : ∀ (N N' : Nat) (j : Int) (h : zHC), zTp h m → h 578 0 0 = m 14 2 → 0 ≤ j → j ≤ n → n - j < N → n - j < N' → (∀ i, 0 ≤ i → i < j → h 259 0 i = m 1 (3 * i) ∧ m 1 (3 * i) < m 14 2 ∧ h 260 0 i = m 1 (3 * i + 1) ∧ h 261 0 i = m 1 (3 * i + 2) ∧ 1 ≤ m 1 (3 * i + 2) ∧ m 1 (3 * i + 2) ≤ 9) → (∃ h', F119_0 N 0 n j h = some (1, h') ∧ F263_0 N' L (3 * j) m = F263_1 zFu 0 (mset m 34 0 n) ∧ h' 258 0 0 = n ∧ (∀ i, 0 ≤ i → i < n → h' 259 0 i = m 1 (3 * i) ∧ m 1 (3 * i) < m 14 2 ∧ h' 260 0 i = m 1 (3 * i + 1) ∧ h' 261 0 i = m 1 (3 * i + 2) ∧ 1 ≤ m 1 (3 * i + 2) ∧ m 1 (3 * i + 2) ≤ 9) ∧ ∀ r k q, ¬ (258 ≤ r ∧ r ≤ 261) → h' r k q = h r k q) ∨ (∃ h', F119_0 N 0 n j h = some (0, h') ∧ F263_0 N' L (3 * j) m = some (0, m) ∧ ∀ r k q, ¬ (258 ≤ r ∧ r ≤ 261) → h' r k q = h r k q) := by
  intro N
  induction N with
  | zero => intro N' j h hb e j0 j1 g1; omega
  | succ N ih =>
    intro N' j h hb e j0 j1 g1 g2 hf
    cases N' with
    | zero => omega
    | succ N' =>
      by_cases u : j = n
      · subst u
        rw [F119_0, F263_0, if_pos (Int.le_refl _), if_pos (show L ≤ 3 * j by omega), show wdiv L 3 = j by rw [wdiv_eq (by omega) (by omega) (by decide) (by decide)]; omega]
        refine Or.inl ⟨_, rfl, rfl, hset_eq, fun i i0 i1 => ?_, fun r k q g => hset_ne (by omega)⟩
        rw [hset_ne (by omega), hset_ne (by omega), hset_ne (by omega)]
        exact hf i i0 i1
      · obtain ⟨b0, b1, b2⟩ := hb (3 * j) (by omega) (by omega)
        obtain ⟨b3, b4, b5⟩ := hb (3 * j + 1) (by omega) (by omega)
        obtain ⟨b6, b7, b8⟩ := hb (3 * j + 2) (by omega) (by omega)
        obtain ⟨H, eH⟩ : ∃ H, hset (hset (hset h 259 0 j (m 1 (3 * j))) 260 0 j (m 1 (3 * j + 1))) 261 0 j (m 1 (3 * j + 2)) = H := ⟨_, rfl⟩
        have eC : F119_0 (N + 1) 0 n j h = if m 14 2 ≤ m 1 (3 * j) then some (0, H) else (F74 (m 1 (3 * j + 2))).bind fun r1 => if ¬ r1 = 0 then F119_0 N 0 n (j + 1) H else some (0, H) := by
          rw [F119_0, if_neg (show ¬ n ≤ j by omega), wmul_eq (x := j) (y := 3) (by omega) (by omega), show j * 3 = 3 * j by omega, wadd_eq (x := 3 * j) (y := 1) (by omega) (by omega), wadd_eq (x := 3 * j) (y := 2) (by omega) (by omega), wadd_eq (x := j) (y := 1) (by omega) (by omega), zG_t (by omega), zG_t (by omega), zG_t (by omega), zG_t (by omega), zG_t (by omega), zG_t (by omega), zG_t (by omega), zG_t (by omega), hset_eq, hset_eq, e, b0, b3, b6, eH]
        have eM : F263_0 (N' + 1) L (3 * j) m = if m 14 2 ≤ m 1 (3 * j) then some (0, m) else (F188 (m 1 (3 * j + 2)) 1 9).bind fun r1 => if ¬ r1 = 0 then F263_0 N' L (3 * (j + 1)) m else some (0, m) := by
          rw [F263_0, if_neg (show ¬ L ≤ 3 * j by omega), wadd_eq (x := 3 * j) (y := 2) (by omega) (by omega), wadd_eq (x := 3 * j) (y := 3) (by omega) (by omega), zG_t (show 0 ≤ 3 * j ∧ 3 * j < 940 by omega), zG_t (show 0 ≤ 3 * j + 2 ∧ 3 * j + 2 < 940 by omega), show 3 * j + 3 = 3 * (j + 1) by omega]
        have hH : ∀ r k q, ¬ (258 ≤ r ∧ r ≤ 261) → H r k q = h r k q := fun r k q g => by rw [← eH, hset_ne (by omega), hset_ne (by omega), hset_ne (by omega)]
        rw [eC, eM]
        by_cases v : m 14 2 ≤ m 1 (3 * j)
        · rw [if_pos v, if_pos v]
          exact Or.inr ⟨H, rfl, rfl, hH⟩
        · rw [if_neg v, if_neg v, E74, E188, Option.bind_some, Option.bind_some]
          by_cases w : 1 ≤ m 1 (3 * j + 2) ∧ m 1 (3 * j + 2) ≤ 9
          · rw [if_pos w, if_pos (show ¬ (1 : Int) = 0 by decide), if_pos (show ¬ (1 : Int) = 0 by decide)]
            have go := ih N' (j + 1) H (fun i i0 i1 => by rw [hH 320 0 i (by omega)]; exact hb i i0 i1) (by rw [hH 578 0 0 (by omega)]; exact e) (by omega) (by omega) (by omega) (by omega) (fun i i0 i1 => by
              by_cases x : i = j
              · subst x
                rw [← eH, hset_ne (by omega), hset_ne (by omega), hset_eq, hset_ne (by omega), hset_eq, hset_eq]
                exact ⟨rfl, by omega, rfl, rfl, w.1, w.2⟩
              · rw [← eH, hset_ne (by omega), hset_ne (by omega), hset_ne (by omega), hset_ne (by omega), hset_ne (by omega), hset_ne (by omega), hset_ne (by omega), hset_ne (by omega), hset_ne (by omega)]
                exact hf i i0 (by omega))
            rcases go with ⟨h', a1, a2, a3, a4, a5⟩ | ⟨h', a1, a2, a3⟩
            · exact Or.inl ⟨h', a1, a2, a3, a4, fun r k q g => by rw [a5 r k q g, hH r k q g]⟩
            · exact Or.inr ⟨h', a1, a2, fun r k q g => by rw [a3 r k q g, hH r k q g]⟩
          · rw [if_neg w, if_neg (show ¬ ¬ (0 : Int) = 0 by decide), if_neg (show ¬ ¬ (0 : Int) = 0 by decide)]
            exact Or.inr ⟨H, rfl, rfl, hH⟩
theorem F263_1s {m0 : zHM} {n : Int} (n6 : n ≤ 6) : ∀ (N : Nat) (j : Int) (m : zHM), m 34 0 = n → 0 ≤ j → j ≤ n → n - j < N → (∀ i, 0 ≤ i → i < j → m 26 i = m0 1 (3 * i) ∧ m 27 i = m0 1 (3 * i + 1) ∧ m 28 i = m0 1 (3 * i + 2)) → (∀ r q, ¬ (26 ≤ r ∧ r ≤ 28) → m r q = m0 r q) → ∃ m', F263_1 N j m = some (1, m') ∧ (∀ i, 0 ≤ i → i < n → m' 26 i = m0 1 (3 * i) ∧ m' 27 i = m0 1 (3 * i + 1) ∧ m' 28 i = m0 1 (3 * i + 2)) ∧ ∀ r q, ¬ (26 ≤ r ∧ r ≤ 28) → m' r q = m0 r q := by
  intro N
  induction N with
  | zero => intro j m e j0 j1 g; omega
  | succ N ih =>
    intro j m e j0 j1 g hf hk
    rw [F263_1, e]
    by_cases u : j = n
    · rw [if_pos (by omega)]
      exact ⟨m, rfl, fun i i0 i1 => hf i i0 (by omega), hk⟩
    · rw [if_neg (show ¬ n ≤ j by omega), wmul_eq (x := 3) (y := j) (by omega) (by omega), wadd_eq (x := 3 * j) (y := 1) (by omega) (by omega), wadd_eq (x := 3 * j) (y := 2) (by omega) (by omega), wadd_eq (x := j) (y := 1) (by omega) (by omega), zG_t (by omega), zG_t (by omega), zG_t (by omega), zG_t (by omega), zG_t (by omega), zG_t (by omega), hk 1 _ (by omega), hk 1 _ (by omega), hk 1 _ (by omega)]
      refine ih (j + 1) _ (by rw [mset_ne (by omega), mset_ne (by omega), mset_ne (by omega)]; exact e) (by omega) (by omega) (by omega) (fun i i0 i1 => ?_) (fun r q gq => by rw [mset_ne (by omega), mset_ne (by omega), mset_ne (by omega)]; exact hk r q gq)
      by_cases x : i = j
      · subst x
        rw [mset_ne (by omega), mset_ne (by omega), mset_eq, mset_ne (by omega), mset_eq, mset_eq]
        exact ⟨rfl, rfl, rfl⟩
      · rw [mset_ne (by omega), mset_ne (by omega), mset_ne (by omega), mset_ne (by omega), mset_ne (by omega), mset_ne (by omega), mset_ne (by omega), mset_ne (by omega), mset_ne (by omega)]
        exact hf i i0 (by omega)
def ptC (h h' : zHC) : Prop := ∀ r n j, ¬ (258 ≤ r ∧ r ≤ 261) → h' r n j = h r n j
def ptM (m m' : zHM) : Prop := ∀ r j, ¬ ((26 ≤ r ∧ r ≤ 28) ∨ r = 34 ∨ r = 2 ∨ r = 0) → m' r j = m r j
theorem L_take {hc : zHC} {hm : zHM} (h : RG hc hm) : (∃ h' m', F119 0 hc = some (1, h') ∧ F263 (mset hm 0 0 0) = some (1, m') ∧ zPc h' m' ∧ m' 2 0 = 0 ∧ ptC hc h' ∧ ptM hm m') ∨ (∃ h' m', F119 0 hc = some (0, h') ∧ F263 (mset hm 0 0 0) = some (0, m') ∧ m' 2 0 = 0 ∧ ptC hc h' ∧ ptM hm m') := by
  have big := zFu_big
  obtain ⟨⟨t1, t2, t3, t4, t5⟩, hV, -⟩ := h
  have e578 : hc 578 0 0 = hm 14 2 := hV.1.1.2.2.1
  unfold F119 F263 F175
  rw [Option.bind_some]
  dsimp only
  have e2 : (mset hm 0 0 0) 2 0 = hm 2 0 := mset_ne (by omega)
  rw [e2, t1, wdiv_eq t2 (by omega) (by decide) (by decide), wrem_eq t2 (by omega) (by decide) (by decide)]
  obtain ⟨M, eM⟩ : ∃ M, mset (mset hm 0 0 0) 2 0 0 = M := ⟨_, rfl⟩
  rw [eM]
  have hM : ∀ r j, ¬ (r = 2 ∨ r = 0) → M r j = hm r j := fun r j g => by rw [← eM, mset_ne (by omega), mset_ne (by omega)]
  have m20 : M 2 0 = 0 := by rw [← eM, mset_eq]
  have none_ : (∃ h' m', some ((0 : Int), hc) = some (1, h') ∧ some ((0 : Int), M) = some (1, m') ∧ zPc h' m' ∧ m' 2 0 = 0 ∧ ptC hc h' ∧ ptM hm m') ∨ (∃ h' m', some ((0 : Int), hc) = some (0, h') ∧ some ((0 : Int), M) = some (0, m') ∧ m' 2 0 = 0 ∧ ptC hc h' ∧ ptM hm m') := Or.inr ⟨hc, M, rfl, rfl, m20, fun _ _ _ _ => rfl, fun r j g => hM r j (by omega)⟩
  rw [E188]
  by_cases q1 : hm 2 0 / 3 < 1
  · rw [if_pos q1]
    by_cases q0 : hm 2 0 % 3 = 0
    · rw [if_neg (show ¬ ¬ hm 2 0 % 3 = 0 from fun z => z q0), if_neg (show ¬ (1 ≤ hm 2 0 / 3 ∧ hm 2 0 / 3 ≤ 6) by omega), Option.bind_some, if_neg (show ¬ ¬ (0 : Int) = 0 by decide)]
      exact none_
    · rw [if_pos q0]
      exact none_
  rw [if_neg q1]
  by_cases q2 : 6 < hm 2 0 / 3
  · rw [if_pos q2]
    by_cases q0 : hm 2 0 % 3 = 0
    · rw [if_neg (show ¬ ¬ hm 2 0 % 3 = 0 from fun z => z q0), if_neg (show ¬ (1 ≤ hm 2 0 / 3 ∧ hm 2 0 / 3 ≤ 6) by omega), Option.bind_some, if_neg (show ¬ ¬ (0 : Int) = 0 by decide)]
      exact none_
    · rw [if_pos q0]
      exact none_
  rw [if_neg q2, wmul_eq (by omega) (by omega)]
  by_cases q0 : hm 2 0 % 3 = 0
  · rw [if_pos (show hm 2 0 / 3 * 3 = hm 2 0 by omega), if_neg (show ¬ ¬ hm 2 0 % 3 = 0 from fun z => z q0), if_pos (show 1 ≤ hm 2 0 / 3 ∧ hm 2 0 / 3 ≤ 6 by omega), Option.bind_some, if_pos (show ¬ (1 : Int) = 0 by decide)]
    obtain ⟨n, en⟩ : ∃ n, hm 2 0 / 3 = n := ⟨_, rfl⟩
    rw [en]
    have tM : zTp hc M := fun i i0 i1 => by rw [hM 1 i (by omega)]; exact t4 i i0 i1
    have P := P_take (m := M) (L := hm 2 0) (n := n) (by omega) (by omega) (by omega) zFu zFu 0 hc tM (by rw [hM 14 2 (by omega)]; exact e578) (by decide) (by omega) (by omega) (by omega) (fun i i0 i1 => by omega)
    rw [show (3 : Int) * 0 = 0 by decide] at P
    rcases P with ⟨h', a1, a2, a3, a4, a5⟩ | ⟨h', a1, a2, a3⟩
    · obtain ⟨m', b1, b2, b3⟩ := F263_1s (m0 := mset M 34 0 n) (n := n) (by omega) zFu 0 (mset M 34 0 n) mset_eq (by decide) (by omega) (by omega) (fun i i0 i1 => by omega) (fun _ _ _ => rfl)
      rw [a1, a2, b1]
      have m34 : m' 34 0 = n := by rw [b3 34 0 (by omega), mset_eq]
      have m142 : m' 14 2 = M 14 2 := by rw [b3 14 2 (by omega), mset_ne (by omega)]
      refine Or.inl ⟨h', m', rfl, rfl, ⟨by rw [a3, m34], by omega, by omega, fun k k0 k1 => ?_⟩, by rw [b3 2 0 (by omega), mset_ne (by omega)]; exact m20, a5, fun r j g => by rw [b3 r j (by omega), mset_ne (by omega), hM r j (by omega)]⟩
      rw [m34] at k1
      obtain ⟨c1, c2, c3, c4, c5, c6⟩ := a4 k k0 k1
      obtain ⟨d1, d2, d3⟩ := b2 k k0 k1
      rw [mset_ne (by omega)] at d1 d2 d3
      have x0 := (tM (3 * k) (by omega) (by omega)).2
      have x1 := (tM (3 * k + 1) (by omega) (by omega)).2
      rw [c1, c3, c4, d1, d2, d3, m142]
      exact ⟨rfl, x0.1, c2, rfl, x1.1, x1.2, rfl, c5, c6⟩
    · rw [a1, a2]
      exact Or.inr ⟨h', M, rfl, rfl, m20, a3, fun r j g => hM r j (by omega)⟩
  · rw [if_neg (show ¬ hm 2 0 / 3 * 3 = hm 2 0 by omega), if_pos q0]
    exact none_
end
section
/-! Pieces: what comes to a cliff, in the class's other course and in the model's rows. -/
/-- delays of some cliffs, that one's too, add up -/
def zDl (m : zHM) (S : Nat) : Int := zsum (fun d => if S.testBit d.toNat = true then m 14 (7 + 3 * d + 1) else 0) (m 14 2).toNat
def pcMask (m : zHM) (T c : Int) : Prop := ∃ S : Nat, S < 2 ^ (m 14 2).toNat ∧ S.testBit c.toNat = true ∧ (∀ d, 0 ≤ d → d < m 14 2 → S.testBit d.toNat = true → d = c ∨ m 32 d = 1) ∧ m 30 c - T = zDl m S
theorem zbit_add {S n o : Nat} (hn : n ≤ 6) (ho : o < n) (hS : S < 2 ^ n) (hb : S.testBit o = false) : S + 2 ^ o < 2 ^ n ∧ (S + 2 ^ o).testBit o = true ∧ ∀ d : Nat, d < n → ¬ d = o → (S + 2 ^ o).testBit d = S.testBit d := by
  have key : (List.range 7).all (fun n => (List.range n).all (fun o => (List.range (2 ^ n)).all (fun S => S.testBit o || (decide (S + 2 ^ o < 2 ^ n) && (S + 2 ^ o).testBit o && (List.range n).all (fun d => decide (d = o) || decide ((S + 2 ^ o).testBit d = S.testBit d)))))) = true := by decide +kernel
  have k1 := List.all_eq_true.mp (List.all_eq_true.mp (List.all_eq_true.mp key n (List.mem_range.mpr (by omega))) o (List.mem_range.mpr ho)) S (List.mem_range.mpr hS)
  rw [hb, Bool.false_or, Bool.and_eq_true, Bool.and_eq_true] at k1
  refine ⟨of_decide_eq_true k1.1.1, k1.1.2, fun d d0 d1 => ?_⟩
  have k2 := List.all_eq_true.mp k1.2 d (List.mem_range.mpr d0)
  rw [Bool.or_eq_true] at k2
  rcases k2 with k2 | k2
  · exact absurd (of_decide_eq_true k2) d1
  · exact of_decide_eq_true k2
theorem zDl_rng {m : zHM} {S : Nat} (hW : WC (m 14)) (n0 : 0 ≤ m 14 2) (n6 : m 14 2 ≤ 6) : zDl m S ≤ 240 := by
  unfold zDl
  have := zsum_le (f := fun d => if S.testBit d.toNat = true then m 14 (7 + 3 * d + 1) else 0) (n := (m 14 2).toNat) (b := 40) (fun j j0 j1 => by
    have w := hW j j0 (by omega)
    by_cases q : S.testBit j.toNat = true
    · rw [if_pos q]; omega
    · rw [if_neg q]; omega)
  omega
theorem zDl_add {m : zHM} {S : Nat} {o : Int} (n6 : m 14 2 ≤ 6) (o0 : 0 ≤ o) (o1 : o < m 14 2) (hS : S < 2 ^ (m 14 2).toNat) (hb : S.testBit o.toNat = false) : zDl m (S + 2 ^ o.toNat) = zDl m S + m 14 (7 + 3 * o + 1) := by
  obtain ⟨b1, b2, b3⟩ := zbit_add (n := (m 14 2).toNat) (o := o.toNat) (by omega) (by omega) hS hb
  unfold zDl
  refine zsum_upd (k := o) o0 (by omega) ?_ (fun j j0 j1 j2 => ?_)
  · show (if (S + 2 ^ o.toNat).testBit o.toNat = true then _ else _) = (if S.testBit o.toNat = true then _ else _) + _
    rw [if_pos b2, hb, if_neg (by decide)]
    omega
  · show (if (S + 2 ^ o.toNat).testBit j.toNat = true then _ else _) = (if S.testBit j.toNat = true then _ else _)
    rw [b3 j.toNat (by omega) (by omega)]
theorem zDl_pos {m : zHM} {S : Nat} {o : Int} (hW : WC (m 14)) (o0 : 0 ≤ o) (o1 : o < m 14 2) (hb : S.testBit o.toNat = true) : 1 ≤ zDl m S := by
  have w := hW o o0 o1
  have e := zsum_upd (f := fun d => if d = o then 0 else if S.testBit d.toNat = true then m 14 (7 + 3 * d + 1) else 0) (g := fun d => if S.testBit d.toNat = true then m 14 (7 + 3 * d + 1) else 0) (n := (m 14 2).toNat) (k := o) (d := m 14 (7 + 3 * o + 1)) o0 (by omega) (by
    show (if S.testBit o.toNat = true then _ else _) = (if o = o then _ else _) + _
    rw [if_pos hb, if_pos rfl]; omega) (fun j j0 j1 j2 => by
    show _ = (if j = o then _ else _)
    rw [if_neg j2])
  have p : ∀ (f : Int → Int) (n : Nat), (∀ j : Int, 0 ≤ j → j < n → 0 ≤ f j) → 0 ≤ zsum f n := by
    intro f n
    induction n with
    | zero => intro _; exact Int.le_refl 0
    | succ n ih =>
      intro hf
      unfold zsum
      have := ih (fun j j0 j1 => hf j j0 (by omega))
      have := hf n (by omega) (by omega)
      omega
  have p1 := p (fun d => if d = o then 0 else if S.testBit d.toNat = true then m 14 (7 + 3 * d + 1) else 0) (m 14 2).toNat (fun j j0 j1 => by
    have w := hW j j0 (by omega)
    by_cases q : j = o
    · show 0 ≤ (if j = o then _ else _)
      rw [if_pos q]; exact Int.le_refl 0
    · show 0 ≤ (if j = o then _ else _)
      rw [if_neg q]
      by_cases q2 : S.testBit j.toNat = true
      · rw [if_pos q2]; omega
      · rw [if_neg q2]; exact Int.le_refl 0)
  unfold zDl
  omega
/-- between the class's other course and the model's rows, where HOUR H's cliffs ahead of C have been heard -/
def zQ (h : zHC) (m : zHM) (T H C R : Int) : Prop := (∀ c, 0 ≤ c → c < m 14 2 → h 68 1 c = m 30 c ∧ (m 30 c = -1 ∨ (T < m 30 c ∧ m 30 c ≤ T + 240 ∧ h 69 1 c = m 31 c ∧ 1 ≤ m 31 c ∧ m 31 c ≤ 9))) ∧ (∀ c, m 14 2 ≤ c → c < 6 → h 68 1 c = -1) ∧ (∀ c, 0 ≤ c → c < m 14 2 → m 32 c = if ¬ m 30 c = -1 ∧ (m 30 c < H ∨ m 30 c = H ∧ c < C) then 1 else 0) ∧ (∀ c, 0 ≤ c → c < m 14 2 → m 32 c = 0 → m 33 c = 0) ∧ (0 ≤ h 66 1 0 ∧ h 66 1 0 ≤ R ∧ R = zsum (m 32) (m 14 2).toNat) ∧ (∀ x y z, 1 ≤ z → ((∃ j, 0 ≤ j ∧ j < h 66 1 0 ∧ h 71 1 (j * 5 + 1) = x ∧ h 71 1 (j * 5 + 2) = y ∧ h 71 1 (j * 5 + 3) = z) ↔ (0 ≤ x ∧ x < m 14 2 ∧ m 33 x = z ∧ m 30 x = y))) ∧ (∀ c, 0 ≤ c → c < m 14 2 → ¬ m 30 c = -1 → pcMask m T c)
theorem zQ_R {h : zHC} {m : zHM} {T H C R : Int} (n0 : 0 ≤ m 14 2) (q : zQ h m T H C R) : R ≤ m 14 2 ∧ ∀ c, 0 ≤ c → c < m 14 2 → m 32 c = 0 → R < m 14 2 := by
  have b : ∀ j : Int, 0 ≤ j → j < (m 14 2).toNat → m 32 j ≤ 1 := fun j j0 j1 => by
    rw [q.2.2.1 j j0 (by omega)]
    split <;> omega
  have r := q.2.2.2.2.1.2.2
  constructor
  · have := zsum_le (f := m 32) (n := (m 14 2).toNat) (b := 1) b
    omega
  · intro c c0 c1 e
    have := zsum_lt (f := m 32) (n := (m 14 2).toNat) (k := c) (b := 1) c0 (by omega) (by omega) b
    omega
/-- something comes to cliff c -/
theorem Q_offer {h : zHC} {m : zHM} {T H C R c f d : Int} (q : zQ h m T H C R) (n6 : m 14 2 ≤ 6) (T0 : 0 ≤ T) (T1 : T ≤ 200) (c0 : 0 ≤ c) (c1 : c < m 14 2) (hd : h 585 0 c = d) (d0 : 1 ≤ d) (d1 : d ≤ 40) (hH : h 64 1 0 = H) (H0 : T ≤ H) (H1 : H ≤ T + 240) (f0 : 1 ≤ f) (f1 : f ≤ 9) (hS : m 32 c = 0 → ∃ S : Nat, S < 2 ^ (m 14 2).toNat ∧ S.testBit c.toNat = true ∧ (∀ e, 0 ≤ e → e < m 14 2 → S.testBit e.toNat = true → e = c ∨ m 32 e = 1) ∧ H + d - T = zDl m S ∧ zDl m S ≤ 240) : ∃ h' m', F85 1 0 0 c f h = some h' ∧ F265 c (H + d) f m = some m' ∧ zQ h' m' T H C R ∧ (∀ r n j, ¬ ((r = 68 ∨ r = 69) ∧ n = 1 ∧ j = c) → h' r n j = h r n j) ∧ (∀ r j, ¬ ((r = 30 ∨ r = 31) ∧ j = c) → m' r j = m r j) ∧ (m' 30 c = m 30 c ∨ m' 30 c = H + d) := by
  obtain ⟨q1, q2, q3, q4, q5, q6, q7⟩ := id q
  obtain ⟨e68, ev⟩ := q1 c c0 c1
  have e3 := q3 c c0 c1
  have same : ∃ h' m', some h = some h' ∧ some m = some m' ∧ zQ h' m' T H C R ∧ (∀ r n j, ¬ ((r = 68 ∨ r = 69) ∧ n = 1 ∧ j = c) → h' r n j = h r n j) ∧ (∀ r j, ¬ ((r = 30 ∨ r = 31) ∧ j = c) → m' r j = m r j) ∧ (m' 30 c = m 30 c ∨ m' 30 c = H + d) := ⟨h, m, rfl, rfl, q, fun _ _ _ _ => rfl, fun _ _ _ => rfl, Or.inl rfl⟩
  have put : m 32 c = 0 → (m 30 c = -1 ∨ H < m 30 c) → ∃ h' m', F85_2 1 f c (H + d) h = some h' ∧ F265_0 c (H + d) f m = some m' ∧ zQ h' m' T H C R ∧ (∀ r n j, ¬ ((r = 68 ∨ r = 69) ∧ n = 1 ∧ j = c) → h' r n j = h r n j) ∧ (∀ r j, ¬ ((r = 30 ∨ r = 31) ∧ j = c) → m' r j = m r j) ∧ (m' 30 c = m 30 c ∨ m' 30 c = H + d) := by
    intro g0 hn
    unfold F85_2 F265_0
    rw [zG_t (by omega), zG_t (by omega), zG_t (by omega), zG_t (by omega)]
    obtain ⟨h', eh⟩ : ∃ h', hset (hset h 68 1 c (H + d)) 69 1 c f = h' := ⟨_, rfl⟩
    obtain ⟨m', em⟩ : ∃ m', mset (mset m 30 c (H + d)) 31 c f = m' := ⟨_, rfl⟩
    rw [eh, em]
    have fh : ∀ r n j, ¬ ((r = 68 ∨ r = 69) ∧ n = 1 ∧ j = c) → h' r n j = h r n j := fun r n j g => by rw [← eh, hset_ne (by omega), hset_ne (by omega)]
    have fm : ∀ r j, ¬ ((r = 30 ∨ r = 31) ∧ j = c) → m' r j = m r j := fun r j g => by rw [← em, mset_ne (by omega), mset_ne (by omega)]
    have x68 : h' 68 1 c = H + d := by rw [← eh, hset_ne (by omega), hset_eq]
    have x69 : h' 69 1 c = f := by rw [← eh, hset_eq]
    have y30 : m' 30 c = H + d := by rw [← em, mset_ne (by omega), mset_eq]
    have y31 : m' 31 c = f := by rw [← em, mset_eq]
    have y14 : m' 14 = m 14 := by funext j; exact fm 14 j (by omega)
    have y32 : m' 32 = m 32 := by funext j; exact fm 32 j (by omega)
    have dl : ∀ S, zDl m' S = zDl m S := fun S => by unfold zDl; rw [y14]
    obtain ⟨S, s1, s2, s3, s4, s5⟩ := hS g0
    refine ⟨h', m', rfl, rfl, ⟨fun k k0 k1 => ?_, fun k k0 k1 => ?_, fun k k0 k1 => ?_, fun k k0 k1 => ?_, ?_, fun x y z z1 => ?_, fun k k0 k1 k2 => ?_⟩, fh, fm, Or.inr y30⟩
    · by_cases w : k = c
      · subst w
        rw [x68, x69, y30, y31]
        exact ⟨rfl, Or.inr ⟨by omega, by omega, rfl, f0, f1⟩⟩
      · rw [y14] at k1
        rw [fh 68 1 k (by omega), fh 69 1 k (by omega), fm 30 k (by omega), fm 31 k (by omega)]
        exact q1 k k0 k1
    · rw [y14] at k0
      rw [fh 68 1 k (by omega)]
      exact q2 k k0 k1
    · rw [y14] at k1
      rw [y32]
      by_cases w : k = c
      · subst w
        rw [g0, y30, if_neg (by omega)]
      · rw [fm 30 k (by omega)]
        exact q3 k k0 k1
    · rw [y14] at k1
      rw [y32, fm 33 k (by omega)]
      exact q4 k k0 k1
    · rw [y14, y32, fh 66 1 0 (by omega)]
      exact q5
    · rw [y14, fh 66 1 0 (by omega)]
      have l : ∀ j, h' 71 1 j = h 71 1 j := fun j => fh 71 1 j (by omega)
      simp only [l]
      refine (q6 x y z z1).trans ?_
      by_cases w : x = c
      · subst w
        have u := q4 x c0 c1 g0
        rw [fm 33 x (by omega), u]
        exact ⟨fun t => by omega, fun t => by omega⟩
      · rw [fm 33 x (by omega), fm 30 x (by omega)]
    · rw [y14] at k1
      by_cases w : k = c
      · subst w
        refine ⟨S, by rw [y14]; exact s1, s2, fun e e0 e1 e2 => by rw [y14] at e1; rw [y32]; exact s3 e e0 e1 e2, ?_⟩
        rw [y30, dl]
        exact s4
      · rw [fm 30 k (by omega)] at k2
        obtain ⟨S', t1, t2, t3, t4⟩ := q7 k k0 k1 k2
        refine ⟨S', by rw [y14]; exact t1, t2, fun e e0 e1 e2 => by rw [y14] at e1; rw [y32]; exact t3 e e0 e1 e2, ?_⟩
        rw [fm 30 k (by omega), dl]
        exact t4
  unfold F85 F265
  rw [wmul_eq (x := 0) (y := 6) (by decide) (by decide), show (0 : Int) * 6 = 0 by decide, wadd_eq (x := 0) (y := c) (by omega) (by omega), Int.zero_add, hH, hd, wadd_eq (x := H) (y := d) (by omega) (by omega), e68, zG_t (show 0 ≤ c ∧ c < 6 by omega), zG_t (show 0 ≤ c ∧ c < 180 by omega), zG_t (show 0 ≤ c ∧ c < 180 by omega), zG_t (show 0 ≤ c ∧ c < 6 by omega), zG_t (show 0 ≤ c ∧ c < 6 by omega), zG_t (show 0 ≤ c ∧ c < 6 by omega), zG_t (show 0 ≤ c ∧ c < 6 by omega), zG_t (show 0 ≤ c ∧ c < 6 by omega)]
  unfold F85_0 F85_1
  rw [if_neg (show ¬ f < 1 by omega), if_neg (show ¬ f < 1 by omega), if_pos (rfl : (0 : Int) = 0), if_neg (show ¬ (1 : Int) = 0 by decide), e68, zG_t (show 0 ≤ c ∧ c < 180 by omega), zG_t (show 0 ≤ c ∧ c < 180 by omega), zG_t (show 0 ≤ c ∧ c < 180 by omega), zG_t (show 0 ≤ c ∧ c < 180 by omega)]
  by_cases g : m 32 c = 0
  · rw [if_neg (show ¬ 0 < m 32 c by omega)]
    by_cases v : m 30 c = -1
    · rw [if_pos v, if_pos v, if_pos v]
      exact put g (Or.inl v)
    · have hge : H ≤ m 30 c := by
        rw [g] at e3
        by_cases w : ¬ m 30 c = -1 ∧ (m 30 c < H ∨ m 30 c = H ∧ c < C)
        · rw [if_pos w] at e3; omega
        · omega
      rw [if_neg v, if_neg v, if_neg v]
      by_cases w : H < m 30 c
      · rw [if_pos w]
        by_cases w2 : H + d < m 30 c
        · rw [if_pos w2, if_neg (show ¬ m 30 c < H + d by omega), if_pos (show ¬ m 30 c = H + d by omega)]
          exact put g (Or.inr w)
        · rw [if_neg w2]
          by_cases w3 : H + d = m 30 c
          · rw [if_neg (show ¬ ¬ H + d = m 30 c from fun z => z w3), if_neg (show ¬ m 30 c < H + d by omega), if_neg (show ¬ ¬ m 30 c = H + d from fun z => z w3.symm)]
            have e69 : h 69 1 c = m 31 c := by
              rcases ev with u | u
              · exact absurd u v
              · exact u.2.2.1
            rw [e69]
            by_cases w4 : m 31 c < f
            · rw [if_neg (show ¬ f ≤ m 31 c by omega), if_pos w4]
              exact put g (Or.inr w)
            · rw [if_pos (show f ≤ m 31 c by omega), if_neg w4]
              exact same
          · rw [if_pos w3, if_pos (show m 30 c < H + d by omega)]
            exact same
      · rw [if_neg w, if_pos (show m 30 c < H + d by omega)]
        exact same
  · have hh : ¬ m 30 c = -1 ∧ ¬ H < m 30 c := by
      by_cases w : ¬ m 30 c = -1 ∧ (m 30 c < H ∨ m 30 c = H ∧ c < C)
      · exact ⟨w.1, by omega⟩
      · rw [if_neg w] at e3; exact absurd e3 g
    have g1 : 0 < m 32 c := by
      rw [e3] at g ⊢
      split at g
      · rename_i w; rw [if_pos w]; decide
      · exact absurd rfl g
    rw [if_pos g1, if_neg hh.1, if_neg hh.2]
    exact same
end
section
/-! Pieces: all that comes of a saying, and of a cliff. -/
theorem zQ_RVC {h h' : zHC} {m m' : zHM} (f1 : ∀ r n j, ¬ (64 ≤ r ∧ r ≤ 72 ∧ n = 1) → h' r n j = h r n j) (f2 : ∀ r j, ¬ (30 ≤ r ∧ r ≤ 33) → m' r j = m r j) (hV : RVC h m) : RVC h' m' := RVC_keep (fun r j g => f1 r 0 j (by omega)) (fun j _ _ => f2 14 j (by omega)) (fun j => f2 19 j (by omega)) hV
theorem F95_s {h : zHC} {m : zHM} {C o f : Int} (hV : RVC h m) (C0 : 0 ≤ C) (C1 : C < m 14 2) (o0 : 0 ≤ o) (o1 : o < m 14 2) (f0 : 1 ≤ f) (f1 : f ≤ 9) : F95 0 C o f h = some (if f < zD (m 14 (7 + 3 * C)) (m 14 (7 + 3 * o)) then 0 else if 0 < f - 1 - zD (m 14 (7 + 3 * C)) (m 14 (7 + 3 * o)) / 2 then f - 1 - zD (m 14 (7 + 3 * C)) (m 14 (7 + 3 * o)) / 2 else 0) := by
  have w6 := hV.1.2.2.2.2.2.2.2.1
  unfold WN at w6
  have wC := hV.1.2.2.2.2.2.2.2.2.1 C C0 C1
  have wo := hV.1.2.2.2.2.2.2.2.2.1 o o0 o1
  have r := zD_rng (a := m 14 (7 + 3 * C)) (b := m 14 (7 + 3 * o)) (by omega) (by omega) (by omega) (by omega)
  unfold F95
  rw [(hV.1.2.1 C C0 C1).1, (hV.1.2.1 o o0 o1).1, zG_t (by omega), zG_t (by omega), F83_s (by omega) (by omega) (by omega) (by omega), Option.bind_some, wdiv_eq (by omega) (by omega) (by decide) (by decide), wsub_eq (x := f) (by omega) (by omega), wsub_eq (x := f - 1) (by omega) (by omega)]
  by_cases u : f < zD (m 14 (7 + 3 * C)) (m 14 (7 + 3 * o))
  · rw [if_pos u, if_pos u]
  · rw [if_neg u, if_neg u]
theorem Q_on {T H C C' R f v5 : Int} {k0 : Int → Int → zHM → Option zHM} (T0 : 0 ≤ T) (T1 : T ≤ 200) (C0 : 0 ≤ C) (f0 : 1 ≤ f) (f1 : f ≤ 9) (H0 : T ≤ H) (H1 : H ≤ T + 240) : ∀ (N N' : Nat) (o : Int) (h : zHC) (m : zHM), RVC h m → zQ h m T H C' R → C < m 14 2 → m 30 C = H → m 32 C = 1 → h 64 1 0 = H → 0 ≤ o → o ≤ m 14 2 → m 14 2 - o < N → m 14 2 - o < N' → ∃ h' m', F92_1 N 1 0 0 C f o h = some h' ∧ F264_8 k0 N' (m 14 2) v5 C f o m = k0 (m 14 2) (wadd v5 1) m' ∧ zQ h' m' T H C' R ∧ m' 30 C = H ∧ (∀ r n j, ¬ ((r = 68 ∨ r = 69) ∧ n = 1) → h' r n j = h r n j) ∧ (∀ r j, ¬ (r = 30 ∨ r = 31) → m' r j = m r j) ∧ (∀ c, 0 ≤ c → c < m 14 2 → m' 30 c = m 30 c ∨ H < m' 30 c) := by
  intro N
  induction N with
  | zero => intro N' o h m hV q Cn e30 e32 e64 o0 o1 g1; omega
  | succ N ih =>
    intro N' o h m hV q Cn e30 e32 e64 o0 o1 g1 g2
    cases N' with
    | zero => omega
    | succ N' =>
      have w6 := hV.1.2.2.2.2.2.2.2.1
      unfold WN at w6
      have eN : h 578 0 0 = m 14 2 := hV.1.1.2.2.1
      rw [F92_1, F264_8, eN]
      by_cases u : m 14 2 ≤ o
      · rw [if_pos u, if_pos u]
        unfold F264_9
        exact ⟨h, m, rfl, rfl, q, e30, fun _ _ _ _ => rfl, fun _ _ _ => rfl, fun _ _ _ => Or.inl rfl⟩
      · have o2 : o < m 14 2 := by omega
        have next : ∃ h' m', F92_1 N 1 0 0 C f (o + 1) h = some h' ∧ F264_8 k0 N' (m 14 2) v5 C f (o + 1) m = k0 (m 14 2) (wadd v5 1) m' ∧ zQ h' m' T H C' R ∧ m' 30 C = H ∧ (∀ r n j, ¬ ((r = 68 ∨ r = 69) ∧ n = 1) → h' r n j = h r n j) ∧ (∀ r j, ¬ (r = 30 ∨ r = 31) → m' r j = m r j) ∧ (∀ c, 0 ≤ c → c < m 14 2 → m' 30 c = m 30 c ∨ H < m' 30 c) := ih N' (o + 1) h m hV q Cn e30 e32 e64 (by omega) (by omega) (by omega) (by omega)
        have wC := hV.1.2.2.2.2.2.2.2.2.1 C C0 Cn
        have wo := hV.1.2.2.2.2.2.2.2.2.1 o o0 o2
        have r := zD_rng (a := m 14 (7 + 3 * C)) (b := m 14 (7 + 3 * o)) (by omega) (by omega) (by omega) (by omega)
        rw [if_neg u, if_neg u, if_neg (show ¬ f ≤ 0 by omega), F229_s C0 (by omega), F229_s o0 (by omega), Option.bind_some, Option.bind_some, F230_s (by omega) (by omega) (by omega) (by omega), Option.bind_some]
        unfold F92_2 F264_10
        rw [wadd_eq (x := o) (y := 1) (by omega) (by omega)]
        by_cases v : o = C
        · rw [if_pos v, if_pos v]
          exact next
        · rw [if_neg v, if_neg v, F95_s hV C0 Cn o0 o2 f0 f1, Option.bind_some, wdiv_eq r.1 (by omega) (by decide) (by decide), wsub_eq (x := f) (y := 1) (by omega) (by omega), wsub_eq (x := f - 1) (by omega) (by omega)]
          by_cases far : f < zD (m 14 (7 + 3 * C)) (m 14 (7 + 3 * o))
          · rw [if_pos far, if_pos far, F85_0s (by decide) (by decide) o0 (by omega) (by decide), Option.bind_some]
            exact next
          · rw [if_neg far, if_neg far]
            by_cases lo : 0 < f - 1 - zD (m 14 (7 + 3 * C)) (m 14 (7 + 3 * o)) / 2
            · have b2 : f - 1 - zD (m 14 (7 + 3 * C)) (m 14 (7 + 3 * o)) / 2 ≤ 9 := by omega
              rw [if_pos lo, if_neg (show ¬ f - 1 - zD (m 14 (7 + 3 * C)) (m 14 (7 + 3 * o)) / 2 ≤ 0 by omega), zG_t (show 0 ≤ C ∧ C < 6 by omega), F232_s o0 (by omega), Option.bind_some, e30, wadd_eq (x := H) (by omega) (by omega)]
              have mask : m 32 o = 0 → ∃ S : Nat, S < 2 ^ (m 14 2).toNat ∧ S.testBit o.toNat = true ∧ (∀ e, 0 ≤ e → e < m 14 2 → S.testBit e.toNat = true → e = o ∨ m 32 e = 1) ∧ H + m 14 (7 + 3 * o + 1) - T = zDl m S ∧ zDl m S ≤ 240 := by
                intro g0
                obtain ⟨S, s1, s2, s3, s4⟩ := q.2.2.2.2.2.2 C C0 Cn (by omega)
                have sb : S.testBit o.toNat = false := by
                  cases hb : S.testBit o.toNat with
                  | false => rfl
                  | true =>
                    rcases s3 o o0 o2 hb with z | z
                    · exact absurd z v
                    · omega
                obtain ⟨b1, b2, b3⟩ := zbit_add (n := (m 14 2).toNat) (o := o.toNat) (by omega) (by omega) s1 sb
                refine ⟨S + 2 ^ o.toNat, b1, b2, fun e z0 z1 z2 => ?_, ?_, zDl_rng hV.1.2.2.2.2.2.2.2.2.1 (by omega) (by omega)⟩
                · by_cases w : e = o
                  · exact Or.inl w
                  · rw [b3 e.toNat (by omega) (by omega)] at z2
                    rcases s3 e z0 z1 z2 with z | z
                    · subst z; exact Or.inr e32
                    · exact Or.inr z
                · rw [zDl_add (by omega) o0 o2 s1 sb, ← s4, e30]
                  omega
              obtain ⟨h1, m1, a1, a2, a3, a4, a5, a6⟩ := Q_offer (d := m 14 (7 + 3 * o + 1)) q (by omega) T0 T1 o0 o2 (hV.1.2.1 o o0 o2).2.1 (by omega) (by omega) e64 H0 H1 (show 1 ≤ f - 1 - zD (m 14 (7 + 3 * C)) (m 14 (7 + 3 * o)) / 2 by omega) b2 mask
              rw [a1, a2, Option.bind_some, Option.bind_some]
              have z14 : m1 14 2 = m 14 2 := a5 14 2 (by omega)
              have e30' : m1 30 C = H := by rw [a5 30 C (fun z => v z.2.symm)]; exact e30
              have e32' : m1 32 C = 1 := by rw [a5 32 C (by omega)]; exact e32
              have e64' : h1 64 1 0 = H := by rw [a4 64 1 0 (by omega)]; exact e64
              have on' : o + 1 ≤ m 14 2 := by omega
              have ga : m 14 2 - (o + 1) < N := by omega
              have gb : m 14 2 - (o + 1) < N' := by omega
              have oo : 0 ≤ o + 1 := by omega
              rw [← z14] at on' ga gb
              have R1 := ih N' (o + 1) h1 m1 (zQ_RVC (fun r n j g => a4 r n j (by omega)) (fun r j g => a5 r j (by omega)) hV) a3 (by rw [z14]; exact Cn) e30' e32' e64' oo on' ga gb
              rw [z14] at R1
              obtain ⟨h2, m2, b1, b2, b3, b4, b5, b6, b7⟩ := R1
              refine ⟨h2, m2, b1, b2, b3, b4, fun r n j g => by rw [b5 r n j g, a4 r n j (by omega)], fun r j g => by rw [b6 r j g, a5 r j (by omega)], fun c c0 c1 => ?_⟩
              rcases b7 c c0 c1 with z | z
              · by_cases w : c = o
                · subst w
                  rcases a6 with y | y
                  · exact Or.inl (z.trans y)
                  · exact Or.inr (by omega)
                · exact Or.inl (by rw [z, a5 30 c (by omega)])
              · exact Or.inr z
            · rw [if_neg lo, if_pos (show f - 1 - zD (m 14 (7 + 3 * C)) (m 14 (7 + 3 * o)) / 2 ≤ 0 by omega), F85_0s (by decide) (by decide) o0 (by omega) (by decide), Option.bind_some]
              exact next
theorem zDl_0 {m : zHM} : zDl m 0 = 0 := by
  have p : ∀ n : Nat, zsum (fun _ : Int => (0 : Int)) n = 0 := by
    intro n
    induction n with
    | zero => rfl
    | succ n ih => unfold zsum; rw [ih]; rfl
  unfold zDl
  rw [zsum_cong (g := fun _ => 0) (fun j _ _ => by rw [if_neg (by rw [Nat.zero_testBit]; decide)])]
  exact p _
/-- when it is given back next -/
def zCS (h : zHC) (H : Int) : Prop := (∀ c, 0 ≤ c → c < 6 → H < h 68 1 c → h 72 1 0 ≤ h 68 1 c) ∧ (h 72 1 0 = 1000000 ∨ ∃ c, 0 ≤ c ∧ c < 6 ∧ h 68 1 c = h 72 1 0 ∧ H < h 72 1 0)
theorem Q_soon {h : zHC} {m : zHM} {T H C R : Int} (q : zQ h m T H C R) (T1 : T ≤ 200) (e64 : h 64 1 0 = H) : ∃ h', F86 1 0 h = some h' ∧ zCS h' H ∧ ∀ r n j, ¬ (r = 72 ∧ n = 1 ∧ j = 0) → h' r n j = h r n j := by
  have hd : ∀ c, 0 ≤ c → c < 6 → h 68 1 (0 * 6 + c) < 1000000 := by
    intro c c0 c1
    rw [Int.zero_mul, Int.zero_add]
    by_cases u : c < m 14 2
    · have w := q.1 c c0 u
      omega
    · have w := q.2.1 c (by omega) c1
      omega
  obtain ⟨h', a1, a2, a3⟩ := F86_s (h := h) (i := 1) (k := 0) (by decide) (by decide) e64 hd
  unfold CS at a2
  simp only [Int.zero_mul, Int.zero_add] at a2
  exact ⟨h', a1, a2, a3⟩
theorem zQ_h {h h' : zHC} {m : zHM} {T H C R : Int} (q : zQ h m T H C R) (f : ∀ r j, (r = 66 ∨ r = 68 ∨ r = 69 ∨ r = 71) → h' r 1 j = h r 1 j) : zQ h' m T H C R := by
  obtain ⟨q1, q2, q3, q4, q5, q6, q7⟩ := q
  refine ⟨fun c c0 c1 => ?_, fun c c0 c1 => ?_, q3, q4, ?_, fun x y z z1 => ?_, q7⟩
  · rw [f 68 c (by omega), f 69 c (by omega)]
    exact q1 c c0 c1
  · rw [f 68 c (by omega)]
    exact q2 c c0 c1
  · rw [f 66 0 (by omega)]
    exact q5
  · have l : ∀ j, h' 71 1 j = h 71 1 j := fun j => f 71 j (by omega)
    simp only [l, f 66 0 (by omega)]
    exact q6 x y z z1
theorem Q_dir {T x l : Int} (T0 : 0 ≤ T) (T1 : T ≤ 200) (x0 : 0 ≤ x) (x1 : x < 100) (l0 : 1 ≤ l) (l1 : l ≤ 9) : ∀ (N N' : Nat) (o : Int) (h : zHC) (m : zHM), RVC h m → zQ h m T T 0 0 → h 64 1 0 = T → 0 ≤ o → o ≤ m 14 2 → m 14 2 - o < N → m 14 2 - o < N' → ∃ h' m', F79_0 N 1 0 x l 0 o h = some (0, h') ∧ F264_1 N' x T l (m 14 2) o m = F264_2 zFu (m 14 2) 0 m' ∧ zQ h' m' T T 0 0 ∧ zCS h' T ∧ (∀ r n j, ¬ ((r = 68 ∨ r = 69 ∨ r = 72) ∧ n = 1) → h' r n j = h r n j) ∧ (∀ r j, ¬ (r = 30 ∨ r = 31) → m' r j = m r j) := by
  intro N
  induction N with
  | zero => intro N' o h m hV q e64 o0 o1 g1; omega
  | succ N ih =>
    intro N' o h m hV q e64 o0 o1 g1 g2
    cases N' with
    | zero => omega
    | succ N' =>
      have w6 := hV.1.2.2.2.2.2.2.2.1
      unfold WN at w6
      have eN : h 578 0 0 = m 14 2 := hV.1.1.2.2.1
      have hW := hV.1.2.2.2.2.2.2.2.2.1
      rw [F79_0, F264_1, eN]
      by_cases u : m 14 2 ≤ o
      · rw [if_pos u, if_pos u]
        obtain ⟨h', a1, a2, a3⟩ := Q_soon q T1 e64
        rw [a1, Option.bind_some]
        exact ⟨h', m, rfl, rfl, zQ_h q (fun r j g => a3 r 1 j (by omega)), a2, fun r n j g => a3 r n j (by omega), fun _ _ _ => rfl⟩
      · have o2 : o < m 14 2 := by omega
        have wo := hW o o0 o2
        have rg := zDir_rng hW o0 o2 x0 x1 (by omega) l1
        rw [if_neg u, if_neg u, F82_s hV.1.2.1 hW (by omega) o0 o2 x0 x1 (by omega) l1, F259_s hW (by omega) o0 o2 x0 x1 (by omega) l1, Option.bind_some, Option.bind_some]
        unfold F264_3
        rw [wadd_eq (x := o) (y := 1) (by omega) (by omega)]
        by_cases v : zDir (m 14) o x l ≤ 0
        · rw [if_pos v, F85_0s (by decide) (by decide) o0 (by omega) (by omega), Option.bind_some]
          exact ih N' (o + 1) h m hV q e64 (by omega) (by omega) (by omega) (by omega)
        · rw [if_neg v, F232_s o0 (by omega), Option.bind_some, Option.bind_some, wadd_eq (x := T) (by omega) (by omega)]
          have mask : m 32 o = 0 → ∃ S : Nat, S < 2 ^ (m 14 2).toNat ∧ S.testBit o.toNat = true ∧ (∀ e, 0 ≤ e → e < m 14 2 → S.testBit e.toNat = true → e = o ∨ m 32 e = 1) ∧ T + m 14 (7 + 3 * o + 1) - T = zDl m S ∧ zDl m S ≤ 240 := by
            intro _
            have sb : (0 : Nat).testBit o.toNat = false := Nat.zero_testBit _
            have s1 : 0 < 2 ^ (m 14 2).toNat := Nat.two_pow_pos _
            obtain ⟨b1, b2, b3⟩ := zbit_add (n := (m 14 2).toNat) (o := o.toNat) (by omega) (by omega) s1 sb
            refine ⟨0 + 2 ^ o.toNat, b1, b2, fun e z0 z1 z2 => ?_, ?_, zDl_rng hW (by omega) (by omega)⟩
            · by_cases w : e = o
              · exact Or.inl w
              · rw [b3 e.toNat (by omega) (by omega), Nat.zero_testBit] at z2
                cases z2
            · rw [zDl_add (by omega) o0 o2 s1 sb, zDl_0]
              omega
          obtain ⟨h1, m1, a1, a2, a3, a4, a5, a6⟩ := Q_offer (d := m 14 (7 + 3 * o + 1)) q (by omega) T0 T1 o0 o2 (hV.1.2.1 o o0 o2).2.1 (by omega) (by omega) e64 (Int.le_refl T) (by omega) (show 1 ≤ zDir (m 14) o x l by omega) rg.2 mask
          rw [a1, a2, Option.bind_some, Option.bind_some]
          have z14 : m1 14 2 = m 14 2 := a5 14 2 (by omega)
          have R1 := ih N' (o + 1) h1 m1 (zQ_RVC (fun r n j g => a4 r n j (by omega)) (fun r j g => a5 r j (by omega)) hV) a3 (by rw [a4 64 1 0 (by omega)]; exact e64) (by omega) (by omega) (by omega) (by omega)
          rw [z14] at R1
          obtain ⟨h2, m2, b1, b2, b3, b4, b5, b6⟩ := R1
          exact ⟨h2, m2, b1, b2, b3, b4, fun r n j g => by rw [b5 r n j g, a4 r n j (by omega)], fun r j g => by rw [b6 r j g, a5 r j (by omega)]⟩
end
section
/-! Pieces: a cliff sounds; the next hour in which one does. -/
theorem F93_t {h : zHC} {v c f i : Int} (c0 : 0 ≤ c) (c1 : c < 6) : ∃ r, F93 v c f i h = some r := by
  have key : ∀ (n : Nat) (b p : Int), 0 ≤ p → p ≤ 6 → 6 - p < n → ∃ r, F93_0 h n v c f i b p = some r := by
    intro n
    induction n with
    | zero => intro b p p0 p1 g; omega
    | succ n ih =>
      intro b p p0 p1 g
      rw [F93_0]
      by_cases u : h 579 v 0 ≤ p
      · rw [if_pos u]; exact ⟨b, rfl⟩
      · rw [if_neg u]
        by_cases w : 6 ≤ p
        · rw [if_pos w]; exact ⟨b, rfl⟩
        · rw [if_neg w, zG_t ⟨c0, c1⟩, zG_t (by omega)]
          obtain ⟨x, hx⟩ : ∃ x, F83 (h 584 v c) (h 67 i p) = some x := ⟨_, rfl⟩
          unfold F93_1
          rw [hx, Option.bind_some, wadd_eq (x := p) (y := 1) (by omega) (by omega)]
          split
          · exact ih _ (p + 1) (by omega) (by omega) (by omega)
          · exact ih _ (p + 1) (by omega) (by omega) (by omega)
  have big := zFu_big
  exact key zFu 0 0 (by decide) (by decide) (by omega)
theorem Q_gone {h h1 : zHC} {m : zHM} {T H C R s0 : Int} (q : zQ h m T H C R) (n0 : 0 ≤ m 14 2) (C0 : 0 ≤ C) (C1 : C < m 14 2) (H0 : 0 ≤ H) (eH : m 30 C = H) (f1 : ∀ r j, (r = 68 ∨ r = 69) → h1 r 1 j = h r 1 j) (hl : (s0 = 0 ∧ h1 66 1 0 = h 66 1 0 ∧ ∀ j, h1 71 1 j = h 71 1 j) ∨ (1 ≤ s0 ∧ h1 66 1 0 = h 66 1 0 + 1 ∧ (∀ j, 0 ≤ j → j < 5 * h 66 1 0 → h1 71 1 j = h 71 1 j) ∧ h1 71 1 (h 66 1 0 * 5 + 1) = C ∧ h1 71 1 (h 66 1 0 * 5 + 2) = H ∧ h1 71 1 (h 66 1 0 * 5 + 3) = s0)) : zQ h1 (mset (mset m 32 C 1) 33 C s0) T H (C + 1) (R + 1) := by
  obtain ⟨q1, q2, q3, q4, q5, q6, q7⟩ := q
  have g0 : m 32 C = 0 := by rw [q3 C C0 C1, if_neg (by omega)]
  have z33 := q4 C C0 C1 g0
  obtain ⟨M, eM⟩ : ∃ M, mset (mset m 32 C 1) 33 C s0 = M := ⟨_, rfl⟩
  rw [eM]
  have fm : ∀ r j, ¬ ((r = 32 ∨ r = 33) ∧ j = C) → M r j = m r j := fun r j g => by rw [← eM, mset_ne (by omega), mset_ne (by omega)]
  have y14 : M 14 = m 14 := by funext j; exact fm 14 j (by omega)
  have y30 : M 30 = m 30 := by funext j; exact fm 30 j (by omega)
  have y31 : M 31 = m 31 := by funext j; exact fm 31 j (by omega)
  have x32 : M 32 C = 1 := by rw [← eM, mset_ne (by omega), mset_eq]
  have x33 : M 33 C = s0 := by rw [← eM, mset_eq]
  refine ⟨fun c c0 c1 => ?_, fun c c0 c1 => ?_, fun c c0 c1 => ?_, fun c c0 c1 c2 => ?_, ⟨?_, ?_, ?_⟩, fun x y z z1 => ?_, fun c c0 c1 c2 => ?_⟩
  · rw [y14] at c1
    rw [y30, y31, f1 68 c (by omega), f1 69 c (by omega)]
    exact q1 c c0 c1
  · rw [y14] at c0
    rw [f1 68 c (by omega)]
    exact q2 c c0 c1
  · rw [y14] at c1
    rw [y30]
    by_cases w : c = C
    · subst w
      rw [x32, if_pos (by omega)]
    · rw [fm 32 c (by omega), q3 c c0 c1]
      by_cases v : ¬ m 30 c = -1 ∧ (m 30 c < H ∨ m 30 c = H ∧ c < C)
      · rw [if_pos v, if_pos (by omega)]
      · rw [if_neg v, if_neg (by omega)]
  · rw [y14] at c1
    by_cases w : c = C
    · subst w; omega
    · rw [fm 32 c (by omega)] at c2
      rw [fm 33 c (by omega)]
      exact q4 c c0 c1 c2
  · rcases hl with ⟨-, e, -⟩ | ⟨-, e, -⟩ <;> omega
  · rcases hl with ⟨-, e, -⟩ | ⟨-, e, -⟩ <;> omega
  · rw [y14]
    have e := zsum_upd (f := m 32) (g := M 32) (n := (m 14 2).toNat) (k := C) (d := 1) C0 (by omega) (by omega) (fun j j0 j1 j2 => fm 32 j (by omega))
    omega
  · rw [y14, y30]
    rcases hl with ⟨s1, s2, s3⟩ | ⟨s1, s2, s3, s4, s5, s6⟩
    · rw [s2]
      simp only [s3]
      refine (q6 x y z z1).trans ?_
      by_cases w : x = C
      · subst w
        rw [x33, z33]
        exact ⟨fun t => by omega, fun t => by omega⟩
      · rw [fm 33 x (by omega)]
    · rw [s2]
      by_cases w : x = C ∧ y = H ∧ z = s0
      · obtain ⟨w1, w2, w3⟩ := w
        subst w1 w2 w3
        exact ⟨fun _ => ⟨C0, C1, x33, eH⟩, fun _ => ⟨h 66 1 0, q5.1, by omega, s4, s5, s6⟩⟩
      · have lft : (∃ j, 0 ≤ j ∧ j < h 66 1 0 + 1 ∧ h1 71 1 (j * 5 + 1) = x ∧ h1 71 1 (j * 5 + 2) = y ∧ h1 71 1 (j * 5 + 3) = z) ↔ (∃ j, 0 ≤ j ∧ j < h 66 1 0 ∧ h 71 1 (j * 5 + 1) = x ∧ h 71 1 (j * 5 + 2) = y ∧ h 71 1 (j * 5 + 3) = z) := by
          constructor
          · rintro ⟨j, j0, j1, j2, j3, j4⟩
            by_cases u : j = h 66 1 0
            · subst u
              exact absurd ⟨j2.symm.trans s4, j3.symm.trans s5, j4.symm.trans s6⟩ w
            · rw [s3 _ (by omega) (by omega)] at j2 j3 j4
              exact ⟨j, j0, by omega, j2, j3, j4⟩
          · rintro ⟨j, j0, j1, j2, j3, j4⟩
            exact ⟨j, j0, by omega, by rw [s3 _ (by omega) (by omega)]; exact j2, by rw [s3 _ (by omega) (by omega)]; exact j3, by rw [s3 _ (by omega) (by omega)]; exact j4⟩
        refine lft.trans ((q6 x y z z1).trans ?_)
        by_cases u : x = C
        · subst u
          rw [x33, z33]
          exact ⟨fun t => by omega, fun t => absurd ⟨rfl, t.2.2.2.symm.trans eH, t.2.2.1.symm⟩ w⟩
        · rw [fm 33 x (by omega)]
  · rw [y14] at c1
    rw [y30] at c2
    obtain ⟨S, t1, t2, t3, t4⟩ := q7 c c0 c1 c2
    refine ⟨S, by rw [y14]; exact t1, t2, fun e e0 e1 e2 => ?_, ?_⟩
    · rw [y14] at e1
      rcases t3 e e0 e1 e2 with z | z
      · exact Or.inl z
      · by_cases w : e = C
        · subst w; exact Or.inr x32
        · exact Or.inr (by rw [fm 32 e (by omega)]; exact z)
    · rw [y30, t4]
      unfold zDl
      rw [y14]
theorem Q_sound {h : zHC} {m : zHM} {T H C R V v5 : Int} {k0 : Int → Int → zHM → Option zHM} (hV : RVC h m) (q : zQ h m T H C R) (T0 : 0 ≤ T) (T1 : T ≤ 200) (C0 : 0 ≤ C) (C1 : C < m 14 2) (H0 : T ≤ H) (H1 : H ≤ T + 240) (eH : m 30 C = H) (e64 : h 64 1 0 = H) (V1 : V ≤ 9) (v0 : 0 ≤ v5) (v1 : v5 ≤ 10) : ∃ h' m', F92 1 0 0 C V h = some h' ∧ (if 0 ≤ V then F264_5 k0 (m 14 2) v5 C V V C (mset m 32 C 1) else F264_5 k0 (m 14 2) v5 C V 0 C (mset m 32 C 1)) = k0 (m 14 2) (v5 + 1) m' ∧ zQ h' m' T H (C + 1) (R + 1) ∧ (∀ r n j, ¬ ((r = 66 ∨ (68 ≤ r ∧ r ≤ 71)) ∧ n = 1) → h' r n j = h r n j) ∧ (∀ r j, ¬ (30 ≤ r ∧ r ≤ 33) → m' r j = m r j) := by
  have big := zFu_big
  have w6 := hV.1.2.2.2.2.2.2.2.1
  unfold WN at w6
  have q5 := q.2.2.2.2.1
  have qR := zQ_R (by omega) q
  have g0 : m 32 C = 0 := by rw [q.2.2.1 C C0 C1, if_neg (by omega)]
  unfold F264_5
  rw [zG_t (show 0 ≤ C ∧ C < 6 by omega), zG_t (show 0 ≤ C ∧ C < 6 by omega)]
  by_cases p : 1 ≤ V
  · rw [if_pos (show 0 ≤ V by omega)]
    obtain ⟨r, hr⟩ := F93_t (h := h) (v := 0) (c := C) (f := V) (i := 1) C0 (by omega)
    obtain ⟨h1, b1, b2, b3, b4, b5, b6, b7, b8, b9, b10, b11⟩ := F92_pre (k := 0) (E := h 66 1 0) hr rfl q5.1 (by omega) (by decide) (by decide) p
    rw [b1]
    have z1 : zQ h1 (mset (mset m 32 C 1) 33 C V) T H (C + 1) (R + 1) := Q_gone q (by omega) C0 C1 (by omega) eH (fun r j g => b2 r 1 j (by omega)) (Or.inr ⟨p, b3, fun j j0 j1 => b2 71 1 j (by omega), b5, by rw [b6]; exact e64, b7⟩)
    have fm : ∀ r j, ¬ (r = 32 ∨ r = 33) → (mset (mset m 32 C 1) 33 C V) r j = m r j := fun r j g => by rw [mset_ne (by omega), mset_ne (by omega)]
    have V2 : RVC h1 (mset (mset m 32 C 1) 33 C V) := zQ_RVC (fun r n j g => b2 r n j (by omega)) (fun r j g => fm r j (by omega)) hV
    have n14 : (mset (mset m 32 C 1) 33 C V) 14 2 = m 14 2 := fm 14 2 (by omega)
    have O := Q_on (k0 := k0) (v5 := v5) (C := C) (f := V) T0 T1 C0 p V1 H0 H1 zFu zFu 0 h1 _ V2 z1 (by rw [n14]; exact C1) (by rw [fm 30 C (by omega)]; exact eH) (by rw [mset_ne (by omega), mset_eq]) (by rw [b2 64 1 0 (by omega)]; exact e64) (by decide) (by rw [n14]; omega) (by rw [n14]; omega) (by rw [n14]; omega)
    rw [n14] at O
    obtain ⟨h2, m2, c1, c2, c3, c4, c5, c6, c7⟩ := O
    rw [wadd_eq (x := v5) (by omega) (by omega)] at c2
    exact ⟨h2, m2, c1, c2, c3, fun r n j g => by rw [c5 r n j (by omega), b2 r n j (by omega)], fun r j g => by rw [c6 r j (by omega), fm r j (by omega)]⟩
  · have e92 : F92 1 0 0 C V h = some h := by
      unfold F92
      rw [if_neg (by omega)]
    have fm : ∀ r j, ¬ (r = 32 ∨ r = 33) → (mset (mset m 32 C 1) 33 C 0) r j = m r j := fun r j g => by rw [mset_ne (by omega), mset_ne (by omega)]
    have e264 : F264_8 k0 zFu (m 14 2) v5 C V 0 (mset (mset m 32 C 1) 33 C 0) = k0 (m 14 2) (v5 + 1) (mset (mset m 32 C 1) 33 C 0) := by
      obtain ⟨N, eN⟩ : ∃ N, zFu = N + 1 := ⟨zFu - 1, by omega⟩
      rw [eN, F264_8, if_neg (show ¬ m 14 2 ≤ 0 by omega), if_pos (show V ≤ 0 by omega)]
      unfold F264_9
      rw [wadd_eq (x := v5) (by omega) (by omega)]
    have e0 : (if 0 ≤ V then F264_8 k0 zFu (m 14 2) v5 C V 0 (mset (mset m 32 C 1) 33 C V) else F264_8 k0 zFu (m 14 2) v5 C V 0 (mset (mset m 32 C 1) 33 C 0)) = F264_8 k0 zFu (m 14 2) v5 C V 0 (mset (mset m 32 C 1) 33 C 0) := by
      by_cases u : 0 ≤ V
      · have : V = 0 := by omega
        subst this
        rw [if_pos u]
      · rw [if_neg u]
    rw [e0, e92, e264]
    exact ⟨h, _, rfl, rfl, Q_gone q (by omega) C0 C1 (by omega) eH (fun _ _ _ => rfl) (Or.inl ⟨rfl, rfl, fun _ => rfl⟩), fun _ _ _ _ => rfl, fun r j g => fm r j (by omega)⟩
theorem Q_first {h : zHC} {m : zHM} {T H C R st sn v5 : Int} {k0 : Int → Int → zHM → Option zHM} (q : zQ h m T H C R) (n6 : m 14 2 ≤ 6) (C0 : 0 ≤ C) (C1 : C < m 14 2) (H0 : 0 ≤ H) (eH : m 30 C = H) (hst : F207 C (mset m 32 C 1) = some st) (hsn : F208 H (mset m 32 C 1) = some sn) (s0 : 1 ≤ st) (s1 : st ≤ 9) (t0 : 0 ≤ sn) (t1 : sn ≤ 9) : ∀ (N : Nat) (v6 v7 : Int), 0 ≤ v7 → v7 ≤ m 14 2 → m 14 2 - v7 < N → ((v7 ≤ C ∧ (v6 = -1 ∨ (0 ≤ v6 ∧ v6 < v7 ∧ H < m 30 v6))) ∨ (C < v7 ∧ v6 = C)) → F264_4 k0 N (m 14 2) v5 v6 v7 m = if 0 ≤ (if st - sn ≤ m 31 C then st - sn else m 31 C) then F264_5 k0 (m 14 2) v5 C (if st - sn ≤ m 31 C then st - sn else m 31 C) (if st - sn ≤ m 31 C then st - sn else m 31 C) C (mset m 32 C 1) else F264_5 k0 (m 14 2) v5 C (if st - sn ≤ m 31 C then st - sn else m 31 C) 0 C (mset m 32 C 1) := by
  intro N
  induction N with
  | zero => intro v6 v7 a b g; omega
  | succ N ih =>
    intro v6 v7 a b g hc
    have g0 : m 32 C = 0 := by rw [q.2.2.1 C C0 C1, if_neg (by omega)]
    by_cases u : m 14 2 ≤ v7
    · have e6 : v6 = C := by omega
      subst e6
      rw [F264_4, if_pos u, if_pos (show ¬ v6 = -1 by omega), zG_t (by omega), zG_t (by omega), hst, Option.bind_some, zG_t (by omega), eH, hsn, Option.bind_some, wsub_eq (by omega) (by omega)]
      unfold F238
      by_cases w : st - sn ≤ m 31 v6
      · rw [if_pos w, Option.bind_some]
        simp only [if_pos w]
      · rw [if_neg w, Option.bind_some]
        simp only [if_neg w]
    · have go : ∀ x, ((v7 + 1 ≤ C ∧ (x = -1 ∨ (0 ≤ x ∧ x < v7 + 1 ∧ H < m 30 x))) ∨ (C < v7 + 1 ∧ x = C)) → F264_4 k0 N (m 14 2) v5 x (wadd v7 1) m = if 0 ≤ (if st - sn ≤ m 31 C then st - sn else m 31 C) then F264_5 k0 (m 14 2) v5 C (if st - sn ≤ m 31 C then st - sn else m 31 C) (if st - sn ≤ m 31 C then st - sn else m 31 C) C (mset m 32 C 1) else F264_5 k0 (m 14 2) v5 C (if st - sn ≤ m 31 C then st - sn else m 31 C) 0 C (mset m 32 C 1) := fun x hx => by
        rw [wadd_eq (x := v7) (by omega) (by omega)]
        exact ih x (v7 + 1) (by omega) (by omega) (by omega) hx
      have d7 := q.1 v7 a (by omega)
      have g7 := q.2.2.1 v7 a (by omega)
      rw [F264_4, if_neg u, zG_t (show 0 ≤ v7 ∧ v7 < 6 by omega)]
      unfold F264_7
      unfold F264_6
      by_cases w : m 32 v7 = 0
      · rw [if_neg (show ¬ ¬ m 32 v7 = 0 from fun z => z w), zG_t (show 0 ≤ v7 ∧ v7 < 6 by omega)]
        by_cases w2 : m 30 v7 = -1
        · rw [if_pos w2]
          refine go v6 ?_
          by_cases y : v7 = C
          · subst y; omega
          · omega
        · rw [if_neg w2]
          have ge : H < m 30 v7 ∨ (m 30 v7 = H ∧ C ≤ v7) := by
            rw [w] at g7
            by_cases y : ¬ m 30 v7 = -1 ∧ (m 30 v7 < H ∨ m 30 v7 = H ∧ v7 < C)
            · rw [if_pos y] at g7; omega
            · omega
          by_cases w3 : v6 = -1
          · rw [if_pos w3]
            refine go v7 ?_
            by_cases y : v7 = C
            · exact Or.inr ⟨by omega, y⟩
            · exact Or.inl ⟨by omega, Or.inr ⟨a, by omega, by omega⟩⟩
          · rw [if_neg w3, zG_t (show 0 ≤ v7 ∧ v7 < 6 by omega), zG_t (show 0 ≤ v6 ∧ v6 < 6 by omega)]
            by_cases w4 : m 30 v6 ≤ m 30 v7
            · rw [if_pos w4]
              refine go v6 ?_
              rcases hc with ⟨y1, y2⟩ | ⟨y1, y2⟩
              · by_cases y : v7 = C
                · subst y; omega
                · omega
              · omega
            · rw [if_neg w4]
              refine go v7 ?_
              rcases hc with ⟨y1, y2⟩ | ⟨y1, y2⟩
              · by_cases y : v7 = C
                · exact Or.inr ⟨by omega, y⟩
                · exact Or.inl ⟨by omega, Or.inr ⟨a, by omega, by omega⟩⟩
              · subst y2; omega
      · rw [if_pos w]
        refine go v6 ?_
        by_cases y : v7 = C
        · subst y; exact absurd g0 w
        · omega
theorem Q_none {m : zHM} {v5 : Int} {k0 : Int → Int → zHM → Option zHM} (n6 : m 14 2 ≤ 6) (hn : ∀ c, 0 ≤ c → c < m 14 2 → m 32 c = 0 → m 30 c = -1) : ∀ (N : Nat) (v7 : Int), 0 ≤ v7 → v7 ≤ m 14 2 → m 14 2 - v7 < N → F264_4 k0 N (m 14 2) v5 (-1) v7 m = some m := by
  intro N
  induction N with
  | zero => intro v7 a b g; omega
  | succ N ih =>
    intro v7 a b g
    rw [F264_4]
    by_cases u : m 14 2 ≤ v7
    · rw [if_pos u, if_neg (show ¬ ¬ (-1 : Int) = -1 by decide)]
    · rw [if_neg u, zG_t (show 0 ≤ v7 ∧ v7 < 6 by omega)]
      unfold F264_6
      rw [wadd_eq (x := v7) (by omega) (by omega)]
      have go := ih (v7 + 1) (by omega) (by omega) (by omega)
      by_cases w : m 32 v7 = 0
      · rw [if_neg (show ¬ ¬ m 32 v7 = 0 from fun z => z w), zG_t (show 0 ≤ v7 ∧ v7 < 6 by omega), if_pos (hn v7 a (by omega) w)]
        exact go
      · rw [if_pos w]
        exact go
end
