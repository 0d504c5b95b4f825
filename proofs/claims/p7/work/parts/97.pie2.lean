/-! Pieces: what comes to a cliff, in the class's other course and in the model's rows. -/
/-- delays of some cliffs, that one's too, add up -/
def zDl (m : zHM) (S : Nat) : Int := zsum (fun d => if S.testBit d.toNat = true then m 14 (7 + 3 * d + 1) else 0) (m 14 2).toNat
def pcMask (m : zHM) (T c : Int) : Prop := ∃ S : Nat, S < 2 ^ (m 14 2).toNat ∧ S.testBit c.toNat = true ∧ (∀ d, 0 ≤ d → d < m 14 2 → S.testBit d.toNat = true → d = c ∨ m 32 d = 1) ∧ m 30 c - T = zDl m S
theorem zbit_add {S n o : Nat} (hn : n ≤ 6) (ho : o < n) (hS : S < 2 ^ n) (hb : S.testBit o = false) : S + 2 ^ o < 2 ^ n ∧ (S + 2 ^ o).testBit o = true ∧ ∀ d : Nat, d < n → ¬ d = o → (S + 2 ^ o).testBit d = S.testBit d := by
  have key : (List.range 7).all (fun n => (List.range n).all (fun o => (List.range (2 ^ n)).all (fun S => S.testBit o || (decide (S + 2 ^ o < 2 ^ n) && (S + 2 ^ o).testBit o && (List.range n).all (fun d => decide (d = o) || decide ((S + 2 ^ o).testBit d = S.testBit d)))))) = true := by decide +kernel
  have k1 := List.all_eq_true.mp (List.all_eq_true.mp (List.all_eq_true.mp key n (List.mem_range.mpr (by omega))) o (List.mem_range.mpr ho)) S (List.mem_range.mpr hS)
  rw [hb, Bool.false_or, Bool.and_eq_true, Bool.and_eq_true] at k1
  refine ⟨of_decide_eq_true k1.1.1, k1.1.2, fun d d0 d1 => ?_⟩
  have k2 := List.all_eq_true.mp k1.2 d (List.mem_range.mpr d0)
  rw [Bool.or_eq_true] at k2
  rcases k2 with k2 | k2
  · exact absurd (of_decide_eq_true k2) d1
  · exact of_decide_eq_true k2
theorem zDl_rng {m : zHM} {S : Nat} (hW : WC (m 14)) (n0 : 0 ≤ m 14 2) (n6 : m 14 2 ≤ 6) : zDl m S ≤ 240 := by
  unfold zDl
  have := zsum_le (f := fun d => if S.testBit d.toNat = true then m 14 (7 + 3 * d + 1) else 0) (n := (m 14 2).toNat) (b := 40) (fun j j0 j1 => by
    have w := hW j j0 (by omega)
    by_cases q : S.testBit j.toNat = true
    · rw [if_pos q]; omega
    · rw [if_neg q]; omega)
  omega
theorem zDl_add {m : zHM} {S : Nat} {o : Int} (n6 : m 14 2 ≤ 6) (o0 : 0 ≤ o) (o1 : o < m 14 2) (hS : S < 2 ^ (m 14 2).toNat) (hb : S.testBit o.toNat = false) : zDl m (S + 2 ^ o.toNat) = zDl m S + m 14 (7 + 3 * o + 1) := by
  obtain ⟨b1, b2, b3⟩ := zbit_add (n := (m 14 2).toNat) (o := o.toNat) (by omega) (by omega) hS hb
  unfold zDl
  refine zsum_upd (k := o) o0 (by omega) ?_ (fun j j0 j1 j2 => ?_)
  · show (if (S + 2 ^ o.toNat).testBit o.toNat = true then _ else _) = (if S.testBit o.toNat = true then _ else _) + _
    rw [if_pos b2, hb, if_neg (by decide)]
    omega
  · show (if (S + 2 ^ o.toNat).testBit j.toNat = true then _ else _) = (if S.testBit j.toNat = true then _ else _)
    rw [b3 j.toNat (by omega) (by omega)]
theorem zDl_pos {m : zHM} {S : Nat} {o : Int} (hW : WC (m 14)) (o0 : 0 ≤ o) (o1 : o < m 14 2) (hb : S.testBit o.toNat = true) : 1 ≤ zDl m S := by
  have w := hW o o0 o1
  have e := zsum_upd (f := fun d => if d = o then 0 else if S.testBit d.toNat = true then m 14 (7 + 3 * d + 1) else 0) (g := fun d => if S.testBit d.toNat = true then m 14 (7 + 3 * d + 1) else 0) (n := (m 14 2).toNat) (k := o) (d := m 14 (7 + 3 * o + 1)) o0 (by omega) (by
    show (if S.testBit o.toNat = true then _ else _) = (if o = o then _ else _) + _
    rw [if_pos hb, if_pos rfl]; omega) (fun j j0 j1 j2 => by
    show _ = (if j = o then _ else _)
    rw [if_neg j2])
  have p : ∀ (f : Int → Int) (n : Nat), (∀ j : Int, 0 ≤ j → j < n → 0 ≤ f j) → 0 ≤ zsum f n := by
    intro f n
    induction n with
    | zero => intro _; exact Int.le_refl 0
    | succ n ih =>
      intro hf
      unfold zsum
      have := ih (fun j j0 j1 => hf j j0 (by omega))
      have := hf n (by omega) (by omega)
      omega
  have p1 := p (fun d => if d = o then 0 else if S.testBit d.toNat = true then m 14 (7 + 3 * d + 1) else 0) (m 14 2).toNat (fun j j0 j1 => by
    have w := hW j j0 (by omega)
    by_cases q : j = o
    · show 0 ≤ (if j = o then _ else _)
      rw [if_pos q]; exact Int.le_refl 0
    · show 0 ≤ (if j = o then _ else _)
      rw [if_neg q]
      by_cases q2 : S.testBit j.toNat = true
      · rw [if_pos q2]; omega
      · rw [if_neg q2]; exact Int.le_refl 0)
  unfold zDl
  omega
/-- between the class's other course and the model's rows, where HOUR H's cliffs ahead of C have been heard -/
def zQ (h : zHC) (m : zHM) (T H C R : Int) : Prop := (∀ c, 0 ≤ c → c < m 14 2 → h 68 1 c = m 30 c ∧ (m 30 c = -1 ∨ (T < m 30 c ∧ m 30 c ≤ T + 240 ∧ h 69 1 c = m 31 c ∧ 1 ≤ m 31 c ∧ m 31 c ≤ 9))) ∧ (∀ c, m 14 2 ≤ c → c < 6 → h 68 1 c = -1) ∧ (∀ c, 0 ≤ c → c < m 14 2 → m 32 c = if ¬ m 30 c = -1 ∧ (m 30 c < H ∨ m 30 c = H ∧ c < C) then 1 else 0) ∧ (∀ c, 0 ≤ c → c < m 14 2 → m 32 c = 0 → m 33 c = 0) ∧ (0 ≤ h 66 1 0 ∧ h 66 1 0 ≤ R ∧ R = zsum (m 32) (m 14 2).toNat) ∧ (∀ x y z, 1 ≤ z → ((∃ j, 0 ≤ j ∧ j < h 66 1 0 ∧ h 71 1 (j * 5 + 1) = x ∧ h 71 1 (j * 5 + 2) = y ∧ h 71 1 (j * 5 + 3) = z) ↔ (0 ≤ x ∧ x < m 14 2 ∧ m 33 x = z ∧ m 30 x = y))) ∧ (∀ c, 0 ≤ c → c < m 14 2 → ¬ m 30 c = -1 → pcMask m T c)
theorem zQ_R {h : zHC} {m : zHM} {T H C R : Int} (n0 : 0 ≤ m 14 2) (q : zQ h m T H C R) : R ≤ m 14 2 ∧ ∀ c, 0 ≤ c → c < m 14 2 → m 32 c = 0 → R < m 14 2 := by
  have b : ∀ j : Int, 0 ≤ j → j < (m 14 2).toNat → m 32 j ≤ 1 := fun j j0 j1 => by
    rw [q.2.2.1 j j0 (by omega)]
    split <;> omega
  have r := q.2.2.2.2.1.2.2
  constructor
  · have := zsum_le (f := m 32) (n := (m 14 2).toNat) (b := 1) b
    omega
  · intro c c0 c1 e
    have := zsum_lt (f := m 32) (n := (m 14 2).toNat) (k := c) (b := 1) c0 (by omega) (by omega) b
    omega
/-- something comes to cliff c -/
theorem Q_offer {h : zHC} {m : zHM} {T H C R c f d : Int} (q : zQ h m T H C R) (n6 : m 14 2 ≤ 6) (T0 : 0 ≤ T) (T1 : T ≤ 200) (c0 : 0 ≤ c) (c1 : c < m 14 2) (hd : h 585 0 c = d) (d0 : 1 ≤ d) (d1 : d ≤ 40) (hH : h 64 1 0 = H) (H0 : T ≤ H) (H1 : H ≤ T + 240) (f0 : 1 ≤ f) (f1 : f ≤ 9) (hS : m 32 c = 0 → ∃ S : Nat, S < 2 ^ (m 14 2).toNat ∧ S.testBit c.toNat = true ∧ (∀ e, 0 ≤ e → e < m 14 2 → S.testBit e.toNat = true → e = c ∨ m 32 e = 1) ∧ H + d - T = zDl m S ∧ zDl m S ≤ 240) : ∃ h' m', F85 1 0 0 c f h = some h' ∧ F265 c (H + d) f m = some m' ∧ zQ h' m' T H C R ∧ (∀ r n j, ¬ ((r = 68 ∨ r = 69) ∧ n = 1 ∧ j = c) → h' r n j = h r n j) ∧ (∀ r j, ¬ ((r = 30 ∨ r = 31) ∧ j = c) → m' r j = m r j) ∧ (m' 30 c = m 30 c ∨ m' 30 c = H + d) := by
  obtain ⟨q1, q2, q3, q4, q5, q6, q7⟩ := id q
  obtain ⟨e68, ev⟩ := q1 c c0 c1
  have e3 := q3 c c0 c1
  have same : ∃ h' m', some h = some h' ∧ some m = some m' ∧ zQ h' m' T H C R ∧ (∀ r n j, ¬ ((r = 68 ∨ r = 69) ∧ n = 1 ∧ j = c) → h' r n j = h r n j) ∧ (∀ r j, ¬ ((r = 30 ∨ r = 31) ∧ j = c) → m' r j = m r j) ∧ (m' 30 c = m 30 c ∨ m' 30 c = H + d) := ⟨h, m, rfl, rfl, q, fun _ _ _ _ => rfl, fun _ _ _ => rfl, Or.inl rfl⟩
  have put : m 32 c = 0 → (m 30 c = -1 ∨ H < m 30 c) → ∃ h' m', F85_2 1 f c (H + d) h = some h' ∧ F265_0 c (H + d) f m = some m' ∧ zQ h' m' T H C R ∧ (∀ r n j, ¬ ((r = 68 ∨ r = 69) ∧ n = 1 ∧ j = c) → h' r n j = h r n j) ∧ (∀ r j, ¬ ((r = 30 ∨ r = 31) ∧ j = c) → m' r j = m r j) ∧ (m' 30 c = m 30 c ∨ m' 30 c = H + d) := by
    intro g0 hn
    unfold F85_2 F265_0
    rw [zG_t (by omega), zG_t (by omega), zG_t (by omega), zG_t (by omega)]
    obtain ⟨h', eh⟩ : ∃ h', hset (hset h 68 1 c (H + d)) 69 1 c f = h' := ⟨_, rfl⟩
    obtain ⟨m', em⟩ : ∃ m', mset (mset m 30 c (H + d)) 31 c f = m' := ⟨_, rfl⟩
    rw [eh, em]
    have fh : ∀ r n j, ¬ ((r = 68 ∨ r = 69) ∧ n = 1 ∧ j = c) → h' r n j = h r n j := fun r n j g => by rw [← eh, hset_ne (by omega), hset_ne (by omega)]
    have fm : ∀ r j, ¬ ((r = 30 ∨ r = 31) ∧ j = c) → m' r j = m r j := fun r j g => by rw [← em, mset_ne (by omega), mset_ne (by omega)]
    have x68 : h' 68 1 c = H + d := by rw [← eh, hset_ne (by omega), hset_eq]
    have x69 : h' 69 1 c = f := by rw [← eh, hset_eq]
    have y30 : m' 30 c = H + d := by rw [← em, mset_ne (by omega), mset_eq]
    have y31 : m' 31 c = f := by rw [← em, mset_eq]
    have y14 : m' 14 = m 14 := by funext j; exact fm 14 j (by omega)
    have y32 : m' 32 = m 32 := by funext j; exact fm 32 j (by omega)
    have dl : ∀ S, zDl m' S = zDl m S := fun S => by unfold zDl; rw [y14]
    obtain ⟨S, s1, s2, s3, s4, s5⟩ := hS g0
    refine ⟨h', m', rfl, rfl, ⟨fun k k0 k1 => ?_, fun k k0 k1 => ?_, fun k k0 k1 => ?_, fun k k0 k1 => ?_, ?_, fun x y z z1 => ?_, fun k k0 k1 k2 => ?_⟩, fh, fm, Or.inr y30⟩
    · by_cases w : k = c
      · subst w
        rw [x68, x69, y30, y31]
        exact ⟨rfl, Or.inr ⟨by omega, by omega, rfl, f0, f1⟩⟩
      · rw [y14] at k1
        rw [fh 68 1 k (by omega), fh 69 1 k (by omega), fm 30 k (by omega), fm 31 k (by omega)]
        exact q1 k k0 k1
    · rw [y14] at k0
      rw [fh 68 1 k (by omega)]
      exact q2 k k0 k1
    · rw [y14] at k1
      rw [y32]
      by_cases w : k = c
      · subst w
        rw [g0, y30, if_neg (by omega)]
      · rw [fm 30 k (by omega)]
        exact q3 k k0 k1
    · rw [y14] at k1
      rw [y32, fm 33 k (by omega)]
      exact q4 k k0 k1
    · rw [y14, y32, fh 66 1 0 (by omega)]
      exact q5
    · rw [y14, fh 66 1 0 (by omega)]
      have l : ∀ j, h' 71 1 j = h 71 1 j := fun j => fh 71 1 j (by omega)
      simp only [l]
      refine (q6 x y z z1).trans ?_
      by_cases w : x = c
      · subst w
        have u := q4 x c0 c1 g0
        rw [fm 33 x (by omega), u]
        exact ⟨fun t => by omega, fun t => by omega⟩
      · rw [fm 33 x (by omega), fm 30 x (by omega)]
    · rw [y14] at k1
      by_cases w : k = c
      · subst w
        refine ⟨S, by rw [y14]; exact s1, s2, fun e e0 e1 e2 => by rw [y14] at e1; rw [y32]; exact s3 e e0 e1 e2, ?_⟩
        rw [y30, dl]
        exact s4
      · rw [fm 30 k (by omega)] at k2
        obtain ⟨S', t1, t2, t3, t4⟩ := q7 k k0 k1 k2
        refine ⟨S', by rw [y14]; exact t1, t2, fun e e0 e1 e2 => by rw [y14] at e1; rw [y32]; exact t3 e e0 e1 e2, ?_⟩
        rw [fm 30 k (by omega), dl]
        exact t4
  unfold F85 F265
  rw [wmul_eq (x := 0) (y := 6) (by decide) (by decide), show (0 : Int) * 6 = 0 by decide, wadd_eq (x := 0) (y := c) (by omega) (by omega), Int.zero_add, hH, hd, wadd_eq (x := H) (y := d) (by omega) (by omega), e68, zG_t (show 0 ≤ c ∧ c < 6 by omega), zG_t (show 0 ≤ c ∧ c < 180 by omega), zG_t (show 0 ≤ c ∧ c < 180 by omega), zG_t (show 0 ≤ c ∧ c < 6 by omega), zG_t (show 0 ≤ c ∧ c < 6 by omega), zG_t (show 0 ≤ c ∧ c < 6 by omega), zG_t (show 0 ≤ c ∧ c < 6 by omega), zG_t (show 0 ≤ c ∧ c < 6 by omega)]
  unfold F85_0 F85_1
  rw [if_neg (show ¬ f < 1 by omega), if_neg (show ¬ f < 1 by omega), if_pos (rfl : (0 : Int) = 0), if_neg (show ¬ (1 : Int) = 0 by decide), e68, zG_t (show 0 ≤ c ∧ c < 180 by omega), zG_t (show 0 ≤ c ∧ c < 180 by omega), zG_t (show 0 ≤ c ∧ c < 180 by omega), zG_t (show 0 ≤ c ∧ c < 180 by omega)]
  by_cases g : m 32 c = 0
  · rw [if_neg (show ¬ 0 < m 32 c by omega)]
    by_cases v : m 30 c = -1
    · rw [if_pos v, if_pos v, if_pos v]
      exact put g (Or.inl v)
    · have hge : H ≤ m 30 c := by
        rw [g] at e3
        by_cases w : ¬ m 30 c = -1 ∧ (m 30 c < H ∨ m 30 c = H ∧ c < C)
        · rw [if_pos w] at e3; omega
        · omega
      rw [if_neg v, if_neg v, if_neg v]
      by_cases w : H < m 30 c
      · rw [if_pos w]
        by_cases w2 : H + d < m 30 c
        · rw [if_pos w2, if_neg (show ¬ m 30 c < H + d by omega), if_pos (show ¬ m 30 c = H + d by omega)]
          exact put g (Or.inr w)
        · rw [if_neg w2]
          by_cases w3 : H + d = m 30 c
          · rw [if_neg (show ¬ ¬ H + d = m 30 c from fun z => z w3), if_neg (show ¬ m 30 c < H + d by omega), if_neg (show ¬ ¬ m 30 c = H + d from fun z => z w3.symm)]
            have e69 : h 69 1 c = m 31 c := by
              rcases ev with u | u
              · exact absurd u v
              · exact u.2.2.1
            rw [e69]
            by_cases w4 : m 31 c < f
            · rw [if_neg (show ¬ f ≤ m 31 c by omega), if_pos w4]
              exact put g (Or.inr w)
            · rw [if_pos (show f ≤ m 31 c by omega), if_neg w4]
              exact same
          · rw [if_pos w3, if_pos (show m 30 c < H + d by omega)]
            exact same
      · rw [if_neg w, if_pos (show m 30 c < H + d by omega)]
        exact same
  · have hh : ¬ m 30 c = -1 ∧ ¬ H < m 30 c := by
      by_cases w : ¬ m 30 c = -1 ∧ (m 30 c < H ∨ m 30 c = H ∧ c < C)
      · exact ⟨w.1, by omega⟩
      · rw [if_neg w] at e3; exact absurd e3 g
    have g1 : 0 < m 32 c := by
      rw [e3] at g ⊢
      split at g
      · rename_i w; rw [if_pos w]; decide
      · exact absurd rfl g
    rw [if_pos g1, if_neg hh.1, if_neg hh.2]
    exact same
