/-! Pieces: what was heard held against what sounds; where one can begin. -/
theorem F126_s {h : zHC} {m : zHM} {T H C R k : Int} (q : zQ h m T H C R) (R6 : R ≤ 6) (hP : zPc h m) (k0 : 0 ≤ k) (k1 : k < m 34 0) : F126 1 k h = some (if m 33 (m 26 k) = m 28 k ∧ m 30 (m 26 k) = m 27 k then 1 else 0) := by
  have big := zFu_big
  obtain ⟨p1, p2, p3, p4⟩ := hP
  obtain ⟨e1, e2, e3, e4, e5, e6, e7, e8, e9⟩ := p4 k k0 k1
  have q5 := q.2.2.2.2.1
  have hQ := q.2.2.2.2.2.1 (m 26 k) (m 27 k) (m 28 k) e8
  have key : ∀ (n : Nat) (j : Int), 0 ≤ j → j ≤ h 66 1 0 → h 66 1 0 - j < n → (∀ i, 0 ≤ i → i < j → ¬ (h 71 1 (i * 5 + 1) = m 26 k ∧ h 71 1 (i * 5 + 2) = m 27 k ∧ h 71 1 (i * 5 + 3) = m 28 k)) → F126_0 h n 1 k j = some (if m 33 (m 26 k) = m 28 k ∧ m 30 (m 26 k) = m 27 k then 1 else 0) := by
    intro n
    induction n with
    | zero => intro j j0 j1 g; omega
    | succ n ih =>
      intro j j0 j1 g hn
      rw [F126_0]
      by_cases u : h 66 1 0 ≤ j
      · rw [if_pos u, if_neg]
        rintro ⟨w1, w2⟩
        obtain ⟨i, i0, i1, i2⟩ := hQ.mpr ⟨e2, e3, w1, w2⟩
        exact hn i i0 (by omega) i2
      · rw [if_neg u, F67_s j0 (by omega) (by decide) (by decide), F67_s j0 (by omega) (by decide) (by decide), F67_s j0 (by omega) (by decide) (by decide), Option.bind_some, e1, e4, e7, zG_t (show 0 ≤ k ∧ k < 6 by omega)]
        unfold F126_1
        rw [wadd_eq (x := j) (by omega) (by omega)]
        have next : ¬ (h 71 1 (j * 5 + 1) = m 26 k ∧ h 71 1 (j * 5 + 2) = m 27 k ∧ h 71 1 (j * 5 + 3) = m 28 k) → F126_0 h n 1 k (j + 1) = some (if m 33 (m 26 k) = m 28 k ∧ m 30 (m 26 k) = m 27 k then 1 else 0) := fun z => ih (j + 1) (by omega) (by omega) (by omega) (fun i i0 i1 => by
          by_cases w : i = j
          · subst w; exact z
          · exact hn i i0 (by omega))
        by_cases w1 : h 71 1 (j * 5 + 1) = m 26 k
        · rw [if_neg (show ¬ ¬ h 71 1 (j * 5 + 1) = m 26 k from fun z => z w1), Option.bind_some, zG_t (show 0 ≤ k ∧ k < 6 by omega)]
          by_cases w2 : h 71 1 (j * 5 + 2) = m 27 k
          · rw [if_neg (show ¬ ¬ h 71 1 (j * 5 + 2) = m 27 k from fun z => z w2), Option.bind_some, zG_t (show 0 ≤ k ∧ k < 6 by omega)]
            by_cases w3 : h 71 1 (j * 5 + 3) = m 28 k
            · rw [if_neg (show ¬ ¬ h 71 1 (j * 5 + 3) = m 28 k from fun z => z w3)]
              have r := hQ.mp ⟨j, j0, by omega, w1, w2, w3⟩
              rw [if_pos r.2.2]
            · rw [if_pos w3]
              exact next (fun z => w3 z.2.2)
          · rw [if_pos w2]
            exact next (fun z => w2 z.2.1)
        · rw [if_pos w1]
          exact next (fun z => w1 z.1)
  unfold F126
  exact key zFu 0 (by decide) q5.1 (by omega) (fun i i0 i1 => by omega)
theorem P_all {h : zHC} {m : zHM} {T H C R : Int} (q : zQ h m T H C R) (n6 : m 14 2 ≤ 6) (R6 : R ≤ 6) (hP : zPc h m) : ∃ b, F123_2 1 h = some (b, h) ∧ F266 m = some b ∧ (b = 0 ∨ b = 1) ∧ (b = 1 → ∀ i, 0 ≤ i → i < m 34 0 → m 33 (m 26 i) = m 28 i ∧ m 30 (m 26 i) = m 27 i) := by
  have big := zFu_big
  obtain ⟨p1, p2, p3, p4⟩ := id hP
  have key : ∀ (n n' : Nat) (k : Int), 0 ≤ k → k ≤ m 34 0 → m 34 0 - k < n → m 34 0 - k < n' → ∃ b, F123_3 n 1 k h = some (b, h) ∧ F266_0 m n' k = some b ∧ (b = 0 ∨ b = 1) ∧ (b = 1 → ∀ i, k ≤ i → i < m 34 0 → m 33 (m 26 i) = m 28 i ∧ m 30 (m 26 i) = m 27 i) := by
    intro n
    induction n with
    | zero => intro n' k k0 k1 g; omega
    | succ n ih =>
      intro n' k k0 k1 g g'
      cases n' with
      | zero => omega
      | succ n' =>
        rw [F123_3, F266_0, p1]
        by_cases u : m 34 0 ≤ k
        · rw [if_pos u, if_pos u]
          exact ⟨1, rfl, rfl, Or.inr rfl, fun _ i i0 i1 => by omega⟩
        · obtain ⟨e1, e2, e3, e4, e5, e6, e7, e8, e9⟩ := p4 k k0 (by omega)
          rw [if_neg u, if_neg u, F126_s q R6 hP k0 (by omega), Option.bind_some, zG_t (show 0 ≤ k ∧ k < 6 by omega), zG_t (show 0 ≤ m 26 k ∧ m 26 k < 6 by omega), zG_t (show 0 ≤ k ∧ k < 6 by omega), zG_t (show 0 ≤ k ∧ k < 6 by omega), zG_t (show 0 ≤ m 26 k ∧ m 26 k < 6 by omega), zG_t (show 0 ≤ k ∧ k < 6 by omega), wadd_eq (x := k) (by omega) (by omega)]
          by_cases w1 : m 33 (m 26 k) = m 28 k
          · rw [if_neg (show ¬ ¬ m 33 (m 26 k) = m 28 k from fun z => z w1)]
            by_cases w2 : m 30 (m 26 k) = m 27 k
            · rw [if_pos (show m 33 (m 26 k) = m 28 k ∧ m 30 (m 26 k) = m 27 k from ⟨w1, w2⟩), if_pos (show ¬ (1 : Int) = 0 by decide), if_pos w2]
              obtain ⟨b, b1, b2, b3, b4⟩ := ih n' (k + 1) (by omega) (by omega) (by omega) (by omega)
              refine ⟨b, b1, b2, b3, fun z i i0 i1 => ?_⟩
              by_cases y : i = k
              · subst y; exact ⟨w1, w2⟩
              · exact b4 z i (by omega) i1
            · rw [if_neg (show ¬ (m 33 (m 26 k) = m 28 k ∧ m 30 (m 26 k) = m 27 k) from fun z => w2 z.2), if_neg (show ¬ ¬ (0 : Int) = 0 by decide), if_neg w2]
              exact ⟨0, rfl, rfl, Or.inl rfl, fun z => by omega⟩
          · rw [if_pos w1, if_neg (show ¬ (m 33 (m 26 k) = m 28 k ∧ m 30 (m 26 k) = m 27 k) from fun z => w1 z.1), if_neg (show ¬ ¬ (0 : Int) = 0 by decide)]
            exact ⟨0, rfl, rfl, Or.inl rfl, fun z => by omega⟩
  unfold F123_2 F266
  obtain ⟨b, b1, b2, b3, b4⟩ := key zFu zFu 0 (by decide) (by omega) (by omega) (by omega)
  exact ⟨b, b1, b2, b3, b4⟩
def zCan (m : zHM) (c hrs : Int) : Prop := ∃ S : Nat, S < 2 ^ (m 14 2).toNat ∧ S.testBit c.toNat = true ∧ hrs = zDl m S
theorem F65_bit {S : Nat} {d : Int} (hS : S < 64) (d0 : 0 ≤ d) (d1 : d < 6) : F65 (S : Int) d = some (if S.testBit d.toNat = true then 1 else 0) := by
  have k : (List.range 64).all (fun a => (List.range 6).all (fun b => decide (F65 (a : Int) (b : Int) = some (if a.testBit b = true then 1 else 0)))) = true := by decide +kernel
  have e := of_decide_eq_true (List.all_eq_true.mp (List.all_eq_true.mp k S (List.mem_range.mpr hS)) d.toNat (List.mem_range.mpr (by omega)))
  rw [show ((d.toNat : Nat) : Int) = d by omega] at e
  exact e
theorem wshl_2 {n : Int} (n0 : 0 ≤ n) (n6 : n ≤ 6) : wshl 1 n = ((2 ^ n.toNat : Nat) : Int) := by
  have k : (List.range 7).all (fun a => decide (wshl 1 (a : Int) = ((2 ^ a : Nat) : Int))) = true := by decide +kernel
  have e := of_decide_eq_true (List.all_eq_true.mp k n.toNat (List.mem_range.mpr (by omega)))
  rw [show ((n.toNat : Nat) : Int) = n by omega] at e
  exact e
theorem two_64 {n : Nat} (h : n ≤ 6) : 2 ^ n ≤ 64 := by
  have : 2 ^ n ≤ 2 ^ 6 := Nat.pow_le_pow_right (by decide) h
  exact this
theorem F122_s {h : zHC} {m : zHM} {c hrs : Int} (hV : RVC h m) (c0 : 0 ≤ c) (c1 : c < m 14 2) : ∃ r, F122 0 c hrs h = some r ∧ (r = 0 ∨ r = 1) ∧ (r = 1 ↔ zCan m c hrs) := by
  have big := zFu_big
  have w6 := hV.1.2.2.2.2.2.2.2.1
  unfold WN at w6
  have hW := hV.1.2.2.2.2.2.2.2.2.1
  have eN : h 578 0 0 = m 14 2 := hV.1.1.2.2.1
  have p64 := two_64 (n := (m 14 2).toNat) (by omega)
  have inner : ∀ (k0 : Int → Int → Int → Int → Option Int) (S : Nat), S < 2 ^ (m 14 2).toNat → ∀ (n : Nat) (o : Nat), (o : Int) ≤ m 14 2 → m 14 2 - o < n → F122_1 k0 h n 0 c hrs (S : Int) (zsum (fun d => if S.testBit d.toNat = true then m 14 (7 + 3 * d + 1) else 0) o) (o : Int) = if hrs = zDl m S ∧ S.testBit c.toNat = true then some 1 else k0 0 c hrs ((S : Int) + 1) := by
    intro k0 S hS n
    induction n with
    | zero => intro o o1 g; omega
    | succ n ih =>
      intro o o1 g
      have sm : ∀ j : Int, 0 ≤ j → j < o → (fun d => if S.testBit d.toNat = true then m 14 (7 + 3 * d + 1) else 0) j ≤ 40 := fun j j0 j1 => by
        have w := hW j j0 (by omega)
        show (if _ then _ else _) ≤ (40 : Int)
        split <;> omega
      have s1 := zsum_le (n := o) (b := 40) sm
      have s0 : ∀ (f : Int → Int) (n : Nat), (∀ j : Int, 0 ≤ j → j < n → 0 ≤ f j) → 0 ≤ zsum f n := by
        intro f n
        induction n with
        | zero => intro _; exact Int.le_refl 0
        | succ n ih =>
          intro hf
          unfold zsum
          have := ih (fun j j0 j1 => hf j j0 (by omega))
          have := hf n (by omega) (by omega)
          omega
      have s2 := s0 (fun d => if S.testBit d.toNat = true then m 14 (7 + 3 * d + 1) else 0) o (fun j j0 j1 => by
        have w := hW j j0 (by omega)
        show (0 : Int) ≤ (if _ then _ else _)
        split <;> omega)
      rw [F122_1, eN]
      unfold F122_2 F122_3
      by_cases u : m 14 2 ≤ o
      · have e : (o : Int) = m 14 2 := by omega
        have e2 : o = (m 14 2).toNat := by omega
        rw [if_pos u, wadd_eq (x := (S : Int)) (by omega) (by omega), F65_bit (by omega) c0 (by omega), Option.bind_some]
        have ez : zsum (fun d => if S.testBit d.toNat = true then m 14 (7 + 3 * d + 1) else 0) o = zDl m S := by
          unfold zDl
          rw [e2]
        rw [ez]
        by_cases v : zDl m S = hrs
        · rw [if_neg (show ¬ ¬ zDl m S = hrs from fun z => z v)]
          by_cases w : S.testBit c.toNat = true
          · rw [if_pos w, if_neg (show ¬ (1 : Int) = 0 by decide), if_pos ⟨v.symm, w⟩]
          · rw [if_neg w, if_pos rfl, if_neg (fun z => w z.2)]
        · rw [if_pos v, if_neg (fun z => v z.1.symm)]
      · have wo := hW o (by omega) (by omega)
        rw [if_neg u, F65_bit (S := S) (d := (o : Int)) (by omega) (by omega) (by omega), Option.bind_some, wadd_eq (x := (o : Int)) (y := 1) (by omega) (by omega), show (o : Int) + 1 = ((o + 1 : Nat) : Int) by omega]
        have nx := ih (o + 1) (by omega) (by omega)
        rw [zsum] at nx
        by_cases v : S.testBit (o : Int).toNat = true
        · rw [if_pos v, if_neg (show ¬ (1 : Int) = 0 by decide), zG_t (show 0 ≤ (o : Int) ∧ (o : Int) < 6 by omega), (hV.1.2.1 o (by omega) (by omega)).2.1, wadd_eq (x := zsum _ o) (by omega) (by omega)]
          rw [if_pos v] at nx
          exact nx
        · rw [if_neg v, if_pos rfl, wadd_eq (x := zsum _ o) (by omega) (by omega)]
          rw [if_neg v] at nx
          exact nx
  have outer : ∀ (n : Nat) (S : Nat), S ≤ 2 ^ (m 14 2).toNat → 2 ^ (m 14 2).toNat - S < n → (∀ S', S' < S → ¬ (S'.testBit c.toNat = true ∧ hrs = zDl m S')) → ∃ r, F122_0 h n 0 c hrs (S : Int) = some r ∧ (r = 0 ∨ r = 1) ∧ (r = 1 ↔ zCan m c hrs) := by
    intro n
    induction n with
    | zero => intro S S1 g; omega
    | succ n ih =>
      intro S S1 g hn
      rw [F122_0, eN, wshl_2 (by omega) (by omega)]
      by_cases u : ((2 ^ (m 14 2).toNat : Nat) : Int) ≤ (S : Int)
      · rw [if_pos u]
        refine ⟨0, rfl, Or.inl rfl, fun z => by omega, ?_⟩
        rintro ⟨S', a, b, d⟩
        exact absurd ⟨b, d⟩ (hn S' (by omega))
      · have I := inner (F122_0 h n) S (by omega) zFu 0 (by omega) (by omega)
        rw [zsum] at I
        rw [if_neg u]
        have I' : F122_1 (F122_0 h n) h zFu 0 c hrs (S : Int) 0 0 = if hrs = zDl m S ∧ S.testBit c.toNat = true then some 1 else F122_0 h n 0 c hrs ((S : Int) + 1) := I
        rw [I']
        by_cases v : hrs = zDl m S ∧ S.testBit c.toNat = true
        · rw [if_pos v]
          exact ⟨1, rfl, Or.inr rfl, fun _ => ⟨S, by omega, v.2, v.1⟩, fun _ => rfl⟩
        · rw [if_neg v, show (S : Int) + 1 = ((S + 1 : Nat) : Int) by omega]
          refine ih (S + 1) (by omega) (by omega) (fun S' s' => ?_)
          by_cases w : S' = S
          · subst w; exact fun z => v ⟨z.2, z.1⟩
          · exact hn S' (by omega)
  unfold F122
  exact outer zFu 0 (Nat.zero_le _) (by omega) (fun S' s' => by omega)
theorem F121_s {h : zHC} {m : zHM} {T : Int} (hV : RVC h m) (hP : zPc h m) (T0 : 0 ≤ T) (T1 : T ≤ 200) : ∃ r, F121 0 T h = some r ∧ (r = 0 ∨ r = 1) ∧ (r = 1 ↔ ∀ i, 0 ≤ i → i < m 34 0 → zCan m (m 26 i) (m 27 i - T)) := by
  have big := zFu_big
  obtain ⟨p1, p2, p3, p4⟩ := id hP
  have key : ∀ (n : Nat) (k : Int), 0 ≤ k → k ≤ m 34 0 → m 34 0 - k < n → (∀ i, 0 ≤ i → i < k → zCan m (m 26 i) (m 27 i - T)) → ∃ r, F121_0 h n 0 T k = some r ∧ (r = 0 ∨ r = 1) ∧ (r = 1 ↔ ∀ i, 0 ≤ i → i < m 34 0 → zCan m (m 26 i) (m 27 i - T)) := by
    intro n
    induction n with
    | zero => intro k k0 k1 g; omega
    | succ n ih =>
      intro k k0 k1 g hd
      rw [F121_0, p1]
      by_cases u : m 34 0 ≤ k
      · rw [if_pos u]
        exact ⟨1, rfl, Or.inr rfl, fun _ i i0 i1 => hd i i0 (by omega), fun _ => rfl⟩
      · obtain ⟨e1, e2, e3, e4, e5, e6, e7, e8, e9⟩ := p4 k k0 (by omega)
        rw [if_neg u, zG_t (show 0 ≤ k ∧ k < 6 by omega), zG_t (show 0 ≤ k ∧ k < 6 by omega), e1, e4, wsub_eq (by omega) (by omega), wadd_eq (x := k) (by omega) (by omega)]
        obtain ⟨r, r1, r2, r3⟩ := F122_s (h := h) (m := m) (c := m 26 k) (hrs := m 27 k - T) hV e2 e3
        rw [r1, Option.bind_some]
        rcases r2 with z | z
        · subst z
          rw [if_neg (show ¬ ¬ (0 : Int) = 0 by decide)]
          refine ⟨0, rfl, Or.inl rfl, fun y => by omega, fun y => ?_⟩
          have := r3.mpr (y k k0 (by omega))
          omega
        · subst z
          rw [if_pos (show ¬ (1 : Int) = 0 by decide)]
          refine ih (k + 1) (by omega) (by omega) (by omega) (fun i i0 i1 => ?_)
          by_cases w : i = k
          · subst w; exact r3.mp rfl
          · exact hd i i0 (by omega)
  unfold F121
  exact key zFu 0 (by decide) (by omega) (by omega) (fun i i0 i1 => by omega)
