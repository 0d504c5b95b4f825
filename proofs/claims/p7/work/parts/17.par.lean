/-! What runs on the second heap runs on the first. -/
section ZP
variable {lO lA : Nat → Int → Nat} {sc : Prop}
def zLR (lO lA : Nat → Int → Nat) (sc : Prop) (L2 L1 : zLo) : Prop := L2.length = L1.length ∧ ∀ (i : Nat) (a2 : zAv), zGl L2 i = some a2 → ∃ a1, zGl L1 i = some a1 ∧ zVR lO lA sc a2 a1
def zSR (lO lA : Nat → Int → Nat) (sc : Prop) : List zAv → List zAv → Prop
  | [], [] => True
  | a :: r, b :: s => zVR lO lA sc a b ∧ zSR lO lA sc r s
  | _, _ => False
def zCR (lO lA : Nat → Int → Nat) (sc : Prop) (c2 : zCf zH2) (c1 : zCf zH1) : Prop := c1.1 = c2.1 ∧ zLR lO lA sc c2.2.1 c1.2.1 ∧ zSR lO lA sc c2.2.2.1 c1.2.2.1 ∧ zR2 lO lA c2.2.2.2 c1.2.2.2
theorem zSR_cons {a : zAv} {r st1 : List zAv} (h : zSR lO lA sc (a :: r) st1) : ∃ b s, st1 = b :: s ∧ zVR lO lA sc a b ∧ zSR lO lA sc r s := by
  cases st1 with
  | nil => exact h.elim
  | cons b s => exact ⟨b, s, rfl, h.1, h.2⟩
theorem zSR_nil {st1 : List zAv} (h : zSR lO lA sc [] st1) : st1 = [] := by
  cases st1 with
  | nil => rfl
  | cons b s => exact h.elim
theorem zVR0 {x : Int} {a1 : zAv} (h : zVR lO lA sc (0, x) a1) : a1 = (0, x) := by
  rcases h with ⟨-, h⟩ | ⟨h, -⟩ | ⟨h, -⟩ | ⟨h, -⟩ | ⟨ci, -, h, -⟩ | ⟨ci, k, y, -, -, -, h, -⟩
  · exact h
  · cases h
  · cases h
  · cases h
  · simp only at h; omega
  · unfold zTg2 at h; simp only at h; omega
theorem zVR1 {x : Int} {a1 : zAv} (h : zVR lO lA sc (1, x) a1) : a1 = (1, x) := by
  rcases h with ⟨h, -⟩ | ⟨-, h⟩ | ⟨h, -⟩ | ⟨h, -⟩ | ⟨ci, -, h, -⟩ | ⟨ci, k, y, -, -, -, h, -⟩
  · cases h
  · exact h
  · cases h
  · cases h
  · simp only at h; omega
  · unfold zTg2 at h; simp only at h; omega
theorem zVR_i {x : Int} : zVR lO lA sc (0, x) (0, x) := Or.inl ⟨rfl, rfl⟩
theorem zVR_l {x : Int} : zVR lO lA sc (1, x) (1, x) := Or.inr (Or.inl ⟨rfl, rfl⟩)
theorem zVR_tag {a2 a1 : zAv} (h : zVR lO lA sc a2 a1) : zEq0 a1.1 = zEq0 a2.1 ∧ zEq1 a1.1 = zEq1 a2.1 ∧ zGe2 a1.1 = zGe2 a2.1 := by
  have big : ∀ t, 2 ≤ t → zEq0 t = false ∧ zEq1 t = false ∧ zGe2 t = true := by
    intro t ht
    refine ⟨?_, ?_, Nat.ble_eq_true_of_le ht⟩
    · cases e : zEq0 t with
      | false => rfl
      | true => have := Nat.eq_of_beq_eq_true e; omega
    · cases e : zEq1 t with
      | false => rfl
      | true => have := Nat.eq_of_beq_eq_true e; omega
  have go : 2 ≤ a2.1 → 2 ≤ a1.1 → zEq0 a1.1 = zEq0 a2.1 ∧ zEq1 a1.1 = zEq1 a2.1 ∧ zGe2 a1.1 = zGe2 a2.1 := by
    intro h2 h1
    obtain ⟨p1, p2, p3⟩ := big _ h2
    obtain ⟨q1, q2, q3⟩ := big _ h1
    rw [p1, p2, p3, q1, q2, q3]
    exact ⟨rfl, rfl, rfl⟩
  rcases h with ⟨-, h⟩ | ⟨-, h⟩ | ⟨-, h, -⟩ | ⟨h1, h⟩ | ⟨ci, -, h1, -, -, h⟩ | ⟨ci, k, y, -, -, -, h1, -, -, h⟩
  · rw [h]; exact ⟨rfl, rfl, rfl⟩
  · rw [h]; exact ⟨rfl, rfl, rfl⟩
  · rw [h]; exact ⟨rfl, rfl, rfl⟩
  · exact go (by omega) (by rw [h]; exact Nat.le_refl 2)
  · exact go (by omega) (by rw [h]; exact Nat.le_refl 2)
  · exact go (by unfold zTg2 at h1; omega) (by rw [h]; exact Nat.le_refl 2)
theorem zGl_kl' {L : zLo} {i j : Nat} {a : zAv} (h : zGl L j = some a) (h2 : ¬ (j + 1 = i ∧ a.1 = 1)) : zGl (zKl L i) j = some a := by
  cases i with
  | zero => exact h
  | succ i =>
    unfold zKl
    simp only
    split
    · rename_i x hx
      by_cases e : i = j
      · subst e
        rw [h] at hx
        cases hx
        exact absurd ⟨rfl, rfl⟩ h2
      · unfold zGl at *
        rw [List.getElem?_set_ne e]
        exact h
    · exact h
theorem zGl_set' {L : zLo} {i j : Nat} {x : Option zAv} (h : i ≠ j) : zGl (L.set i x) j = zGl L j := by
  unfold zGl
  rw [List.getElem?_set_ne h]
theorem zGl_self {L : zLo} {i : Nat} {a : zAv} (h : i < L.length) : zGl (L.set i (some a)) i = some a := by
  unfold zGl
  rw [List.getElem?_set_self h]
theorem zLR.sto {L2 L1 : zLo} {n : Nat} {a2 a1 : zAv} (h : zLR lO lA sc L2 L1) (hn : n < L2.length) (ha : zVR lO lA sc a2 a1) : zLR lO lA sc (zSt L2 n a2) (zSt L1 n a1) := by
  refine ⟨by rw [zSt_len, zSt_len]; exact h.1, fun i c hc => ?_⟩
  rcases zGl_set hc with ⟨h1, h2⟩ | ⟨h1, h2⟩
  · cases h2
    subst h1
    exact ⟨a1, zGl_self (by rw [zKl_len, ← h.1]; exact hn), ha⟩
  · obtain ⟨h3, h4⟩ := zGl_kl h2
    obtain ⟨c1, h5, h6⟩ := h.2 i c h3
    refine ⟨c1, ?_, h6⟩
    unfold zSt
    rw [zGl_set' h1]
    refine zGl_kl' h5 (fun q => h4 ⟨q.1, ?_⟩)
    have := (zVR_tag h6).2.1
    unfold zEq1 at this
    rw [q.2] at this
    exact Nat.eq_of_beq_eq_true this.symm
theorem zLR.stoL {L2 L1 : zLo} {n : Nat} {a2 a1 : zAv} (h : zLR lO lA sc L2 L1) (hn : n + 1 < L2.length) (ha : zVR lO lA sc a2 a1) : zLR lO lA sc (zStL L2 n a2) (zStL L1 n a1) := by
  refine ⟨by rw [zStL_len, zStL_len]; exact h.1, fun i c hc => ?_⟩
  rcases zGl_set hc with ⟨h1, h2⟩ | ⟨h0, h2⟩
  · cases h2
  · unfold zStL
    rw [zGl_set' h0]
    rcases zGl_set h2 with ⟨h1, h2⟩ | ⟨h1, h2⟩
    · cases h2
      subst h1
      exact ⟨a1, zGl_self (by rw [zKl_len, ← h.1]; omega), ha⟩
    · obtain ⟨h3, h4⟩ := zGl_kl h2
      obtain ⟨c1, h5, h6⟩ := h.2 i c h3
      refine ⟨c1, ?_, h6⟩
      rw [zGl_set' h1]
      refine zGl_kl' h5 (fun q => h4 ⟨q.1, ?_⟩)
      have := (zVR_tag h6).2.1
      unfold zEq1 at this
      rw [q.2] at this
      exact Nat.eq_of_beq_eq_true this.symm
/-- one step of each -/
def zSm (lO lA : Nat → Int → Nat) (sc : Prop) (r2 : zRs zH2) (r1 : zRs zH1) : Prop := ∀ gs c2', r2 = some (gs, c2') → zAll gs → ∃ gs1 c1', r1 = some (gs1, c1') ∧ zAll gs1 ∧ zCR lO lA sc c2' c1'
variable {c2 : zCf zH2} {c1 : zCf zH1}
theorem p_ld {ok : Nat → Bool} {n len : Nat} (hok : ok = zEq0 ∨ ok = zEq1 ∨ ok = zGe2) (h : zCR lO lA sc c2 c1) : zSm lO lA sc (zLd ok n len c2) (zLd ok n len c1) := by
  obtain ⟨h1, h2, h3, h4⟩ := h
  intro gs c2' hE hg
  unfold zLd at hE
  split at hE
  · rename_i t x e1
    split at hE
    · rename_i e2
      cases hE
      obtain ⟨a1, q1, q2⟩ := h2.2 _ _ e1
      obtain ⟨t1, x1⟩ := a1
      have ht : ok t1 = true := by
        obtain ⟨w1, w2, w3⟩ := zVR_tag q2
        rcases hok with rfl | rfl | rfl
        · rw [w1]; exact e2
        · rw [w2]; exact e2
        · rw [w3]; exact e2
      refine ⟨[], (c1.1 + len, c1.2.1, (t1, x1) :: c1.2.2.1, c1.2.2.2), ?_, trivial, ⟨by rw [h1], h2, ⟨q2, h3⟩, h4⟩⟩
      unfold zLd
      rw [q1]
      simp only [ht]
    · cases hE
  · cases hE
theorem p_pu {v : zAv} {len : Nat} (hv : zVR lO lA sc v v) (h : zCR lO lA sc c2 c1) : zSm lO lA sc (zPu v len c2) (zPu v len c1) := by
  obtain ⟨h1, h2, h3, h4⟩ := h
  intro gs c2' hE hg
  cases hE
  exact ⟨[], _, rfl, trivial, ⟨by show c1.1 + len = c2.1 + len; rw [h1], h2, ⟨hv, h3⟩, h4⟩⟩
theorem p_ck {b : Bool} {r2 : zRs zH2} {r1 : zRs zH1} (h : zSm lO lA sc r2 r1) : zSm lO lA sc (zCk b r2) (zCk b r1) := by
  intro gs c2' hE hg
  cases b with
  | true => exact h gs c2' hE hg
  | false => cases hE
theorem p_sto {ok : Nat → Bool} {n len : Nat} (hok : ok = zEq0 ∨ ok = zEq1 ∨ ok = zGe2) (h : zCR lO lA sc c2 c1) : zSm lO lA sc (zSto ok n len c2) (zSto ok n len c1) := by
  obtain ⟨h1, h2, h3, h4⟩ := h
  intro gs c2' hE hg
  unfold zSto at hE
  split at hE
  · rename_i t x r e1
    split at hE
    · rename_i e2
      cases hE
      rw [Bool.and_eq_true] at e2
      rw [e1] at h3
      obtain ⟨a1, s, q0, q2, q3⟩ := zSR_cons h3
      obtain ⟨t1, x1⟩ := a1
      have ht : ok t1 = true := by
        obtain ⟨w1, w2, w3⟩ := zVR_tag q2
        rcases hok with rfl | rfl | rfl
        · rw [w1]; exact e2.1
        · rw [w2]; exact e2.1
        · rw [w3]; exact e2.1
      have hn : n < c2.2.1.length := Nat.le_of_ble_eq_true e2.2
      have hb : Nat.blt n c1.2.1.length = true := by rw [← h2.1]; exact e2.2
      refine ⟨[], (c1.1 + len, zSt c1.2.1 n (t1, x1), s, c1.2.2.2), ?_, trivial, ⟨by rw [h1], h2.sto hn q2, q3, h4⟩⟩
      unfold zSto
      rw [q0]
      simp only [ht, hb, Bool.and_self]
    · cases hE
  · cases hE
theorem p_stoL {n len : Nat} (h : zCR lO lA sc c2 c1) : zSm lO lA sc (zStoL n len c2) (zStoL n len c1) := by
  obtain ⟨h1, h2, h3, h4⟩ := h
  intro gs c2' hE hg
  unfold zStoL at hE
  split at hE
  · rename_i x r e1
    split at hE
    · rename_i e2
      cases hE
      rw [e1] at h3
      obtain ⟨a1, s, q0, q2, q3⟩ := zSR_cons h3
      have := zVR1 q2
      subst this
      have hn : n + 1 < c2.2.1.length := Nat.le_of_ble_eq_true e2
      have hb : Nat.blt (n + 1) c1.2.1.length = true := by rw [← h2.1]; exact e2
      refine ⟨[], (c1.1 + len, zStL c1.2.1 n (1, x), s, c1.2.2.2), ?_, trivial, ⟨by rw [h1], h2.stoL hn q2, q3, h4⟩⟩
      unfold zStoL
      rw [q0]
      simp only [hb]
    · cases hE
  · cases hE
theorem p_b0 {f : Int → Int → Int} (h : zCR lO lA sc c2 c1) : zSm lO lA sc (zB0 f c2) (zB0 f c1) := by
  obtain ⟨h1, h2, h3, h4⟩ := h
  intro gs c2' hE hg
  unfold zB0 at hE
  split at hE
  · rename_i y x r e1
    cases hE
    rw [e1] at h3
    obtain ⟨a1, s, q0, q2, q3⟩ := zSR_cons h3
    obtain ⟨a2, s2, q4, q5, q6⟩ := zSR_cons q3
    have := zVR0 q2; subst this
    have := zVR0 q5; subst this
    subst q4
    refine ⟨[], (c1.1 + 1, c1.2.1, (0, f x y) :: s2, c1.2.2.2), ?_, trivial, ⟨by rw [h1], h2, ⟨zVR_i, q6⟩, h4⟩⟩
    unfold zB0
    rw [q0]
    rfl
  · cases hE
theorem p_b0d {f : Int → Int → Int} (h : zCR lO lA sc c2 c1) : zSm lO lA sc (zB0d f c2) (zB0d f c1) := by
  obtain ⟨h1, h2, h3, h4⟩ := h
  intro gs c2' hE hg
  unfold zB0d at hE
  split at hE
  · rename_i y x r e1
    cases hE
    rw [e1] at h3
    obtain ⟨a1, s, q0, q2, q3⟩ := zSR_cons h3
    obtain ⟨a2, s2, q4, q5, q6⟩ := zSR_cons q3
    have := zVR0 q2; subst this
    have := zVR0 q5; subst this
    subst q4
    refine ⟨[¬ y = 0], (c1.1 + 1, c1.2.1, (0, f x y) :: s2, c1.2.2.2), ?_, hg, ⟨by rw [h1], h2, ⟨zVR_i, q6⟩, h4⟩⟩
    unfold zB0d
    rw [q0]
    rfl
  · cases hE
theorem p_b1 {f : Int → Int → Int} (h : zCR lO lA sc c2 c1) : zSm lO lA sc (zB1 f c2) (zB1 f c1) := by
  obtain ⟨h1, h2, h3, h4⟩ := h
  intro gs c2' hE hg
  unfold zB1 at hE
  split at hE
  · rename_i y x r e1
    cases hE
    rw [e1] at h3
    obtain ⟨a1, s, q0, q2, q3⟩ := zSR_cons h3
    obtain ⟨a2, s2, q4, q5, q6⟩ := zSR_cons q3
    have := zVR1 q2; subst this
    have := zVR1 q5; subst this
    subst q4
    refine ⟨[], (c1.1 + 1, c1.2.1, (1, f x y) :: s2, c1.2.2.2), ?_, trivial, ⟨by rw [h1], h2, ⟨zVR_l, q6⟩, h4⟩⟩
    unfold zB1
    rw [q0]
    rfl
  · cases hE
theorem p_b1d {f : Int → Int → Int} (h : zCR lO lA sc c2 c1) : zSm lO lA sc (zB1d f c2) (zB1d f c1) := by
  obtain ⟨h1, h2, h3, h4⟩ := h
  intro gs c2' hE hg
  unfold zB1d at hE
  split at hE
  · rename_i y x r e1
    cases hE
    rw [e1] at h3
    obtain ⟨a1, s, q0, q2, q3⟩ := zSR_cons h3
    obtain ⟨a2, s2, q4, q5, q6⟩ := zSR_cons q3
    have := zVR1 q2; subst this
    have := zVR1 q5; subst this
    subst q4
    refine ⟨[¬ y = 0], (c1.1 + 1, c1.2.1, (1, f x y) :: s2, c1.2.2.2), ?_, hg, ⟨by rw [h1], h2, ⟨zVR_l, q6⟩, h4⟩⟩
    unfold zB1d
    rw [q0]
    rfl
  · cases hE
theorem p_b10 {f : Int → Int → Int} (h : zCR lO lA sc c2 c1) : zSm lO lA sc (zB10 f c2) (zB10 f c1) := by
  obtain ⟨h1, h2, h3, h4⟩ := h
  intro gs c2' hE hg
  unfold zB10 at hE
  split at hE
  · rename_i y x r e1
    cases hE
    rw [e1] at h3
    obtain ⟨a1, s, q0, q2, q3⟩ := zSR_cons h3
    obtain ⟨a2, s2, q4, q5, q6⟩ := zSR_cons q3
    have := zVR0 q2; subst this
    have := zVR1 q5; subst this
    subst q4
    refine ⟨[], (c1.1 + 1, c1.2.1, (1, f x y) :: s2, c1.2.2.2), ?_, trivial, ⟨by rw [h1], h2, ⟨zVR_l, q6⟩, h4⟩⟩
    unfold zB10
    rw [q0]
    rfl
  · cases hE
theorem p_cp (h : zCR lO lA sc c2 c1) : zSm lO lA sc (zCp c2) (zCp c1) := by
  obtain ⟨h1, h2, h3, h4⟩ := h
  intro gs c2' hE hg
  unfold zCp at hE
  split at hE
  · rename_i y x r e1
    cases hE
    rw [e1] at h3
    obtain ⟨a1, s, q0, q2, q3⟩ := zSR_cons h3
    obtain ⟨a2, s2, q4, q5, q6⟩ := zSR_cons q3
    have := zVR1 q2; subst this
    have := zVR1 q5; subst this
    subst q4
    refine ⟨[], (c1.1 + 1, c1.2.1, (0, qcmp x y) :: s2, c1.2.2.2), ?_, trivial, ⟨by rw [h1], h2, ⟨zVR_i, q6⟩, h4⟩⟩
    unfold zCp
    rw [q0]
    rfl
  · cases hE
theorem p_u {u t : Nat} {f : Int → Int} (hu : u = 0 ∨ u = 1) (ht : t = 0 ∨ t = 1) (h : zCR lO lA sc c2 c1) : zSm lO lA sc (zU u t f c2) (zU u t f c1) := by
  obtain ⟨h1, h2, h3, h4⟩ := h
  intro gs c2' hE hg
  unfold zU at hE
  split at hE
  · rename_i u' x r e1
    split at hE
    · rename_i e2
      cases hE
      have e2 := Nat.eq_of_beq_eq_true e2
      subst e2
      rw [e1] at h3
      obtain ⟨a1, s, q0, q2, q3⟩ := zSR_cons h3
      have ha : a1 = (u', x) := by
        rcases hu with rfl | rfl
        · exact zVR0 q2
        · exact zVR1 q2
      subst ha
      have hv : zVR lO lA sc (t, f x) (t, f x) := by
        rcases ht with rfl | rfl
        · exact zVR_i
        · exact zVR_l
      refine ⟨[], (c1.1 + 1, c1.2.1, (t, f x) :: s, c1.2.2.2), ?_, trivial, ⟨by rw [h1], h2, ⟨hv, q3⟩, h4⟩⟩
      unfold zU
      rw [q0]
      simp only [Nat.beq_refl]
    · cases hE
  · cases hE
theorem p_dup (h : zCR lO lA sc c2 c1) : zSm lO lA sc (zDup c2) (zDup c1) := by
  obtain ⟨h1, h2, h3, h4⟩ := h
  intro gs c2' hE hg
  unfold zDup at hE
  split at hE
  · rename_i t x r e1
    split at hE
    · cases hE
    · rename_i e2
      cases hE
      rw [e1] at h3
      obtain ⟨a1, s, q0, q2, q3⟩ := zSR_cons h3
      obtain ⟨t1, x1⟩ := a1
      have hb : Nat.beq t1 1 = false := by
        have := (zVR_tag q2).2.1
        exact this.trans e2
      refine ⟨[], (c1.1 + 1, c1.2.1, (t1, x1) :: (t1, x1) :: s, c1.2.2.2), ?_, trivial, ⟨by rw [h1], h2, ⟨q2, q2, q3⟩, h4⟩⟩
      unfold zDup
      rw [q0]
      simp only [hb]
  · cases hE
theorem p_pop (h : zCR lO lA sc c2 c1) : zSm lO lA sc (zPop c2) (zPop c1) := by
  obtain ⟨h1, h2, h3, h4⟩ := h
  intro gs c2' hE hg
  unfold zPop at hE
  split at hE
  · rename_i t x r e1
    split at hE
    · cases hE
    · rename_i e2
      cases hE
      rw [e1] at h3
      obtain ⟨a1, s, q0, q2, q3⟩ := zSR_cons h3
      obtain ⟨t1, x1⟩ := a1
      have hb : Nat.beq t1 1 = false := by
        have := (zVR_tag q2).2.1
        exact this.trans e2
      refine ⟨[], (c1.1 + 1, c1.2.1, s, c1.2.2.2), ?_, trivial, ⟨by rw [h1], h2, q3, h4⟩⟩
      unfold zPop
      rw [q0]
      simp only [hb]
  · cases hE
theorem p_dup2 (h : zCR lO lA sc c2 c1) : zSm lO lA sc (zDup2 c2) (zDup2 c1) := by
  obtain ⟨h1, h2, h3, h4⟩ := h
  intro gs c2' hE hg
  unfold zDup2 at hE
  split at hE
  · rename_i t x u y r e1
    split at hE
    · cases hE
    · rename_i e2
      cases hE
      rw [Bool.or_eq_false_iff] at e2
      rw [e1] at h3
      obtain ⟨a1, s, q0, q2, q3⟩ := zSR_cons h3
      obtain ⟨a2, s2, q4, q5, q6⟩ := zSR_cons q3
      obtain ⟨t1, x1⟩ := a1
      obtain ⟨u1, y1⟩ := a2
      subst q4
      have hb : Nat.beq t1 1 = false := ((zVR_tag q2).2.1).trans e2.1
      have hb2 : Nat.beq u1 1 = false := ((zVR_tag q5).2.1).trans e2.2
      refine ⟨[], (c1.1 + 1, c1.2.1, (t1, x1) :: (u1, y1) :: (t1, x1) :: (u1, y1) :: s2, c1.2.2.2), ?_, trivial, ⟨by rw [h1], h2, ⟨q2, q5, q2, q5, q6⟩, h4⟩⟩
      unfold zDup2
      rw [q0]
      simp only [hb, hb2, Bool.or_self]
  · cases hE
theorem p_br {g : Prop} {off d : Int} {r s : List zAv} (h : zCR lO lA sc c2 c1) (hr : zSR lO lA sc r s) : zSm lO lA sc (zBr g off d r c2) (zBr g off d s c1) := by
  obtain ⟨h1, h2, h3, h4⟩ := h
  intro gs c2' hE hg
  unfold zBr at hE
  split at hE
  · rename_i t e1
    split at hE
    · rename_i e2
      cases hE
      refine ⟨[g], (t, c1.2.1, s, c1.2.2.2), ?_, hg, ⟨rfl, h2, hr, h4⟩⟩
      unfold zBr
      rw [h1, e1]
      simp only [e2]
    · rename_i e2
      cases hE
      refine ⟨[¬ g], (c1.1 + 3, c1.2.1, s, c1.2.2.2), ?_, hg, ⟨by rw [h1], h2, hr, h4⟩⟩
      unfold zBr
      rw [h1, e1]
      simp only [e2]
  · cases hE
theorem p_if {k : ClassFile.Cond} {off d : Int} (h : zCR lO lA sc c2 c1) : zSm lO lA sc (zIf k off d c2) (zIf k off d c1) := by
  intro gs c2' hE hg
  unfold zIf at hE
  split at hE
  · rename_i x r e1
    obtain ⟨h1, h2, h3, h4⟩ := id h
    rw [e1] at h3
    obtain ⟨a1, s, q0, q2, q3⟩ := zSR_cons h3
    have := zVR0 q2; subst this
    obtain ⟨gs1, c1', k1, k2⟩ := p_br h q3 gs c2' hE hg
    refine ⟨gs1, c1', ?_, k2⟩
    unfold zIf
    rw [q0]
    exact k1
  · cases hE
theorem p_ic {k : ClassFile.Cond} {off d : Int} (h : zCR lO lA sc c2 c1) : zSm lO lA sc (zIc k off d c2) (zIc k off d c1) := by
  intro gs c2' hE hg
  unfold zIc at hE
  split at hE
  · rename_i y x r e1
    obtain ⟨h1, h2, h3, h4⟩ := id h
    rw [e1] at h3
    obtain ⟨a1, s, q0, q2, q3⟩ := zSR_cons h3
    obtain ⟨a2, s2, q4, q5, q6⟩ := zSR_cons q3
    have := zVR0 q2; subst this
    have := zVR0 q5; subst this
    subst q4
    obtain ⟨gs1, c1', k1, k2⟩ := p_br h q6 gs c2' hE hg
    refine ⟨gs1, c1', ?_, k2⟩
    unfold zIc
    rw [q0]
    exact k1
  · cases hE
theorem p_go {off : Int} (h : zCR lO lA sc c2 c1) : zSm lO lA sc (zGo off c2) (zGo off c1) := by
  obtain ⟨h1, h2, h3, h4⟩ := h
  intro gs c2' hE hg
  unfold zGo at hE
  split at hE
  · rename_i t e1
    cases hE
    refine ⟨[], (t, c1.2.1, c1.2.2.1, c1.2.2.2), ?_, trivial, ⟨rfl, h2, h3, h4⟩⟩
    unfold zGo
    rw [h1, e1]
  · cases hE
theorem p_ts {dflt lo hi d : Int} {offs : Array Int} (h : zCR lO lA sc c2 c1) : zSm lO lA sc (zTs dflt lo hi offs d c2) (zTs dflt lo hi offs d c1) := by
  obtain ⟨h1, h2, h3, h4⟩ := h
  intro gs c2' hE hg
  unfold zTs at hE
  split at hE
  · rename_i x r e1
    rw [e1] at h3
    obtain ⟨a1, s, q0, q2, q3⟩ := zSR_cons h3
    have := zVR0 q2; subst this
    split at hE
    · rename_i e2
      split at hE
      · rename_i off e3
        split at hE
        · rename_i t e4
          cases hE
          refine ⟨[x = d], (t, c1.2.1, s, c1.2.2.2), ?_, hg, ⟨rfl, h2, q3, h4⟩⟩
          unfold zTs
          rw [q0]
          simp only [e2, e3, h1, e4]
        · cases hE
      · cases hE
    · rename_i e2
      split at hE
      · rename_i t e4
        cases hE
        refine ⟨[x < lo ∨ hi < x], (t, c1.2.1, s, c1.2.2.2), ?_, hg, ⟨rfl, h2, q3, h4⟩⟩
        unfold zTs
        rw [q0]
        simp only [e2, h1, e4]
      · cases hE
  · cases hE
theorem p_ls {dflt d : Int} {ps : Array (Int × Int)} (h : zCR lO lA sc c2 c1) : zSm lO lA sc (zLs dflt ps d c2) (zLs dflt ps d c1) := by
  obtain ⟨h1, h2, h3, h4⟩ := h
  intro gs c2' hE hg
  unfold zLs at hE
  split at hE
  · rename_i x r e1
    rw [e1] at h3
    obtain ⟨a1, s, q0, q2, q3⟩ := zSR_cons h3
    have := zVR0 q2; subst this
    split at hE
    · rename_i e2
      split at hE
      · rename_i off e3
        split at hE
        · rename_i t e4
          cases hE
          refine ⟨[x = d], (t, c1.2.1, s, c1.2.2.2), ?_, hg, ⟨rfl, h2, q3, h4⟩⟩
          unfold zLs
          rw [q0]
          simp only [e2, e3, h1, e4]
        · cases hE
      · rename_i e3
        split at hE
        · rename_i t e4
          cases hE
          refine ⟨_, (t, c1.2.1, s, c1.2.2.2), ?_, hg, ⟨rfl, h2, q3, h4⟩⟩
          unfold zLs
          rw [q0]
          simp only [e2, e3, h1, e4]
        · cases hE
    · cases hE
  · cases hE
theorem p_ii {n : Nat} {k : Int} (h : zCR lO lA sc c2 c1) : zSm lO lA sc (zIi n k c2) (zIi n k c1) := by
  obtain ⟨h1, h2, h3, h4⟩ := h
  intro gs c2' hE hg
  unfold zIi at hE
  split at hE
  · rename_i x e1
    cases hE
    obtain ⟨a1, q1, q2⟩ := h2.2 _ _ e1
    have := zVR0 q2; subst this
    refine ⟨[], (c1.1 + 3, zSt c1.2.1 n (0, wadd x k), c1.2.2.1, c1.2.2.2), ?_, trivial, ⟨by rw [h1], h2.sto (zGl_lt e1) zVR_i, h3, h4⟩⟩
    unfold zIi
    rw [q1]
    rfl
  · cases hE
end ZP
