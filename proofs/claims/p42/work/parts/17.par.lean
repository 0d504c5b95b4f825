section
/-! What runs on the second heap runs on the first. -/
section ZP
variable {lO lA : Nat → Int → Nat} {sc : Prop}
def zLR (lO lA : Nat → Int → Nat) (sc : Prop) (L2 L1 : zLo) : Prop := L2.length = L1.length ∧ ∀ (i : Nat) (a2 : zAv), zGl L2 i = some a2 → ∃ a1, zGl L1 i = some a1 ∧ zVR lO lA sc a2 a1
def zSR (lO lA : Nat → Int → Nat) (sc : Prop) : List zAv → List zAv → Prop
  | [], [] => True
  | a :: r, b :: s => zVR lO lA sc a b ∧ zSR lO lA sc r s
  | _, _ => False
def zCR (lO lA : Nat → Int → Nat) (sc : Prop) (c2 : zCf zH2) (c1 : zCf zH1) : Prop := c1.1 = c2.1 ∧ zLR lO lA sc c2.2.1 c1.2.1 ∧ zSR lO lA sc c2.2.2.1 c1.2.2.1 ∧ zR2 lO lA c2.2.2.2 c1.2.2.2
theorem zSR_cons {a : zAv} {r st1 : List zAv} (h : zSR lO lA sc (a :: r) st1) : ∃ b s, st1 = b :: s ∧ zVR lO lA sc a b ∧ zSR lO lA sc r s := by
  cases st1 with
  | nil => exact h.elim
  | cons b s => exact ⟨b, s, rfl, h.1, h.2⟩
theorem zSR_nil {st1 : List zAv} (h : zSR lO lA sc [] st1) : st1 = [] := by
  cases st1 with
  | nil => rfl
  | cons b s => exact h.elim
theorem zVR0 {x : Int} {a1 : zAv} (h : zVR lO lA sc (0, x) a1) : a1 = (0, x) := by
  rcases h with ⟨-, h⟩ | ⟨h, -⟩ | ⟨h, -⟩ | ⟨h, -⟩ | ⟨ci, -, h, -⟩ | ⟨ci, k, y, -, -, -, h, -⟩
  · exact h
  · cases h
  · cases h
  · cases h
  · simp only at h; omega
  · unfold zTg2 at h; simp only at h; omega
theorem zVR1 {x : Int} {a1 : zAv} (h : zVR lO lA sc (1, x) a1) : a1 = (1, x) := by
  rcases h with ⟨h, -⟩ | ⟨-, h⟩ | ⟨h, -⟩ | ⟨h, -⟩ | ⟨ci, -, h, -⟩ | ⟨ci, k, y, -, -, -, h, -⟩
  · cases h
  · exact h
  · cases h
  · cases h
  · simp only at h; omega
  · unfold zTg2 at h; simp only at h; omega
theorem zVR_i {x : Int} : zVR lO lA sc (0, x) (0, x) := Or.inl ⟨rfl, rfl⟩
theorem zVR_l {x : Int} : zVR lO lA sc (1, x) (1, x) := Or.inr (Or.inl ⟨rfl, rfl⟩)
theorem zVR_tag {a2 a1 : zAv} (h : zVR lO lA sc a2 a1) : zEq0 a1.1 = zEq0 a2.1 ∧ zEq1 a1.1 = zEq1 a2.1 ∧ zGe2 a1.1 = zGe2 a2.1 := by
  have big : ∀ t, 2 ≤ t → zEq0 t = false ∧ zEq1 t = false ∧ zGe2 t = true := by
    intro t ht
    refine ⟨?_, ?_, Nat.ble_eq_true_of_le ht⟩
    · cases e : zEq0 t with
      | false => rfl
      | true => have := Nat.eq_of_beq_eq_true e; omega
    · cases e : zEq1 t with
      | false => rfl
      | true => have := Nat.eq_of_beq_eq_true e; omega
  have go : 2 ≤ a2.1 → 2 ≤ a1.1 → zEq0 a1.1 = zEq0 a2.1 ∧ zEq1 a1.1 = zEq1 a2.1 ∧ zGe2 a1.1 = zGe2 a2.1 := by
    intro h2 h1
    obtain ⟨p1, p2, p3⟩ := big _ h2
    obtain ⟨q1, q2, q3⟩ := big _ h1
    rw [p1, p2, p3, q1, q2, q3]
    exact ⟨rfl, rfl, rfl⟩
  rcases h with ⟨-, h⟩ | ⟨-, h⟩ | ⟨-, h, -⟩ | ⟨h1, h⟩ | ⟨ci, -, h1, -, -, h⟩ | ⟨ci, k, y, -, -, -, h1, -, -, h⟩
  · rw [h]; exact ⟨rfl, rfl, rfl⟩
  · rw [h]; exact ⟨rfl, rfl, rfl⟩
  · rw [h]; exact ⟨rfl, rfl, rfl⟩
  · exact go (by omega) (by rw [h]; exact Nat.le_refl 2)
  · exact go (by omega) (by rw [h]; exact Nat.le_refl 2)
  · exact go (by unfold zTg2 at h1; omega) (by rw [h]; exact Nat.le_refl 2)
theorem zGl_kl' {L : zLo} {i j : Nat} {a : zAv} (h : zGl L j = some a) (h2 : ¬ (j + 1 = i ∧ a.1 = 1)) : zGl (zKl L i) j = some a := by
  cases i with
  | zero => exact h
  | succ i =>
    unfold zKl
    simp only
    split
    · rename_i x hx
      by_cases e : i = j
      · subst e
        rw [h] at hx
        cases hx
        exact absurd ⟨rfl, rfl⟩ h2
      · unfold zGl at *
        rw [List.getElem?_set_ne e]
        exact h
    · exact h
theorem zGl_set' {L : zLo} {i j : Nat} {x : Option zAv} (h : i ≠ j) : zGl (L.set i x) j = zGl L j := by
  unfold zGl
  rw [List.getElem?_set_ne h]
theorem zGl_self {L : zLo} {i : Nat} {a : zAv} (h : i < L.length) : zGl (L.set i (some a)) i = some a := by
  unfold zGl
  rw [List.getElem?_set_self h]
theorem zLR.sto {L2 L1 : zLo} {n : Nat} {a2 a1 : zAv} (h : zLR lO lA sc L2 L1) (hn : n < L2.length) (ha : zVR lO lA sc a2 a1) : zLR lO lA sc (zSt L2 n a2) (zSt L1 n a1) := by
  refine ⟨by rw [zSt_len, zSt_len]; exact h.1, fun i c hc => ?_⟩
  rcases zGl_set hc with ⟨h1, h2⟩ | ⟨h1, h2⟩
  · cases h2
    subst h1
    exact ⟨a1, zGl_self (by rw [zKl_len, ← h.1]; exact hn), ha⟩
  · obtain ⟨h3, h4⟩ := zGl_kl h2
    obtain ⟨c1, h5, h6⟩ := h.2 i c h3
    refine ⟨c1, ?_, h6⟩
    unfold zSt
    rw [zGl_set' h1]
    refine zGl_kl' h5 (fun q => h4 ⟨q.1, ?_⟩)
    have := (zVR_tag h6).2.1
    unfold zEq1 at this
    rw [q.2] at this
    exact Nat.eq_of_beq_eq_true this.symm
theorem zLR.stoL {L2 L1 : zLo} {n : Nat} {a2 a1 : zAv} (h : zLR lO lA sc L2 L1) (hn : n + 1 < L2.length) (ha : zVR lO lA sc a2 a1) : zLR lO lA sc (zStL L2 n a2) (zStL L1 n a1) := by
  refine ⟨by rw [zStL_len, zStL_len]; exact h.1, fun i c hc => ?_⟩
  rcases zGl_set hc with ⟨h1, h2⟩ | ⟨h0, h2⟩
  · cases h2
  · unfold zStL
    rw [zGl_set' h0]
    rcases zGl_set h2 with ⟨h1, h2⟩ | ⟨h1, h2⟩
    · cases h2
      subst h1
      exact ⟨a1, zGl_self (by rw [zKl_len, ← h.1]; omega), ha⟩
    · obtain ⟨h3, h4⟩ := zGl_kl h2
      obtain ⟨c1, h5, h6⟩ := h.2 i c h3
      refine ⟨c1, ?_, h6⟩
      rw [zGl_set' h1]
      refine zGl_kl' h5 (fun q => h4 ⟨q.1, ?_⟩)
      have := (zVR_tag h6).2.1
      unfold zEq1 at this
      rw [q.2] at this
      exact Nat.eq_of_beq_eq_true this.symm
/-- one step of each -/
def zSm (lO lA : Nat → Int → Nat) (sc : Prop) (r2 : zRs zH2) (r1 : zRs zH1) : Prop := ∀ gs c2', r2 = some (gs, c2') → zAll gs → ∃ gs1 c1', r1 = some (gs1, c1') ∧ zAll gs1 ∧ zCR lO lA sc c2' c1'
variable {c2 : zCf zH2} {c1 : zCf zH1}
theorem p_ld {ok : Nat → Bool} {n len : Nat} (hok : ok = zEq0 ∨ ok = zEq1 ∨ ok = zGe2) (h : zCR lO lA sc c2 c1) : zSm lO lA sc (zLd ok n len c2) (zLd ok n len c1) := by
  obtain ⟨h1, h2, h3, h4⟩ := h
  intro gs c2' hE hg
  unfold zLd at hE
  split at hE
  · rename_i t x e1
    split at hE
    · rename_i e2
      cases hE
      obtain ⟨a1, q1, q2⟩ := h2.2 _ _ e1
      obtain ⟨t1, x1⟩ := a1
      have ht : ok t1 = true := by
        obtain ⟨w1, w2, w3⟩ := zVR_tag q2
        rcases hok with rfl | rfl | rfl
        · rw [w1]; exact e2
        · rw [w2]; exact e2
        · rw [w3]; exact e2
      refine ⟨[], (c1.1 + len, c1.2.1, (t1, x1) :: c1.2.2.1, c1.2.2.2), ?_, trivial, ⟨by rw [h1], h2, ⟨q2, h3⟩, h4⟩⟩
      unfold zLd
      rw [q1]
      simp only [ht]
    · cases hE
  · cases hE
theorem p_pu {v : zAv} {len : Nat} (hv : zVR lO lA sc v v) (h : zCR lO lA sc c2 c1) : zSm lO lA sc (zPu v len c2) (zPu v len c1) := by
  obtain ⟨h1, h2, h3, h4⟩ := h
  intro gs c2' hE hg
  cases hE
  exact ⟨[], _, rfl, trivial, ⟨by show c1.1 + len = c2.1 + len; rw [h1], h2, ⟨hv, h3⟩, h4⟩⟩
theorem p_ck {b : Bool} {r2 : zRs zH2} {r1 : zRs zH1} (h : zSm lO lA sc r2 r1) : zSm lO lA sc (zCk b r2) (zCk b r1) := by
  intro gs c2' hE hg
  cases b with
  | true => exact h gs c2' hE hg
  | false => cases hE
theorem p_sto {ok : Nat → Bool} {n len : Nat} (hok : ok = zEq0 ∨ ok = zEq1 ∨ ok = zGe2) (h : zCR lO lA sc c2 c1) : zSm lO lA sc (zSto ok n len c2) (zSto ok n len c1) := by
  obtain ⟨h1, h2, h3, h4⟩ := h
  intro gs c2' hE hg
  unfold zSto at hE
  split at hE
  · rename_i t x r e1
    split at hE
    · rename_i e2
      cases hE
      rw [Bool.and_eq_true] at e2
      rw [e1] at h3
      obtain ⟨a1, s, q0, q2, q3⟩ := zSR_cons h3
      obtain ⟨t1, x1⟩ := a1
      have ht : ok t1 = true := by
        obtain ⟨w1, w2, w3⟩ := zVR_tag q2
        rcases hok with rfl | rfl | rfl
        · rw [w1]; exact e2.1
        · rw [w2]; exact e2.1
        · rw [w3]; exact e2.1
      have hn : n < c2.2.1.length := Nat.le_of_ble_eq_true e2.2
      have hb : Nat.blt n c1.2.1.length = true := by rw [← h2.1]; exact e2.2
      refine ⟨[], (c1.1 + len, zSt c1.2.1 n (t1, x1), s, c1.2.2.2), ?_, trivial, ⟨by rw [h1], h2.sto hn q2, q3, h4⟩⟩
      unfold zSto
      rw [q0]
      simp only [ht, hb, Bool.and_self]
    · cases hE
  · cases hE
theorem p_stoL {n len : Nat} (h : zCR lO lA sc c2 c1) : zSm lO lA sc (zStoL n len c2) (zStoL n len c1) := by
  obtain ⟨h1, h2, h3, h4⟩ := h
  intro gs c2' hE hg
  unfold zStoL at hE
  split at hE
  · rename_i x r e1
    split at hE
    · rename_i e2
      cases hE
      rw [e1] at h3
      obtain ⟨a1, s, q0, q2, q3⟩ := zSR_cons h3
      have := zVR1 q2
      subst this
      have hn : n + 1 < c2.2.1.length := Nat.le_of_ble_eq_true e2
      have hb : Nat.blt (n + 1) c1.2.1.length = true := by rw [← h2.1]; exact e2
      refine ⟨[], (c1.1 + len, zStL c1.2.1 n (1, x), s, c1.2.2.2), ?_, trivial, ⟨by rw [h1], h2.stoL hn q2, q3, h4⟩⟩
      unfold zStoL
      rw [q0]
      simp only [hb]
    · cases hE
  · cases hE
theorem p_b0 {f : Int → Int → Int} (h : zCR lO lA sc c2 c1) : zSm lO lA sc (zB0 f c2) (zB0 f c1) := by
  obtain ⟨h1, h2, h3, h4⟩ := h
  intro gs c2' hE hg
  unfold zB0 at hE
  split at hE
  · rename_i y x r e1
    cases hE
    rw [e1] at h3
    obtain ⟨a1, s, q0, q2, q3⟩ := zSR_cons h3
    obtain ⟨a2, s2, q4, q5, q6⟩ := zSR_cons q3
    have := zVR0 q2; subst this
    have := zVR0 q5; subst this
    subst q4
    refine ⟨[], (c1.1 + 1, c1.2.1, (0, f x y) :: s2, c1.2.2.2), ?_, trivial, ⟨by rw [h1], h2, ⟨zVR_i, q6⟩, h4⟩⟩
    unfold zB0
    rw [q0]
    rfl
  · cases hE
theorem p_b0d {f : Int → Int → Int} (h : zCR lO lA sc c2 c1) : zSm lO lA sc (zB0d f c2) (zB0d f c1) := by
  obtain ⟨h1, h2, h3, h4⟩ := h
  intro gs c2' hE hg
  unfold zB0d at hE
  split at hE
  · rename_i y x r e1
    cases hE
    rw [e1] at h3
    obtain ⟨a1, s, q0, q2, q3⟩ := zSR_cons h3
    obtain ⟨a2, s2, q4, q5, q6⟩ := zSR_cons q3
    have := zVR0 q2; subst this
    have := zVR0 q5; subst this
    subst q4
    refine ⟨[¬ y = 0], (c1.1 + 1, c1.2.1, (0, f x y) :: s2, c1.2.2.2), ?_, hg, ⟨by rw [h1], h2, ⟨zVR_i, q6⟩, h4⟩⟩
    unfold zB0d
    rw [q0]
    rfl
  · cases hE
theorem p_b1 {f : Int → Int → Int} (h : zCR lO lA sc c2 c1) : zSm lO lA sc (zB1 f c2) (zB1 f c1) := by
  obtain ⟨h1, h2, h3, h4⟩ := h
  intro gs c2' hE hg
  unfold zB1 at hE
  split at hE
  · rename_i y x r e1
    cases hE
    rw [e1] at h3
    obtain ⟨a1, s, q0, q2, q3⟩ := zSR_cons h3
    obtain ⟨a2, s2, q4, q5, q6⟩ := zSR_cons q3
    have := zVR1 q2; subst this
    have := zVR1 q5; subst this
    subst q4
    refine ⟨[], (c1.1 + 1, c1.2.1, (1, f x y) :: s2, c1.2.2.2), ?_, trivial, ⟨by rw [h1], h2, ⟨zVR_l, q6⟩, h4⟩⟩
    unfold zB1
    rw [q0]
    rfl
  · cases hE
theorem p_b1d {f : Int → Int → Int} (h : zCR lO lA sc c2 c1) : zSm lO lA sc (zB1d f c2) (zB1d f c1) := by
  obtain ⟨h1, h2, h3, h4⟩ := h
  intro gs c2' hE hg
  unfold zB1d at hE
  split at hE
  · rename_i y x r e1
    cases hE
    rw [e1] at h3
    obtain ⟨a1, s, q0, q2, q3⟩ := zSR_cons h3
    obtain ⟨a2, s2, q4, q5, q6⟩ := zSR_cons q3
    have := zVR1 q2; subst this
    have := zVR1 q5; subst this
    subst q4
    refine ⟨[¬ y = 0], (c1.1 + 1, c1.2.1, (1, f x y) :: s2, c1.2.2.2), ?_, hg, ⟨by rw [h1], h2, ⟨zVR_l, q6⟩, h4⟩⟩
    unfold zB1d
    rw [q0]
    rfl
  · cases hE
theorem p_b10 {f : Int → Int → Int} (h : zCR lO lA sc c2 c1) : zSm lO lA sc (zB10 f c2) (zB10 f c1) := by
  obtain ⟨h1, h2, h3, h4⟩ := h
  intro gs c2' hE hg
  unfold zB10 at hE
  split at hE
  · rename_i y x r e1
    cases hE
    rw [e1] at h3
    obtain ⟨a1, s, q0, q2, q3⟩ := zSR_cons h3
    obtain ⟨a2, s2, q4, q5, q6⟩ := zSR_cons q3
    have := zVR0 q2; subst this
    have := zVR1 q5; subst this
    subst q4
    refine ⟨[], (c1.1 + 1, c1.2.1, (1, f x y) :: s2, c1.2.2.2), ?_, trivial, ⟨by rw [h1], h2, ⟨zVR_l, q6⟩, h4⟩⟩
    unfold zB10
    rw [q0]
    rfl
  · cases hE
theorem p_cp (h : zCR lO lA sc c2 c1) : zSm lO lA sc (zCp c2) (zCp c1) := by
  obtain ⟨h1, h2, h3, h4⟩ := h
  intro gs c2' hE hg
  unfold zCp at hE
  split at hE
  · rename_i y x r e1
    cases hE
    rw [e1] at h3
    obtain ⟨a1, s, q0, q2, q3⟩ := zSR_cons h3
    obtain ⟨a2, s2, q4, q5, q6⟩ := zSR_cons q3
    have := zVR1 q2; subst this
    have := zVR1 q5; subst this
    subst q4
    refine ⟨[], (c1.1 + 1, c1.2.1, (0, qcmp x y) :: s2, c1.2.2.2), ?_, trivial, ⟨by rw [h1], h2, ⟨zVR_i, q6⟩, h4⟩⟩
    unfold zCp
    rw [q0]
    rfl
  · cases hE
theorem p_u {u t : Nat} {f : Int → Int} (hu : u = 0 ∨ u = 1) (ht : t = 0 ∨ t = 1) (h : zCR lO lA sc c2 c1) : zSm lO lA sc (zU u t f c2) (zU u t f c1) := by
  obtain ⟨h1, h2, h3, h4⟩ := h
  intro gs c2' hE hg
  unfold zU at hE
  split at hE
  · rename_i u' x r e1
    split at hE
    · rename_i e2
      cases hE
      have e2 := Nat.eq_of_beq_eq_true e2
      subst e2
      rw [e1] at h3
      obtain ⟨a1, s, q0, q2, q3⟩ := zSR_cons h3
      have ha : a1 = (u', x) := by
        rcases hu with rfl | rfl
        · exact zVR0 q2
        · exact zVR1 q2
      subst ha
      have hv : zVR lO lA sc (t, f x) (t, f x) := by
        rcases ht with rfl | rfl
        · exact zVR_i
        · exact zVR_l
      refine ⟨[], (c1.1 + 1, c1.2.1, (t, f x) :: s, c1.2.2.2), ?_, trivial, ⟨by rw [h1], h2, ⟨hv, q3⟩, h4⟩⟩
      unfold zU
      rw [q0]
      simp only [Nat.beq_refl]
    · cases hE
  · cases hE
theorem p_dup (h : zCR lO lA sc c2 c1) : zSm lO lA sc (zDup c2) (zDup c1) := by
  obtain ⟨h1, h2, h3, h4⟩ := h
  intro gs c2' hE hg
  unfold zDup at hE
  split at hE
  · rename_i t x r e1
    split at hE
    · cases hE
    · rename_i e2
      cases hE
      rw [e1] at h3
      obtain ⟨a1, s, q0, q2, q3⟩ := zSR_cons h3
      obtain ⟨t1, x1⟩ := a1
      have hb : Nat.beq t1 1 = false := by
        have := (zVR_tag q2).2.1
        exact this.trans e2
      refine ⟨[], (c1.1 + 1, c1.2.1, (t1, x1) :: (t1, x1) :: s, c1.2.2.2), ?_, trivial, ⟨by rw [h1], h2, ⟨q2, q2, q3⟩, h4⟩⟩
      unfold zDup
      rw [q0]
      simp only [hb]
  · cases hE
theorem p_pop (h : zCR lO lA sc c2 c1) : zSm lO lA sc (zPop c2) (zPop c1) := by
  obtain ⟨h1, h2, h3, h4⟩ := h
  intro gs c2' hE hg
  unfold zPop at hE
  split at hE
  · rename_i t x r e1
    split at hE
    · cases hE
    · rename_i e2
      cases hE
      rw [e1] at h3
      obtain ⟨a1, s, q0, q2, q3⟩ := zSR_cons h3
      obtain ⟨t1, x1⟩ := a1
      have hb : Nat.beq t1 1 = false := by
        have := (zVR_tag q2).2.1
        exact this.trans e2
      refine ⟨[], (c1.1 + 1, c1.2.1, s, c1.2.2.2), ?_, trivial, ⟨by rw [h1], h2, q3, h4⟩⟩
      unfold zPop
      rw [q0]
      simp only [hb]
  · cases hE
theorem p_dup2 (h : zCR lO lA sc c2 c1) : zSm lO lA sc (zDup2 c2) (zDup2 c1) := by
  obtain ⟨h1, h2, h3, h4⟩ := h
  intro gs c2' hE hg
  unfold zDup2 at hE
  split at hE
  · rename_i t x u y r e1
    split at hE
    · cases hE
    · rename_i e2
      cases hE
      rw [Bool.or_eq_false_iff] at e2
      rw [e1] at h3
      obtain ⟨a1, s, q0, q2, q3⟩ := zSR_cons h3
      obtain ⟨a2, s2, q4, q5, q6⟩ := zSR_cons q3
      obtain ⟨t1, x1⟩ := a1
      obtain ⟨u1, y1⟩ := a2
      subst q4
      have hb : Nat.beq t1 1 = false := ((zVR_tag q2).2.1).trans e2.1
      have hb2 : Nat.beq u1 1 = false := ((zVR_tag q5).2.1).trans e2.2
      refine ⟨[], (c1.1 + 1, c1.2.1, (t1, x1) :: (u1, y1) :: (t1, x1) :: (u1, y1) :: s2, c1.2.2.2), ?_, trivial, ⟨by rw [h1], h2, ⟨q2, q5, q2, q5, q6⟩, h4⟩⟩
      unfold zDup2
      rw [q0]
      simp only [hb, hb2, Bool.or_self]
  · cases hE
theorem p_br {g : Prop} {off d : Int} {r s : List zAv} (h : zCR lO lA sc c2 c1) (hr : zSR lO lA sc r s) : zSm lO lA sc (zBr g off d r c2) (zBr g off d s c1) := by
  obtain ⟨h1, h2, h3, h4⟩ := h
  intro gs c2' hE hg
  unfold zBr at hE
  split at hE
  · rename_i t e1
    split at hE
    · rename_i e2
      cases hE
      refine ⟨[g], (t, c1.2.1, s, c1.2.2.2), ?_, hg, ⟨rfl, h2, hr, h4⟩⟩
      unfold zBr
      rw [h1, e1]
      simp only [e2]
    · rename_i e2
      cases hE
      refine ⟨[¬ g], (c1.1 + 3, c1.2.1, s, c1.2.2.2), ?_, hg, ⟨by rw [h1], h2, hr, h4⟩⟩
      unfold zBr
      rw [h1, e1]
      simp only [e2]
  · cases hE
theorem p_if {k : ClassFile.Cond} {off d : Int} (h : zCR lO lA sc c2 c1) : zSm lO lA sc (zIf k off d c2) (zIf k off d c1) := by
  intro gs c2' hE hg
  unfold zIf at hE
  split at hE
  · rename_i x r e1
    obtain ⟨h1, h2, h3, h4⟩ := id h
    rw [e1] at h3
    obtain ⟨a1, s, q0, q2, q3⟩ := zSR_cons h3
    have := zVR0 q2; subst this
    obtain ⟨gs1, c1', k1, k2⟩ := p_br h q3 gs c2' hE hg
    refine ⟨gs1, c1', ?_, k2⟩
    unfold zIf
    rw [q0]
    exact k1
  · cases hE
theorem p_ic {k : ClassFile.Cond} {off d : Int} (h : zCR lO lA sc c2 c1) : zSm lO lA sc (zIc k off d c2) (zIc k off d c1) := by
  intro gs c2' hE hg
  unfold zIc at hE
  split at hE
  · rename_i y x r e1
    obtain ⟨h1, h2, h3, h4⟩ := id h
    rw [e1] at h3
    obtain ⟨a1, s, q0, q2, q3⟩ := zSR_cons h3
    obtain ⟨a2, s2, q4, q5, q6⟩ := zSR_cons q3
    have := zVR0 q2; subst this
    have := zVR0 q5; subst this
    subst q4
    obtain ⟨gs1, c1', k1, k2⟩ := p_br h q6 gs c2' hE hg
    refine ⟨gs1, c1', ?_, k2⟩
    unfold zIc
    rw [q0]
    exact k1
  · cases hE
theorem p_go {off : Int} (h : zCR lO lA sc c2 c1) : zSm lO lA sc (zGo off c2) (zGo off c1) := by
  obtain ⟨h1, h2, h3, h4⟩ := h
  intro gs c2' hE hg
  unfold zGo at hE
  split at hE
  · rename_i t e1
    cases hE
    refine ⟨[], (t, c1.2.1, c1.2.2.1, c1.2.2.2), ?_, trivial, ⟨rfl, h2, h3, h4⟩⟩
    unfold zGo
    rw [h1, e1]
  · cases hE
theorem p_ts {dflt lo hi d : Int} {offs : Array Int} (h : zCR lO lA sc c2 c1) : zSm lO lA sc (zTs dflt lo hi offs d c2) (zTs dflt lo hi offs d c1) := by
  obtain ⟨h1, h2, h3, h4⟩ := h
  intro gs c2' hE hg
  unfold zTs at hE
  split at hE
  · rename_i x r e1
    rw [e1] at h3
    obtain ⟨a1, s, q0, q2, q3⟩ := zSR_cons h3
    have := zVR0 q2; subst this
    split at hE
    · rename_i e2
      split at hE
      · rename_i off e3
        split at hE
        · rename_i t e4
          cases hE
          refine ⟨[x = d], (t, c1.2.1, s, c1.2.2.2), ?_, hg, ⟨rfl, h2, q3, h4⟩⟩
          unfold zTs
          rw [q0]
          simp only [e2, e3, h1, e4]
        · cases hE
      · cases hE
    · rename_i e2
      split at hE
      · rename_i t e4
        cases hE
        refine ⟨[x < lo ∨ hi < x], (t, c1.2.1, s, c1.2.2.2), ?_, hg, ⟨rfl, h2, q3, h4⟩⟩
        unfold zTs
        rw [q0]
        simp only [e2, h1, e4]
      · cases hE
  · cases hE
theorem p_ls {dflt d : Int} {ps : Array (Int × Int)} (h : zCR lO lA sc c2 c1) : zSm lO lA sc (zLs dflt ps d c2) (zLs dflt ps d c1) := by
  obtain ⟨h1, h2, h3, h4⟩ := h
  intro gs c2' hE hg
  unfold zLs at hE
  split at hE
  · rename_i x r e1
    rw [e1] at h3
    obtain ⟨a1, s, q0, q2, q3⟩ := zSR_cons h3
    have := zVR0 q2; subst this
    split at hE
    · rename_i e2
      split at hE
      · rename_i off e3
        split at hE
        · rename_i t e4
          cases hE
          refine ⟨[x = d], (t, c1.2.1, s, c1.2.2.2), ?_, hg, ⟨rfl, h2, q3, h4⟩⟩
          unfold zLs
          rw [q0]
          simp only [e2, e3, h1, e4]
        · cases hE
      · rename_i e3
        split at hE
        · rename_i t e4
          cases hE
          refine ⟨_, (t, c1.2.1, s, c1.2.2.2), ?_, hg, ⟨rfl, h2, q3, h4⟩⟩
          unfold zLs
          rw [q0]
          simp only [e2, e3, h1, e4]
        · cases hE
    · cases hE
  · cases hE
theorem p_ii {n : Nat} {k : Int} (h : zCR lO lA sc c2 c1) : zSm lO lA sc (zIi n k c2) (zIi n k c1) := by
  obtain ⟨h1, h2, h3, h4⟩ := h
  intro gs c2' hE hg
  unfold zIi at hE
  split at hE
  · rename_i x e1
    cases hE
    obtain ⟨a1, q1, q2⟩ := h2.2 _ _ e1
    have := zVR0 q2; subst this
    refine ⟨[], (c1.1 + 3, zSt c1.2.1 n (0, wadd x k), c1.2.2.1, c1.2.2.2), ?_, trivial, ⟨by rw [h1], h2.sto (zGl_lt e1) zVR_i, h3, h4⟩⟩
    unfold zIi
    rw [q1]
    rfl
  · cases hE
end ZP
end
section
section ZQ
variable {lO lA : Nat → Int → Nat} {sc : Prop}
theorem zW_sp {ci k : Nat} (h : ci < 13) (hk : k < zNf ci) :
    (zW ci k % 4 = 0 ∧ zTag ci k = 0 ∧ zW ci k = 0) ∨ (zW ci k % 4 = 1 ∧ zTag ci k = 1 ∧ zW ci k = 1) ∨
    (zW ci k % 4 = 2 ∧ zTag ci k = 2 ∧ 20 ≤ zW ci k / 4 / 65536 ∧ zW ci k / 4 / 65536 ≤ 24 ∧ (zW ci k / 4 / 65536 = 23 ↔ ci = 8 ∧ k = 2) ∧ (zW ci k / 4 / 65536 = 24 ↔ ci = 11 ∧ k = 9)) ∨
    (zW ci k % 4 = 3 ∧ zTag ci k = 2 ∧ zW ci k / 4 % 16 < 13 ∧ ((zW ci k / 64 % 2 = 0 ∧ zW ci k / 128 < zCnt (zW ci k / 4 % 16)) ∨ (zW ci k / 64 % 2 = 1 ∧ zCnt ci + zW ci k / 128 ≤ zCnt (zW ci k / 4 % 16)))) := by
  have h1 := List.all_eq_true.mp (List.all_eq_true.mp zW_all ci (List.mem_range.mpr h)) k (List.mem_range.mpr hk)
  have h4 : zW ci k % 4 < 4 := Nat.mod_lt _ (by omega)
  have hm : zW ci k % 4 = 0 ∨ zW ci k % 4 = 1 ∨ zW ci k % 4 = 2 ∨ zW ci k % 4 = 3 := by omega
  rcases hm with hm | hm | hm | hm
  · simp only [hm, Bool.and_eq_true] at h1
    exact Or.inl ⟨hm, Nat.eq_of_beq_eq_true h1.1, Nat.eq_of_beq_eq_true h1.2⟩
  · simp only [hm, Bool.and_eq_true] at h1
    exact Or.inr (Or.inl ⟨hm, Nat.eq_of_beq_eq_true h1.1, Nat.eq_of_beq_eq_true h1.2⟩)
  · simp only [hm, Bool.and_eq_true, beq_iff_eq] at h1
    obtain ⟨q1, ⟨⟨q2, q3⟩, q4⟩, q5⟩ := h1
    refine Or.inr (Or.inr (Or.inl ⟨hm, Nat.eq_of_beq_eq_true q1, Nat.le_of_ble_eq_true q2, Nat.le_of_ble_eq_true q3, ?_, ?_⟩))
    · constructor
      · intro e
        rw [e] at q4
        have q4 : (Nat.beq ci 8 && Nat.beq k 2) = true := q4.symm
        rw [Bool.and_eq_true] at q4
        exact ⟨Nat.eq_of_beq_eq_true q4.1, Nat.eq_of_beq_eq_true q4.2⟩
      · rintro ⟨rfl, rfl⟩
        exact Nat.eq_of_beq_eq_true (q4.trans rfl)
    · constructor
      · intro e
        rw [e] at q5
        have q5 : (Nat.beq ci 11 && Nat.beq k 9) = true := q5.symm
        rw [Bool.and_eq_true] at q5
        exact ⟨Nat.eq_of_beq_eq_true q5.1, Nat.eq_of_beq_eq_true q5.2⟩
      · rintro ⟨rfl, rfl⟩
        exact Nat.eq_of_beq_eq_true (q5.trans rfl)
  · simp only [hm, Bool.and_eq_true] at h1
    obtain ⟨q1, q2, q3⟩ := h1
    refine Or.inr (Or.inr (Or.inr ⟨hm, Nat.eq_of_beq_eq_true q1, Nat.le_of_ble_eq_true q2, ?_⟩))
    have hb : zW ci k / 64 % 2 = 0 ∨ zW ci k / 64 % 2 = 1 := by omega
    rcases hb with hb | hb
    · simp only [hb] at q3
      exact Or.inl ⟨hb, Nat.le_of_ble_eq_true q3⟩
    · simp only [hb] at q3
      exact Or.inr ⟨hb, Nat.le_of_ble_eq_true q3⟩
theorem zVR_obj {ci : Nat} {n : Int} {a1 : zAv} (hc : ci < 13) (h : zVR lO lA sc (10 + ci, n) a1) : 0 ≤ n ∧ n < (zCnt ci : Int) ∧ a1 = (2, (lO ci n : Int)) := by
  rcases h with ⟨h, -⟩ | ⟨h, -⟩ | ⟨h, -⟩ | ⟨h, -⟩ | ⟨cj, -, h, h2, h3, h4⟩ | ⟨cj, k, y, -, -, -, h, -⟩
  · simp only at h; omega
  · simp only at h; omega
  · simp only at h; omega
  · simp only at h; omega
  · have : cj = ci := by simp only at h; omega
    subst this
    exact ⟨h2, h3, h4⟩
  · unfold zTg2 at h; simp only at h; omega
theorem zVR_row {t : Nat} {n : Int} {a1 : zAv} (ht : 1000 ≤ t) (h : zVR lO lA sc (t, n) a1) : ∃ ci k x, ci < 13 ∧ k < zNf ci ∧ zW ci k = 2 + 4 * x ∧ t = zTg2 (ci * 64 + k) x ∧ 0 ≤ n ∧ n < (zCnt ci : Int) ∧ a1 = (2, (lA (ci * 64 + k) n : Int)) := by
  rcases h with ⟨h, -⟩ | ⟨h, -⟩ | ⟨h, -⟩ | ⟨h, -⟩ | ⟨cj, hc, h, h2, h3, h4⟩ | ⟨cj, k, y, h1, h2, h3, h4, h5, h6, h7⟩
  · simp only at h; omega
  · simp only at h; omega
  · simp only at h; omega
  · simp only at h; omega
  · simp only at h; omega
  · exact ⟨cj, k, y, h1, h2, h3, h4, h5, h6, h7⟩
theorem zVR_o {ci : Nat} {n : Int} (hc : ci < 13) (h0 : 0 ≤ n) (h1 : n < (zCnt ci : Int)) : zVR lO lA sc (10 + ci, n) (2, (lO ci n : Int)) := Or.inr (Or.inr (Or.inr (Or.inr (Or.inl ⟨ci, hc, rfl, h0, h1, rfl⟩))))
theorem zVR_a {ci k x : Nat} {n : Int} (hc : ci < 13) (hk : k < zNf ci) (hw : zW ci k = 2 + 4 * x) (h0 : 0 ≤ n) (h1 : n < (zCnt ci : Int)) : zVR lO lA sc (zTg2 (ci * 64 + k) x, n) (2, (lA (ci * 64 + k) n : Int)) := Or.inr (Or.inr (Or.inr (Or.inr (Or.inr ⟨ci, k, x, hc, hk, hw, rfl, h0, h1, rfl⟩))))
theorem zGt_eq {g : zH2} {r : Nat} {n i v : Int} : zGt (zPt g r n i v) r n i = v := by
  unfold zGt zPt
  cases e : Nat.ble 768 r with
  | false => simp [hset]
  | true => simp [mset]
theorem zGt_ne {g : zH2} {r r' : Nat} {n n' i i' v : Int} (h : r' ≠ r ∨ (r < 768 ∧ n' ≠ n) ∨ i' ≠ i) : zGt (zPt g r n i v) r' n' i' = zGt g r' n' i' := by
  unfold zGt zPt
  cases e : Nat.ble 768 r with
  | false =>
    cases e2 : Nat.ble 768 r' with
    | false =>
      simp only [hset]
      rw [if_neg]
      rintro ⟨q1, q2, q3⟩
      rcases h with h | ⟨-, h⟩ | h
      · exact h q1
      · exact h q2
      · exact h q3
    | true => rfl
  | true =>
    have hr := Nat.le_of_ble_eq_true e
    cases e2 : Nat.ble 768 r' with
    | false => rfl
    | true =>
      have hr' := Nat.le_of_ble_eq_true e2
      simp only [mset]
      rw [if_neg]
      rintro ⟨q1, q3⟩
      rcases h with h | ⟨h, -⟩ | h
      · exact h (by omega)
      · omega
      · exact h q3
theorem zPt_out {g : zH2} {r : Nat} {n i v : Int} : (zPt g r n i v).2.2 = g.2.2 := by
  unfold zPt
  cases Nat.ble 768 r <;> rfl
theorem zCnt12 : zCnt 12 = 1 := rfl
theorem reg_inj {ci k cj k' : Nat} (h1 : ci < 13) (h2 : k < zNf ci) (h3 : cj < 13) (h4 : k' < zNf cj) (h : ci * 64 + k = cj * 64 + k') : ci = cj ∧ k = k' := by
  have a := (zNf_le2 h1 h2).2
  have b := (zNf_le2 h3 h4).2
  omega
/-- the second heap's place is another one -/
theorem zGt_other {g : zH2} {ci k cj k' : Nat} {n n' i i' v : Int} (h1 : ci < 13) (h2 : k < zNf ci) (h3 : cj < 13) (h4 : k' < zNf cj) (hn : 0 ≤ n) (hn2 : n < (zCnt ci : Int)) (hm : 0 ≤ n') (hm2 : n' < (zCnt cj : Int)) (h : ¬ (cj = ci ∧ k' = k ∧ n' = n ∧ i' = i)) : zGt (zPt g (ci * 64 + k) n i v) (cj * 64 + k') n' i' = zGt g (cj * 64 + k') n' i' := by
  apply zGt_ne
  by_cases hr : cj * 64 + k' = ci * 64 + k
  · obtain ⟨e1, e2⟩ := reg_inj h3 h4 h1 h2 hr
    subst e1
    subst e2
    by_cases hi : i' = i
    · right; left
      have hnn : n' ≠ n := fun q => h ⟨rfl, rfl, q, hi⟩
      refine ⟨?_, hnn⟩
      by_cases h12 : cj = 12
      · subst h12
        rw [zCnt12] at hn2 hm2
        omega
      · have := (zNf_le2 h1 h2).2
        omega
    · exact Or.inr (Or.inr hi)
  · exact Or.inl hr
theorem zFl2_keep {g g' : zH2} {ci k : Nat} {n v : Int} (h : zFl2 lO lA g ci k n v) (hg : zW ci k % 4 ≤ 1 → zGt g' (ci * 64 + k) n 0 = zGt g (ci * 64 + k) n 0) : zFl2 lO lA g' ci k n v := by
  unfold zFl2 at *
  split at h
  · rename_i e; rw [hg (by omega)]; exact h
  · rename_i e; rw [hg (by omega)]; exact h
  · exact h
  · exact h
theorem zRw2_keep {g g' : zH2} {kd r i : Nat} {n v : Int} (h : zRw2 lO g kd r n i v) (e : zGt g' r n i = zGt g r n i) : zRw2 lO g' kd r n i v := by
  unfold zRw2 at *
  split at h
  · exact h
  · exact h
  · rw [e]; exact h
/-- a field of numbers is written -/
theorem zR2_putf {g : zH2} {h : zH1} {ci k : Nat} {n v : Int} {f : Nat → Int} (ap : zAp lO lA) (hR : zR2 lO lA g h) (hc : ci < 13) (hk : k < zNf ci) (hw : zW ci k ≤ 1) (h0 : 0 ≤ n) (h1 : n < (zCnt ci : Int)) (hcell : h[lO ci n]? = some (ci, zNf ci, f)) :
    zR2 lO lA (zPt g (ci * 64 + k) n 0 v) (h.set (lO ci n) (ci, zNf ci, zUp f k v)) := by
  obtain ⟨r1, r2, r3⟩ := hR
  obtain ⟨ap0, ap1, ap2⟩ := ap
  have hlt := (List.getElem?_eq_some_iff.mp hcell).1
  refine ⟨fun cj n' hcj hn0 hn1 => ?_, fun cj k' x n' hcj hk' hx hn0 hn1 => ?_, ?_⟩
  · obtain ⟨f', e1, e2⟩ := r1 cj n' hcj hn0 hn1
    by_cases hid : lO ci n = lO cj n'
    · obtain ⟨q1, q2⟩ := ap1 ci cj n n' hc hcj h0 h1 hn0 hn1 hid
      subst q1
      subst q2
      rw [hcell] at e1
      cases e1
      refine ⟨zUp f k v, by rw [List.getElem?_set_self hlt], fun k' hk' => ?_⟩
      by_cases hkk : k' = k
      · subst hkk
        have hz : zUp f k' v k' = v := by simp [zUp]
        rw [hz]
        unfold zFl2
        have hww : zW ci k' = 0 ∨ zW ci k' = 1 := by omega
        rcases hww with hww | hww
        · rw [hww]; exact zGt_eq.symm
        · rw [hww]; exact zGt_eq.symm
      · have hz : zUp f k v k' = f k' := by simp [zUp, hkk]
        rw [hz]
        exact zFl2_keep (e2 k' hk') (fun _ => zGt_other hc hk hc hk' h0 h1 h0 h1 (fun q => hkk q.2.1))
    · refine ⟨f', by rw [List.getElem?_set_ne hid]; exact e1, fun k' hk' => ?_⟩
      refine zFl2_keep (e2 k' hk') (fun _ => zGt_other hc hk hcj hk' h0 h1 hn0 hn1 (fun q => hid ?_))
      rw [q.1, q.2.2.1]
  · obtain ⟨f', e1, e2⟩ := r2 cj k' x n' hcj hk' hx hn0 hn1
    have hid : ¬ lO ci n = lA (cj * 64 + k') n' := by
      intro q
      rw [← q, hcell] at e1
      have e1 := congrArg Prod.fst (Option.some.inj e1)
      simp only at e1
      rcases zW_sp hcj hk' with w | w | w | w <;> omega
    exact ⟨f', by rw [List.getElem?_set_ne hid]; exact e1, fun i hi => zRw2_keep (e2 i hi) (zGt_other hc hk hcj hk' h0 h1 hn0 hn1 (fun q => by
        obtain ⟨q1, q2, -⟩ := q
        subst q1
        subst q2
        omega))⟩
  · obtain ⟨f', e1, e2⟩ := r3
    have hid : ¬ lO ci n = lO 20 0 := by
      intro q
      rw [← q, hcell] at e1
      have e1 := congrArg Prod.fst (Option.some.inj e1)
      simp only at e1
      omega
    exact ⟨f', by rw [List.getElem?_set_ne hid]; exact e1, by rw [zPt_out]; exact e2⟩
/-- a row of numbers is written, at any places -/
theorem zR2_row {g g' : zH2} {h : zH1} {ci k x : Nat} {n : Int} {f f' : Nat → Int} (ap : zAp lO lA) (hR : zR2 lO lA g h) (hc : ci < 13) (hk : k < zNf ci) (hx : zW ci k = 2 + 4 * x) (hkd : x / 65536 ≤ 22) (h0 : 0 ≤ n) (h1 : n < (zCnt ci : Int)) (hcell : h[lA (ci * 64 + k) n]? = some (x / 65536, x % 65536, f))
    (hout : g'.2.2 = g.2.2) (hoth : ∀ (cj k' : Nat) (n' i' : Int), cj < 13 → k' < zNf cj → 0 ≤ n' → n' < (zCnt cj : Int) → ¬ (cj = ci ∧ k' = k ∧ n' = n) → zGt g' (cj * 64 + k') n' i' = zGt g (cj * 64 + k') n' i') (hself : ∀ i : Nat, i < x % 65536 → f' i = zGt g' (ci * 64 + k) n i) :
    zR2 lO lA g' (h.set (lA (ci * 64 + k) n) (x / 65536, x % 65536, f')) := by
  obtain ⟨r1, r2, r3⟩ := hR
  obtain ⟨ap0, ap1, ap2⟩ := ap
  have hlt := (List.getElem?_eq_some_iff.mp hcell).1
  have h20 : 20 ≤ x / 65536 := by rcases zW_sp hc hk with w | w | w | w <;> omega
  refine ⟨fun cj n' hcj hn0 hn1 => ?_, fun cj k' x' n' hcj hk' hx' hn0 hn1 => ?_, ?_⟩
  · obtain ⟨f2, e1, e2⟩ := r1 cj n' hcj hn0 hn1
    have hid : ¬ lA (ci * 64 + k) n = lO cj n' := by
      intro q
      rw [← q, hcell] at e1
      have e1 := congrArg Prod.fst (Option.some.inj e1)
      simp only at e1
      omega
    refine ⟨f2, by rw [List.getElem?_set_ne hid]; exact e1, fun k' hk' => zFl2_keep (e2 k' hk') (fun w => hoth cj k' n' 0 hcj hk' hn0 hn1 (fun q => ?_))⟩
    obtain ⟨q1, q2, -⟩ := q
    subst q1
    subst q2
    omega
  · obtain ⟨f2, e1, e2⟩ := r2 cj k' x' n' hcj hk' hx' hn0 hn1
    by_cases hid : lA (ci * 64 + k) n = lA (cj * 64 + k') n'
    · obtain ⟨q1, q2, q3⟩ := ap2 ci k x cj k' x' n n' hc hk hx h0 h1 hcj hk' hx' hn0 hn1 hid
      subst q1
      subst q2
      subst q3
      have : x' = x := by omega
      subst this
      refine ⟨f', by rw [List.getElem?_set_self hlt], fun i hi => ?_⟩
      unfold zRw2
      split
      · omega
      · omega
      · exact hself i hi
    · exact ⟨f2, by rw [List.getElem?_set_ne hid]; exact e1, fun i hi => zRw2_keep (e2 i hi) (hoth cj k' n' i hcj hk' hn0 hn1 (fun q => hid (by rw [q.1, q.2.1, q.2.2])))⟩
  · obtain ⟨f2, e1, e2⟩ := r3
    exact ⟨f2, by rw [List.getElem?_set_ne (ap0 ci k x n hc hk hx h0 h1)]; exact e1, by rw [hout]; exact e2⟩
end ZQ
end
section
section ZT
variable {lO lA : Nat → Int → Nat} {sc : Prop} {Ls : Nat} {xs : Nat → Int}
/-- what the heap's instructions owe -/
def zHm (lO lA : Nat → Int → Nat) (sc : Prop) (r2 : Option (List Prop × List zAv × zH2)) (r1 : Option (List Prop × List zAv × zH1)) : Prop := ∀ gs st' g', r2 = some (gs, st', g') → zAll gs → ∃ gs1 st1' h', r1 = some (gs1, st1', h') ∧ zAll gs1 ∧ zSR lO lA sc st' st1' ∧ zR2 lO lA g' h'
theorem p_hp {hop2 : zHop zH2} {hop1 : zHop zH1} {i : Instr} {len : Nat} {ax : zAx} {c2 : zCf zH2} {c1 : zCf zH1} (h : zCR lO lA sc c2 c1) (hm : zHm lO lA sc (hop2 i ax c2.2.2.1 c2.2.2.2) (hop1 i ax c1.2.2.1 c1.2.2.2)) : zSm lO lA sc (zHp hop2 i len ax c2) (zHp hop1 i len ax c1) := by
  obtain ⟨h1, h2, h3, h4⟩ := h
  intro gs c2' hE hg
  unfold zHp at hE
  split at hE
  · rename_i gs' st' g' e1
    cases hE
    obtain ⟨gs1, st1', h', k1, k2, k3, k4⟩ := hm _ _ _ e1 hg
    refine ⟨gs1, (c1.1 + len, c1.2.1, st1', h'), ?_, k2, ⟨by rw [h1], h2, k3, k4⟩⟩
    unfold zHp
    rw [k1]
  · cases hE
variable {st st1 : List zAv} {g : zH2} {h : zH1} {ax : zAx}
theorem p_lda {kd t : Nat} (hkd : (kd = 20 ∧ t = 0) ∨ (kd = 21 ∧ t = 1) ∨ (kd = 22 ∧ t = 0)) (hS : zSR lO lA sc st st1) (hR : zR2 lO lA g h) : zHm lO lA sc (zLd2 kd t st g) (zLdA kd t false st1 h) := by
  intro gs st' g' hE hg
  unfold zLd2 at hE
  split at hE
  · rename_i i a n r
    split at hE
    · rename_i e1
      cases hE
      rw [Bool.and_eq_true] at e1
      have ha := Nat.le_of_ble_eq_true e1.1
      have hk2 := Nat.eq_of_beq_eq_true e1.2
      obtain ⟨b1, s1, q0, q2, q3⟩ := zSR_cons hS
      obtain ⟨b2, s2, q4, q5, q6⟩ := zSR_cons q3
      have := zVR0 q2; subst this
      obtain ⟨ci, k, x, hc, hk, hx, ht, h0, h1, hb⟩ := zVR_row ha q5
      obtain ⟨t1, t2, t3, -⟩ := zTg2_r (r := ci * 64 + k) (x := x) (zNf_le2 hc hk).1
      rw [ht] at hk2 hg
      rw [t2] at hk2
      rw [t3] at hg
      obtain ⟨f, f1, f2⟩ := hR.2.1 ci k x n hc hk hx h0 h1
      subst q4
      subst hb
      have hi : 0 ≤ i ∧ i < ((x % 65536 : Nat) : Int) := hg.1
      have hv : f i.toNat = zGt g (ci * 64 + k) n i := by
        have := f2 i.toNat (by omega)
        unfold zRw2 at this
        have hne : x / 65536 ≠ 23 ∧ x / 65536 ≠ 24 := by omega
        have hi2 : ((i.toNat : Nat) : Int) = i := by omega
        split at this
        · omega
        · omega
        · rw [hi2] at this
          exact this
      have hvr : zVR lO lA sc (t, zGt g (zTr a) n i) (t, f i.toNat) := by
        rw [ht, t1, hv]
        rcases hkd with ⟨-, rfl⟩ | ⟨-, rfl⟩ | ⟨-, rfl⟩
        · exact zVR_i
        · exact zVR_l
        · exact zVR_i
      refine ⟨[0 ≤ i ∧ i < ((x % 65536 : Nat) : Int)], (t, f i.toNat) :: s2, h, ?_, hg, ⟨hvr, q6⟩, hR⟩
      unfold zLdA
      rw [q0]
      simp only [Int.toNat_natCast, f1, hk2, Nat.beq_refl]
    · cases hE
  · cases hE
theorem p_sta {kd t : Nat} {b : Bool} {gf : Int → List Prop} (hgf : ∀ v : Int, (b = true → v = 0 ∨ v = 1) → zAll (gf v)) (hkd : (kd = 20 ∧ t = 0) ∨ (kd = 21 ∧ t = 1) ∨ (kd = 22 ∧ t = 0)) (ap : zAp lO lA) (hS : zSR lO lA sc st st1) (hR : zR2 lO lA g h) : zHm lO lA sc (zSt2 kd t b st g) (zStA kd t gf st1 h) := by
  intro gs st' g' hE hg
  unfold zSt2 at hE
  split at hE
  · rename_i u v i a n r
    split at hE
    · rename_i e1
      simp only [Bool.and_eq_true] at e1
      have ha := Nat.le_of_ble_eq_true e1.1.1
      have hk2 := Nat.eq_of_beq_eq_true e1.1.2
      have hu := Nat.eq_of_beq_eq_true e1.2
      subst hu
      obtain ⟨b0, s0, p0, p2, p3⟩ := zSR_cons hS
      obtain ⟨b1, s1, q0, q2, q3⟩ := zSR_cons p3
      obtain ⟨b2, s2, q4, q5, q6⟩ := zSR_cons q3
      have := zVR0 q2; subst this
      have hb0 : b0 = (u, v) := by
        rcases hkd with ⟨-, rfl⟩ | ⟨-, rfl⟩ | ⟨-, rfl⟩
        · exact zVR0 p2
        · exact zVR1 p2
        · exact zVR0 p2
      subst hb0
      obtain ⟨ci, k, x, hc, hk, hx, ht, h0, h1, hb⟩ := zVR_row ha q5
      obtain ⟨t1, t2, t3, -⟩ := zTg2_r (r := ci * 64 + k) (x := x) (zNf_le2 hc hk).1
      rw [ht] at hk2
      rw [t2] at hk2
      obtain ⟨f, f1, f2⟩ := hR.2.1 ci k x n hc hk hx h0 h1
      subst q4
      subst q0
      subst hb
      have hgg : (0 ≤ i ∧ i < ((x % 65536 : Nat) : Int)) ∧ (b = true → v = 0 ∨ v = 1) ∧ r = st' ∧ zPt g (zTr a) n i v = g' := by
        rw [ht, t3] at hE
        cases b with
        | true => cases hE; exact ⟨hg.1, fun _ => hg.2.1, rfl, by rw [ht]⟩
        | false => cases hE; exact ⟨hg.1, fun q => absurd q (by decide), rfl, by rw [ht]⟩
      obtain ⟨hi, hb, rfl, rfl⟩ := hgg
      rw [ht, t1]
      refine ⟨(0 ≤ i ∧ i < ((x % 65536 : Nat) : Int)) :: gf v, s2, h.set (lA (ci * 64 + k) n) (x / 65536, x % 65536, zUp f i.toNat v), ?_, ⟨hi, hgf v hb⟩, q6, ?_⟩
      · unfold zStA
        rw [p0]
        simp only [Int.toNat_natCast, f1, hk2, Nat.beq_refl, Bool.and_self]
      · refine zR2_row ap hR hc hk hx (by omega) h0 h1 f1 zPt_out (fun cj k' n' i' hcj hk' hn0 hn1 hne => zGt_other hc hk hcj hk' h0 h1 hn0 hn1 (fun q => hne ⟨q.1, q.2.1, q.2.2.1⟩)) (fun j hj => ?_)
        unfold zUp
        by_cases hji : j = i.toNat
        · rw [if_pos hji]
          have : (j : Int) = i := by omega
          rw [this]
          exact zGt_eq.symm
        · rw [if_neg hji]
          rw [zGt_other hc hk hc hk h0 h1 h0 h1 (fun q => hji (by have := q.2.2.2; omega))]
          have := f2 j hj
          unfold zRw2 at this
          split at this
          · omega
          · omega
          · exact this
    · cases hE
  · cases hE
theorem p_getf {x : Nat} (hax : zAx2 (.getfield x) ax = true) (hS : zSR lO lA sc st st1) (hR : zR2 lO lA g h) : zHm lO lA sc (zHop2 Ls xs (.getfield x) ax st g) (zHop1 Ls xs (.getfield x) ax st1 h) := by
  intro gs st' g' hE hg
  simp only [zAx2, Bool.and_eq_true, decide_eq_true_eq] at hax
  obtain ⟨⟨a1, a2⟩, a3⟩ := hax
  have hk : ax.2.1 < zNf ax.1 := Nat.le_of_ble_eq_true a2
  have hc : ax.1 < 13 := Nat.le_of_ble_eq_true a3
  simp only [zHop2] at hE
  split at hE
  · rename_i t n r
    split at hE
    · rename_i e1
      have e1 := Nat.eq_of_beq_eq_true e1
      subst e1
      obtain ⟨b1, s1, q0, q2, q3⟩ := zSR_cons hS
      obtain ⟨h0, h1, hb⟩ := zVR_obj hc q2
      subst hb
      subst q0
      obtain ⟨f, f1, f2⟩ := hR.1 ax.1 n hc h0 h1
      have f3 := f2 ax.2.1 hk
      have hw : ax.2.2.toNat = zW ax.1 ax.2.1 := by rw [a1]; rfl
      rw [hw] at hE
      have fin : ∀ (gs1 : List Prop) (a2' : zAv), zAll gs1 → zVR lO lA sc a2' (zTag ax.1 ax.2.1, f ax.2.1) → (gs1 = match Nat.beq (zTag ax.1 ax.2.1) 2 with
          | true => [0 ≤ f ax.2.1]
          | false => []) → some (gs, st', g') = some (([] : List Prop), a2' :: r, g) → ∃ gs1 st1' h', zHop1 Ls xs (.getfield x) ax ((2, (lO ax.1 n : Int)) :: s1) h = some (gs1, st1', h') ∧ zAll gs1 ∧ zSR lO lA sc st' st1' ∧ zR2 lO lA g' h' := by
        intro gs1 a2' k1 k2 k3 k4
        cases k4
        refine ⟨gs1, (zTag ax.1 ax.2.1, f ax.2.1) :: s1, h, ?_, k1, ⟨k2, q3⟩, hR⟩
        simp only [zHop1, Int.toNat_natCast, f1, Nat.beq_refl]
        cases hb : Nat.beq (zTag ax.1 ax.2.1) 2 with
        | true =>
          rw [hb] at k3
          rw [k3, Nat.eq_of_beq_eq_true hb]
        | false =>
          rw [hb] at k3
          rw [k3]
      rcases zW_sp hc hk with ⟨w1, w2, w3⟩ | ⟨w1, w2, w3⟩ | ⟨w1, w2, w3, w4, -⟩ | ⟨w1, w2, w3, w4⟩
      · unfold zFl2 at f3
        rw [w1] at hE f3
        simp only at hE f3
        exact fin [] (0, zGt g (ax.1 * 64 + ax.2.1) n 0) trivial (by rw [w2, f3]; exact zVR_i) (by rw [w2]) hE.symm
      · unfold zFl2 at f3
        rw [w1] at hE f3
        simp only at hE f3
        exact fin [] (1, zGt g (ax.1 * 64 + ax.2.1) n 0) trivial (by rw [w2, f3]; exact zVR_l) (by rw [w2]) hE.symm
      · unfold zFl2 at f3
        rw [w1] at hE f3
        simp only at hE f3
        have hx : zW ax.1 ax.2.1 = 2 + 4 * (zW ax.1 ax.2.1 / 4) := by omega
        exact fin [0 ≤ f ax.2.1] (zTg2 (ax.1 * 64 + ax.2.1) (zW ax.1 ax.2.1 / 4), n) ⟨by rw [f3]; omega, trivial⟩ (by rw [w2, f3]; exact zVR_a hc hk hx h0 h1) (by rw [w2]) hE.symm
      · unfold zFl2 at f3
        rw [w1] at hE f3
        simp only at hE f3
        rcases w4 with ⟨w5, w6⟩ | ⟨w5, w6⟩
        · rw [w5] at hE f3
          simp only at hE f3
          exact fin [0 ≤ f ax.2.1] (10 + zW ax.1 ax.2.1 / 4 % 16, ((zW ax.1 ax.2.1 / 128 : Nat) : Int)) ⟨by rw [f3]; omega, trivial⟩ (by rw [w2, f3]; exact zVR_o w3 (by omega) (by omega)) (by rw [w2]) hE.symm
        · rw [w5] at hE f3
          simp only at hE f3
          exact fin [0 ≤ f ax.2.1] (10 + zW ax.1 ax.2.1 / 4 % 16, n + ((zW ax.1 ax.2.1 / 128 : Nat) : Int)) ⟨by rw [f3]; omega, trivial⟩ (by rw [w2, f3]; exact zVR_o w3 (by omega) (by omega)) (by rw [w2]) hE.symm
    · cases hE
  · cases hE
theorem p_putf {x : Nat} (hax : zAx2 (.putfield x) ax = true) (ap : zAp lO lA) (hS : zSR lO lA sc st st1) (hR : zR2 lO lA g h) : zHm lO lA sc (zHop2 Ls xs (.putfield x) ax st g) (zHop1 Ls xs (.putfield x) ax st1 h) := by
  intro gs st' g' hE hg
  simp only [zAx2, Bool.and_eq_true, decide_eq_true_eq] at hax
  obtain ⟨⟨a1, a2⟩, a3⟩ := hax
  have hk : ax.2.1 < zNf ax.1 := Nat.le_of_ble_eq_true a2
  have hc : ax.1 < 13 := Nat.le_of_ble_eq_true a3
  simp only [zHop2] at hE
  split at hE
  · rename_i u v t n r
    split at hE
    · rename_i e1
      simp only [Bool.and_eq_true] at e1
      have e2 := Nat.eq_of_beq_eq_true e1.1
      have e3 := Nat.le_of_ble_eq_true e1.2.1
      have e4 := Nat.eq_of_beq_eq_true e1.2.2
      clear e1
      subst e2
      have hw : ax.2.2.toNat = zW ax.1 ax.2.1 := by rw [a1]; rfl
      rw [hw] at e3 e4
      subst e4
      cases hE
      obtain ⟨b0, s0, p0, p2, p3⟩ := zSR_cons hS
      obtain ⟨b1, s1, q0, q2, q3⟩ := zSR_cons p3
      obtain ⟨h0, h1, hb⟩ := zVR_obj hc q2
      subst hb
      subst q0
      obtain ⟨f, f1, f2⟩ := hR.1 ax.1 n hc h0 h1
      have htg : zTag ax.1 ax.2.1 = zW ax.1 ax.2.1 ∧ b0 = (zW ax.1 ax.2.1, v) := by
        rcases zW_sp hc hk with ⟨w1, w2, w3⟩ | ⟨w1, w2, w3⟩ | ⟨w1, w2, w3, w4, -⟩ | ⟨w1, w2, w3, w4⟩
        · rw [w3] at p2 ⊢; exact ⟨w2, zVR0 p2⟩
        · rw [w3] at p2 ⊢; exact ⟨w2, zVR1 p2⟩
        · omega
        · omega
      obtain ⟨t1, rfl⟩ := htg
      refine ⟨_, s1, h.set (lO ax.1 n) (ax.1, zNf ax.1, zUp f ax.2.1 v), ?_, hg, q3, zR2_putf ap hR hc hk e3 h0 h1 f1⟩
      rw [p0]
      simp only [zHop1, Int.toNat_natCast, f1, Nat.beq_refl, t1, Bool.and_self]
      rfl
    · cases hE
  · cases hE
theorem p_aald (hS : zSR lO lA sc st st1) (hR : zR2 lO lA g h) : zHm lO lA sc (zHop2 Ls xs .aaload ax st g) (zHop1 Ls xs .aaload ax st1 h) := by
  intro gs st' g' hE hg
  simp only [zHop2] at hE
  split at hE
  · rename_i i a n r
    split at hE
    · rename_i e1
      rw [Bool.and_eq_true] at e1
      have ha := Nat.le_of_ble_eq_true e1.1
      have hk2 := Nat.eq_of_beq_eq_true e1.2
      obtain ⟨b1, s1, q0, q2, q3⟩ := zSR_cons hS
      obtain ⟨b2, s2, q4, q5, q6⟩ := zSR_cons q3
      have := zVR0 q2; subst this
      obtain ⟨ci, k, x, hc, hk, hx, ht, h0, h1, hb⟩ := zVR_row ha q5
      obtain ⟨t1, t2, t3, -⟩ := zTg2_r (r := ci * 64 + k) (x := x) (zNf_le2 hc hk).1
      rw [ht] at hk2 hE
      rw [t2] at hk2
      rw [t3] at hE
      obtain ⟨f, f1, f2⟩ := hR.2.1 ci k x n hc hk hx h0 h1
      subst q4
      subst q0
      subst hb
      have fin : ∀ (kd cj : Nat) (base : Int), ax.1 = kd → (kd = 23 ∨ kd = 24) → cj < 13 → some (gs, st', g') = some ([0 ≤ i ∧ i < ((x % 65536 : Nat) : Int)], (10 + cj, base + i) :: r, g) → (∀ j : Nat, j < x % 65536 → f j = (lO cj (base + (j : Int)) : Int)) → 0 ≤ base → base + ((x % 65536 : Nat) : Int) ≤ (zCnt cj : Int) → ∃ gs1 st1' h', zHop1 Ls xs .aaload ax ((0, i) :: (2, (lA (ci * 64 + k) n : Int)) :: s2) h = some (gs1, st1', h') ∧ zAll gs1 ∧ zSR lO lA sc st' st1' ∧ zR2 lO lA g' h' := by
        intro kd cj base hax hkd hcj hE hf hb0 hb1
        cases hE
        have hi : 0 ≤ i ∧ i < ((x % 65536 : Nat) : Int) := hg.1
        have hv : f i.toNat = (lO cj (base + i) : Int) := by
          rw [hf i.toNat (by omega)]
          have : ((i.toNat : Nat) : Int) = i := by omega
          rw [this]
        refine ⟨[0 ≤ i ∧ i < ((x % 65536 : Nat) : Int), 0 ≤ f i.toNat], (2, f i.toNat) :: s2, h, ?_, ⟨hi, by rw [hv]; omega, trivial⟩, ⟨?_, q6⟩, hR⟩
        · simp only [zHop1]
          have hor : (Nat.beq ax.1 23 || Nat.beq ax.1 24) = true := by
            rcases hkd with rfl | rfl <;> rw [hax] <;> rfl
          rw [hor]
          simp only [zLdA, Int.toNat_natCast, f1, hk2, Nat.beq_refl]
        · rw [hv]
          exact zVR_o hcj (by omega) (by omega)
      split at hE
      · rename_i e3
        have hck : ci = 8 ∧ k = 2 := by
          rcases zW_sp hc hk with w | w | w | w
          · omega
          · omega
          · exact w.2.2.2.2.1.mp (by omega)
          · omega
        obtain ⟨rfl, rfl⟩ := hck
        have hx2 : x = 1507336 := by
          have : zW 8 2 = 6029346 := rfl
          omega
        subst hx2
        refine fin 23 1 2 e3 (Or.inl rfl) (by omega) hE.symm (fun j hj => ?_) (by omega) (by decide)
        have := f2 j hj
        unfold zRw2 at this
        simpa using this
      · rename_i e3
        have hck : ci = 11 ∧ k = 9 := by
          rcases zW_sp hc hk with w | w | w | w
          · omega
          · omega
          · exact w.2.2.2.2.2.mp (by omega)
          · omega
        obtain ⟨rfl, rfl⟩ := hck
        have hx2 : x = 1572866 := by
          have : zW 11 9 = 6291466 := rfl
          omega
        subst hx2
        refine fin 24 3 0 e3 (Or.inr rfl) (by omega) (by rw [Int.zero_add]; exact hE.symm) (fun j hj => ?_) (by omega) (by decide)
        have := f2 j hj
        unfold zRw2 at this
        rw [Int.zero_add]
        simpa using this
      · cases hE
    · cases hE
  · cases hE
end ZT
end
section
section ZU
variable {lO lA : Nat → Int → Nat} {sc : Prop} {Ls : Nat} {xs : Nat → Int}
variable {st st1 : List zAv} {g : zH2} {h : zH1} {ax : zAx}
theorem zSR_len {r s : List zAv} (h : zSR lO lA sc r s) : s.length = r.length := by
  induction r generalizing s with
  | nil => rw [zSR_nil h]
  | cons a r ih =>
    obtain ⟨b, t, rfl, -, h2⟩ := zSR_cons h
    rw [List.length_cons, List.length_cons, ih h2]
theorem zRm_len {r s : List zAv} (h : zSR lO lA sc r s) (hr : zRm r = true) : zRm s = true := by
  unfold zRm at *
  rw [zSR_len h]
  exact hr
theorem p_alen (hS : zSR lO lA sc st st1) (hR : zR2 lO lA g h) : zHm lO lA sc (zHop2 Ls xs .arraylength ax st g) (zHop1 Ls xs .arraylength ax st1 h) := by
  intro gs st' g' hE hg
  simp only [zHop2] at hE
  split at hE
  · rename_i e0
    split at hE
    · rename_i z r
      cases hE
      obtain ⟨b1, s1, q0, q2, q3⟩ := zSR_cons hS
      have hb : b1 = (5, z) := by
        rcases q2 with ⟨w, -⟩ | ⟨w, -⟩ | ⟨-, w, -⟩ | ⟨w, -⟩ | ⟨ci, -, w, -⟩ | ⟨ci, k, y, -, -, -, w, -⟩
        · cases w
        · cases w
        · exact w
        · cases w
        · simp only at w; omega
        · unfold zTg2 at w; simp only at w; omega
      subst hb
      subst q0
      refine ⟨[], (0, (Ls : Int)) :: s1, h, ?_, trivial, ⟨zVR_i, q3⟩, hR⟩
      simp only [zHop1, e0]
    · cases hE
  · rename_i e0
    split at hE
    · rename_i a n r
      split at hE
      · rename_i e1
        cases hE
        have ha := Nat.le_of_ble_eq_true e1
        obtain ⟨b1, s1, q0, q2, q3⟩ := zSR_cons hS
        obtain ⟨ci, k, x, hc, hk, hx, ht, h0, h1, hb⟩ := zVR_row ha q2
        obtain ⟨t1, t2, t3, -⟩ := zTg2_r (r := ci * 64 + k) (x := x) (zNf_le2 hc hk).1
        obtain ⟨f, f1, f2⟩ := hR.2.1 ci k x n hc hk hx h0 h1
        subst hb
        subst q0
        refine ⟨[], (0, ((x % 65536 : Nat) : Int)) :: s1, h, ?_, trivial, ⟨by rw [ht, t3]; exact zVR_i, q3⟩, hR⟩
        have h20 : Nat.ble 20 (x / 65536) = true := Nat.ble_eq_true_of_le (by rcases zW_sp hc hk with w | w | w | w <;> omega)
        simp only [zHop1, e0, Int.toNat_natCast, f1, h20]
      · cases hE
    · cases hE
theorem p_sld (hS : zSR lO lA sc st st1) (hR : zR2 lO lA g h) : zHm lO lA sc (zHop2 Ls xs .iaload ax st g) (zHop1 Ls xs .iaload ax st1 h) := by
  intro gs st' g' hE hg
  simp only [zHop2] at hE
  split at hE
  · rename_i e0
    split at hE
    · rename_i j z r
      cases hE
      obtain ⟨b0, s0, p0, p2, p3⟩ := zSR_cons hS
      obtain ⟨b1, s1, q0, q2, q3⟩ := zSR_cons p3
      have := zVR0 p2; subst this
      have hb : b1 = (5, z) := by
        rcases q2 with ⟨w, -⟩ | ⟨w, -⟩ | ⟨-, w, -⟩ | ⟨w, -⟩ | ⟨ci, -, w, -⟩ | ⟨ci, k, y, -, -, -, w, -⟩
        · cases w
        · cases w
        · exact w
        · cases w
        · simp only at w; omega
        · unfold zTg2 at w; simp only at w; omega
      subst hb
      subst q0
      subst p0
      refine ⟨[0 ≤ j ∧ j < (Ls : Int)], (0, xs j.toNat) :: s1, h, ?_, hg, ⟨zVR_i, q3⟩, hR⟩
      simp only [zHop1, e0]
    · cases hE
  · rename_i e0
    obtain ⟨gs1, st1', h', k1, k2⟩ := p_lda (Or.inl ⟨rfl, rfl⟩) hS hR gs st' g' hE hg
    refine ⟨gs1, st1', h', ?_, k2⟩
    simp only [zHop1, e0]
    exact k1
theorem p_lald (hS : zSR lO lA sc st st1) (hR : zR2 lO lA g h) : zHm lO lA sc (zHop2 Ls xs .laload ax st g) (zHop1 Ls xs .laload ax st1 h) := by
  intro gs st' g' hE hg
  simp only [zHop2] at hE
  split at hE
  · rename_i i z r
    cases hE
    obtain ⟨b0, s0, p0, p2, p3⟩ := zSR_cons hS
    obtain ⟨b1, s1, q0, q2, q3⟩ := zSR_cons p3
    have := zVR0 p2; subst this
    have hb : b1 = (2, (lO 20 0 : Int)) := by
      rcases q2 with ⟨w, -⟩ | ⟨w, -⟩ | ⟨w, -⟩ | ⟨-, w⟩ | ⟨ci, -, w, -⟩ | ⟨ci, k, y, -, -, -, w, -⟩
      · cases w
      · cases w
      · cases w
      · exact w
      · simp only at w; omega
      · unfold zTg2 at w; simp only at w; omega
    subst hb
    subst q0
    obtain ⟨f, f1, f2⟩ := hR.2.2
    have hi : i = 0 := hg.1
    subst hi
    refine ⟨[0 ≤ (0 : Int) ∧ (0 : Int) < ((1 : Nat) : Int)], (1, f 0) :: s1, h, ?_, ⟨⟨by omega, by omega⟩, trivial⟩, ⟨by rw [f2]; exact zVR_l, q3⟩, hR⟩
    rw [p0]
    simp only [zHop1, zLdA, Int.toNat_natCast, f1, Nat.beq_refl]
    rfl
  · obtain ⟨gs1, st1', h', k1, k2⟩ := p_lda (Or.inr (Or.inl ⟨rfl, rfl⟩)) hS hR gs st' g' hE hg
    exact ⟨gs1, st1', h', k1, k2⟩
theorem zCpy_at {f0 f1 : Nat → Int} {sp dp n : Int} (h1 : 0 ≤ sp) (h2 : 0 ≤ dp) (h3 : 0 ≤ n) (i : Nat) : zCpy f0 f1 sp.toNat dp.toNat n.toNat i = if dp ≤ (i : Int) ∧ (i : Int) < dp + n then f0 (sp + ((i : Int) - dp)).toNat else f1 i := by
  unfold zCpy
  by_cases h : dp ≤ (i : Int) ∧ (i : Int) < dp + n
  · rw [if_pos h, if_pos ⟨by omega, by omega⟩]
    congr 1
    omega
  · rw [if_neg h, if_neg (fun q => h ⟨by omega, by omega⟩)]
theorem p_stat {x : Nat} (ap : zAp lO lA) (hS : zSR lO lA sc st st1) (hR : zR2 lO lA g h) : zHm lO lA sc (zHop2 Ls xs (.invokestatic x) ax st g) (zHop1 Ls xs (.invokestatic x) ax st1 h) := by
  intro gs st' g' hE hg
  simp only [zHop2] at hE
  split at hE
  · rename_i e0
    split at hE
    · rename_i n dp a d sp a1 s r
      split at hE
      · rename_i e1
        simp only [Bool.and_eq_true, Bool.or_eq_true] at e1
        obtain ⟨⟨⟨⟨u1, u2⟩, u3, u4⟩, u5, u6⟩, u7⟩ := e1
        have ha := Nat.le_of_ble_eq_true u1
        have ha1 := Nat.le_of_ble_eq_true u2
        have hkk := Nat.eq_of_beq_eq_true u3
        have hr6 := Nat.le_of_ble_eq_true u5
        have hr7 := Nat.le_of_ble_eq_true u6
        cases hE
        obtain ⟨b0, s0, p0, p1, p2⟩ := zSR_cons hS
        obtain ⟨b1, s1, p3, p4, p5⟩ := zSR_cons p2
        obtain ⟨b2, s2, p6, p7, p8⟩ := zSR_cons p5
        obtain ⟨b3, s3, p9, p10, p11⟩ := zSR_cons p8
        obtain ⟨b4, s4, p12, p13, p14⟩ := zSR_cons p11
        have := zVR0 p1; subst this
        have := zVR0 p4; subst this
        have := zVR0 p10; subst this
        obtain ⟨ci, k, y, hc, hk, hx, ht, h0, h1, hb⟩ := zVR_row ha p7
        obtain ⟨cj, k', y', hc', hk', hx', ht', h0', h1', hb'⟩ := zVR_row ha1 p13
        subst hb
        subst hb'
        subst p12
        subst p9
        subst p6
        subst p3
        obtain ⟨t1, t2, t3, -⟩ := zTg2_r (r := ci * 64 + k) (x := y) (zNf_le2 hc hk).1
        obtain ⟨t1', t2', t3', -⟩ := zTg2_r (r := cj * 64 + k') (x := y') (zNf_le2 hc' hk').1
        obtain ⟨f, f1, f2⟩ := hR.2.1 ci k y d hc hk hx h0 h1
        obtain ⟨f', f1', f2'⟩ := hR.2.1 cj k' y' s hc' hk' hx' h0' h1'
        rw [ht, ht'] at hkk
        rw [t2, t2'] at hkk
        rw [ht, t2] at u4
        rw [ht, t1] at hr6
        rw [ht', t1'] at hr7
        rw [ht, ht'] at hg
        rw [t3, t3'] at hg
        obtain ⟨g1, g2, g3, g4, g5, -⟩ := hg
        have hkd : y / 65536 = 20 ∨ y / 65536 = 21 := u4.imp (fun z => Nat.eq_of_beq_eq_true z) (fun z => Nat.eq_of_beq_eq_true z)
        rw [ht, ht', t1, t1']
        refine ⟨[0 ≤ sp, 0 ≤ dp, 0 ≤ n, sp + n ≤ ((y' % 65536 : Nat) : Int), dp + n ≤ ((y % 65536 : Nat) : Int)], s4, h.set (lA (ci * 64 + k) d) (y / 65536, y % 65536, zCpy f' f sp.toNat dp.toNat n.toNat), ?_, ⟨g1, g2, g3, g4, g5, trivial⟩, p14, ?_⟩
        · rw [p0]
          simp only [zHop1, e0, Int.toNat_natCast, f1, f1', ← hkk, Nat.beq_refl, zRm_len p14 u7, Bool.true_and, Bool.and_true]
          rcases hkd with q | q <;> rw [q] <;> rfl
        · refine zR2_row ap hR hc hk hx (by omega) h0 h1 f1 rfl (fun cm km n' i' hcm hkm hn0 hn1 hne => ?_) (fun j hj => ?_)
          · unfold zGt
            by_cases hr : Nat.ble 768 (cm * 64 + km) = true
            · rw [hr]
            · have hr : Nat.ble 768 (cm * 64 + km) = false := by
                cases q : Nat.ble 768 (cm * 64 + km) with
                | false => rfl
                | true => exact absurd q hr
              rw [hr]
              simp only [hcpy]
              rw [if_neg]
              rintro ⟨q1, q2, -⟩
              obtain ⟨q3, q4⟩ := reg_inj hcm hkm hc hk q1
              exact hne ⟨q3, q4, q2⟩
          · rw [zCpy_at g1 g2 g3]
            have e768 : Nat.ble 768 (ci * 64 + k) = false := by
              cases q : Nat.ble 768 (ci * 64 + k) with
              | false => rfl
              | true => have := Nat.le_of_ble_eq_true q; omega
            have e768' : Nat.ble 768 (cj * 64 + k') = false := by
              cases q : Nat.ble 768 (cj * 64 + k') with
              | false => rfl
              | true => have := Nat.le_of_ble_eq_true q; omega
            by_cases hin : dp ≤ (j : Int) ∧ (j : Int) < dp + n
            · rw [if_pos hin]
              have h5 := f2' (sp + ((j : Int) - dp)).toNat (by omega)
              unfold zRw2 at h5
              have h6 : f' (sp + ((j : Int) - dp)).toNat = zGt g (cj * 64 + k') s (((sp + ((j : Int) - dp)).toNat : Nat) : Int) := by
                split at h5
                · omega
                · omega
                · exact h5
              rw [h6]
              have h7 : (((sp + ((j : Int) - dp)).toNat : Nat) : Int) = sp + ((j : Int) - dp) := by omega
              rw [h7]
              unfold zGt
              rw [e768, e768']
              simp only [hcpy]
              rw [if_pos (by refine ⟨?_, ?_, hin.1, hin.2⟩ <;> trivial)]
            · rw [if_neg hin]
              have h5 := f2 j hj
              unfold zRw2 at h5
              have h6 : f j = zGt g (ci * 64 + k) d (j : Int) := by
                split at h5
                · omega
                · omega
                · exact h5
              rw [h6]
              unfold zGt
              rw [e768]
              simp only [hcpy]
              rw [if_neg]
              rintro ⟨-, -, q1, q2⟩
              exact hin ⟨q1, q2⟩
      · cases hE
    · cases hE
  · rename_i e0
    split at hE
    · rename_i v r
      split at hE
      · rename_i e1
        cases hE
        obtain ⟨b0, s0, p0, p1, p2⟩ := zSR_cons hS
        have := zVR0 p1; subst this
        refine ⟨[], (0, if v < 0 then wneg v else v) :: s0, h, ?_, trivial, ⟨zVR_i, p2⟩, hR⟩
        rw [p0]
        simp only [zHop1, e0, zRm_len p2 e1]
      · cases hE
    · cases hE
  · rename_i e0
    split at hE
    · rename_i w v r
      split at hE
      · rename_i e1
        cases hE
        obtain ⟨b0, s0, p0, p1, p2⟩ := zSR_cons hS
        obtain ⟨b1, s1, p3, p4, p5⟩ := zSR_cons p2
        have := zVR0 p1; subst this
        have := zVR0 p4; subst this
        subst p3
        refine ⟨[], (0, if w < v then w else v) :: s1, h, ?_, trivial, ⟨zVR_i, p5⟩, hR⟩
        rw [p0]
        simp only [zHop1, e0, zRm_len p5 e1]
      · cases hE
    · cases hE
  · rename_i e0
    split at hE
    · rename_i w v r
      split at hE
      · rename_i e1
        cases hE
        obtain ⟨b0, s0, p0, p1, p2⟩ := zSR_cons hS
        obtain ⟨b1, s1, p3, p4, p5⟩ := zSR_cons p2
        have := zVR0 p1; subst this
        have := zVR0 p4; subst this
        subst p3
        refine ⟨[], (0, if v < w then w else v) :: s1, h, ?_, trivial, ⟨zVR_i, p5⟩, hR⟩
        rw [p0]
        simp only [zHop1, e0, zRm_len p5 e1]
      · cases hE
    · cases hE
  · cases hE
set_option maxHeartbeats 1000000 in
theorem z_par {i : Instr} {len : Nat} {d : Int} {c2 : zCf zH2} {c1 : zCf zH1} (ap : zAp lO lA) (hax : zAx2 i ax = true) (h : zCR lO lA sc c2 c1) : zSm lO lA sc (zX (zHop2 Ls xs) i len ax d c2) (zX (zHop1 Ls xs) i len ax d c1) := by
  have hS := h.2.2.1
  have hR := h.2.2.2
  cases i
  case aload n => exact p_ld (Or.inr (Or.inr rfl)) h
  case aload_n n => exact p_ld (Or.inr (Or.inr rfl)) h
  case iload n => exact p_ld (Or.inl rfl) h
  case iload_n n => exact p_ld (Or.inl rfl) h
  case lload n => exact p_ld (Or.inr (Or.inl rfl)) h
  case lload_n n => exact p_ld (Or.inr (Or.inl rfl)) h
  case astore n => exact p_sto (Or.inr (Or.inr rfl)) h
  case astore_n n => exact p_sto (Or.inr (Or.inr rfl)) h
  case istore n => exact p_sto (Or.inl rfl) h
  case istore_n n => exact p_sto (Or.inl rfl) h
  case lstore n => exact p_stoL h
  case lstore_n n => exact p_stoL h
  case iconst n => exact p_ck (p_pu zVR_i h)
  case lconst n => exact p_pu zVR_l h
  case bipush n => exact p_ck (p_pu zVR_i h)
  case sipush n => exact p_ck (p_pu zVR_i h)
  case ldc n => exact p_pu zVR_i h
  case ldc_w n => exact p_pu zVR_i h
  case ldc2_w n => exact p_pu zVR_l h
  case iadd => exact p_b0 h
  case isub => exact p_b0 h
  case imul => exact p_b0 h
  case idiv => exact p_b0d h
  case irem => exact p_b0d h
  case iand => exact p_b0 h
  case ior => exact p_b0 h
  case ixor => exact p_b0 h
  case ishl => exact p_b0 h
  case ishr => exact p_b0 h
  case iushr => exact p_b0 h
  case ineg => exact p_u (Or.inl rfl) (Or.inl rfl) h
  case ladd => exact p_b1 h
  case lsub => exact p_b1 h
  case lmul => exact p_b1 h
  case ldiv => exact p_b1d h
  case lrem => exact p_b1d h
  case lor => exact p_b1 h
  case lshl => exact p_b10 h
  case lshr => exact p_b10 h
  case lcmp => exact p_cp h
  case i2l => exact p_u (Or.inl rfl) (Or.inr rfl) h
  case l2i => exact p_u (Or.inr rfl) (Or.inl rfl) h
  case dup => exact p_dup h
  case pop => exact p_pop h
  case dup2 => exact p_dup2 h
  case iinc n k => exact p_ii h
  case ifCond k off => exact p_if h
  case if_icmp k off => exact p_ic h
  case goto off => exact p_go h
  case tableswitch dflt lo hi offs => exact p_ts h
  case lookupswitch dflt ps => exact p_ls h
  case getfield x => exact p_hp h (p_getf hax hS hR)
  case putfield x => exact p_hp h (p_putf hax ap hS hR)
  case iaload => exact p_hp h (p_sld hS hR)
  case laload => exact p_hp h (p_lald hS hR)
  case baload => exact p_hp h (p_lda (Or.inr (Or.inr ⟨rfl, rfl⟩)) hS hR)
  case aaload => exact p_hp h (p_aald hS hR)
  case iastore => exact p_hp h (p_sta (b := false) (gf := fun _ => []) (fun _ _ => trivial) (Or.inl ⟨rfl, rfl⟩) ap hS hR)
  case lastore => exact p_hp h (p_sta (b := false) (gf := fun _ => []) (fun _ _ => trivial) (Or.inr (Or.inl ⟨rfl, rfl⟩)) ap hS hR)
  case bastore => exact p_hp h (p_sta (gf := fun v => [v = 0 ∨ v = 1]) (fun v q => ⟨q rfl, trivial⟩) (Or.inr (Or.inr ⟨rfl, rfl⟩)) ap hS hR)
  case arraylength => exact p_hp h (p_alen hS hR)
  case invokestatic x => exact p_hp h (p_stat ap hS hR)
  all_goals (intro gs c2' hE hg)
  all_goals (have q : (none : zRs zH2) = some (gs, c2') := hE; cases q)
end ZU
end
section
/-! Runs over the second heap, and how they are shown. -/
section ZV
variable {lO lA : Nat → Int → Nat} {sc : Prop} {Ls : Nat} {xs : Nat → Int}
def zRc2 : zRc zH2 := fun _ a ci => ci < 13 ∧ a.1 = 10 + ci
/-- steps whose codes are the table's -/
def zSX2 (Ls : Nat) (xs : Nat → Int) (mi : Nat) (c c' : zCf zH2) : Prop := ∃ (i : Instr) (len : Nat) (ax : zAx) (d : Int) (gs : List Prop), decode (zmCode mi) c.1 = .ok (i, len) ∧ zLnOk i len = true ∧ zAxOk (zmC mi) (zIsI mi) i ax = true ∧ zAx2 i ax = true ∧ zX (zHop2 Ls xs) i len ax d c = some (gs, c') ∧ zAll gs
def zS2 (Ls : Nat) (xs : Nat → Int) (run : zRn zH2) (mi : Nat) (c c' : zCf zH2) : Prop := zSX2 Ls xs mi c c' ∨ zStepC zRc2 run mi c c' ∨ zStepF c c'
def zRe2 (Ls : Nat) (xs : Nat → Int) (run : zRn zH2) (mi : Nat) : Nat → zCf zH2 → zCf zH2 → Prop
  | 0, c, c' => c = c'
  | n + 1, c, c' => ∃ c1, zS2 Ls xs run mi c c1 ∧ zRe2 Ls xs run mi n c1 c'
/-- from this place the method returns r, with that heap -/
def zFin (Ls : Nat) (xs : Nat → Int) (run : zRn zH2) (mi : Nat) (r : Option zAv) (g : zH2) (c : zCf zH2) : Prop := ∃ (n pc : Nat) (L : zLo) (st : List zAv), zRe2 Ls xs run mi n c (pc, L, st, g) ∧ zRet mi (pc, L, st, g) r
def zRu2 (spec : zRn zH2) : Nat → zRn zH2
  | 0 => fun _ _ _ _ _ => False
  | d + 1 => fun mi args g r g' => (7 ≤ d ∧ spec mi args g r g') ∨ (mi < 295 ∧ ¬ zmC mi = 14 ∧ (zFl args).length ≤ zmMax mi ∧ zFin 0 (fun _ => 0) (zRu2 spec d) mi r g' (0, zEntry args (zmMax mi), [], g))
def zOR (lO lA : Nat → Int → Nat) : Option zAv → Option zAv → Prop
  | none, none => True
  | some a, some b => zVR lO lA False a b
  | _, _ => False
def zRR (lO lA : Nat → Int → Nat) (run2 : zRn zH2) (run1 : zRn zH1) : Prop := ∀ k args2 args1 g r2 g' h, run2 k args2 g r2 g' → zSR lO lA False args2 args1 → zR2 lO lA g h → ∃ r1 h', run1 k args1 h r1 h' ∧ zOR lO lA r2 r1 ∧ zR2 lO lA g' h'
theorem zVR_sc {a b : zAv} (h : zVR lO lA False a b) : zVR lO lA sc a b := by
  rcases h with h | h | ⟨-, -, h⟩ | h | h | h
  · exact Or.inl h
  · exact Or.inr (Or.inl h)
  · exact h.elim
  · exact Or.inr (Or.inr (Or.inr (Or.inl h)))
  · exact Or.inr (Or.inr (Or.inr (Or.inr (Or.inl h))))
  · exact Or.inr (Or.inr (Or.inr (Or.inr (Or.inr h))))
theorem zSR_app {a a' b b' : List zAv} (h1 : zSR lO lA sc a a') (h2 : zSR lO lA sc b b') : zSR lO lA sc (a ++ b) (a' ++ b') := by
  induction a generalizing a' with
  | nil => rw [zSR_nil h1]; exact h2
  | cons x r ih =>
    obtain ⟨y, s, rfl, h3, h4⟩ := zSR_cons h1
    exact ⟨h3, ih h4⟩
theorem zSR_split {a b s1 : List zAv} (h : zSR lO lA sc (a ++ b) s1) : ∃ a' b', s1 = a' ++ b' ∧ zSR lO lA sc a a' ∧ zSR lO lA sc b b' := by
  induction a generalizing s1 with
  | nil => exact ⟨[], s1, rfl, trivial, h⟩
  | cons x r ih =>
    obtain ⟨y, s, rfl, h3, h4⟩ := zSR_cons h
    obtain ⟨a', b', rfl, h5, h6⟩ := ih h4
    exact ⟨y :: a', b', rfl, ⟨h3, h5⟩, h6⟩
theorem zSR_rev {a a' : List zAv} (h : zSR lO lA sc a a') : zSR lO lA sc a.reverse a'.reverse := by
  induction a generalizing a' with
  | nil => rw [zSR_nil h]; exact trivial
  | cons x r ih =>
    obtain ⟨y, s, rfl, h3, h4⟩ := zSR_cons h
    rw [List.reverse_cons, List.reverse_cons]
    exact zSR_app (ih h4) ⟨h3, trivial⟩
theorem zSR_no5 {a a' : List zAv} (h : zSR lO lA sc a a') (h5 : a.all (fun a => !Nat.beq a.1 5) = true) : zSR lO lA False a a' ∧ a'.all (fun a => !Nat.beq a.1 5) = true := by
  induction a generalizing a' with
  | nil => rw [zSR_nil h]; exact ⟨trivial, rfl⟩
  | cons x r ih =>
    obtain ⟨y, s, rfl, h3, h4⟩ := zSR_cons h
    rw [List.all_cons, Bool.and_eq_true] at h5
    obtain ⟨i1, i2⟩ := ih h4 h5.2
    have hx : ¬ x.1 = 5 := by
      intro q
      have := h5.1
      rw [q] at this
      cases this
    have key : zVR lO lA False x y ∧ (!Nat.beq y.1 5) = true := by
      rcases h3 with ⟨w, e⟩ | ⟨w, e⟩ | ⟨w, -⟩ | ⟨w, e⟩ | ⟨ci, w1, w2, w3, w4, e⟩ | ⟨ci, k, z, w1, w2, w3, w4, w5, w6, e⟩
      · exact ⟨Or.inl ⟨w, e⟩, by rw [e, w]; rfl⟩
      · exact ⟨Or.inr (Or.inl ⟨w, e⟩), by rw [e, w]; rfl⟩
      · exact absurd w hx
      · exact ⟨Or.inr (Or.inr (Or.inr (Or.inl ⟨w, e⟩))), by rw [e]; rfl⟩
      · exact ⟨Or.inr (Or.inr (Or.inr (Or.inr (Or.inl ⟨ci, w1, w2, w3, w4, e⟩)))), by rw [e]; rfl⟩
      · exact ⟨Or.inr (Or.inr (Or.inr (Or.inr (Or.inr ⟨ci, k, z, w1, w2, w3, w4, w5, w6, e⟩)))), by rw [e]; rfl⟩
    exact ⟨⟨key.1, i1⟩, by rw [List.all_cons, Bool.and_eq_true]; exact ⟨key.2, i2⟩⟩
theorem zSR_get {a a' : List zAv} {x : zAv} (h : zSR lO lA sc a a') (h0 : a[0]? = some x) : ∃ y, a'[0]? = some y ∧ zVR lO lA sc x y := by
  cases a with
  | nil => cases h0
  | cons z r =>
    cases h0
    obtain ⟨y, s, rfl, h3, h4⟩ := zSR_cons h
    exact ⟨y, rfl, h3⟩
theorem zSR_wt {r s : List zAv} (h : zSR lO lA sc r s) : zWt s = zWt r := by
  induction r generalizing s with
  | nil => rw [zSR_nil h]
  | cons x r ih =>
    obtain ⟨y, s', rfl, h3, h4⟩ := zSR_cons h
    unfold zWt
    rw [ih h4, (zVR_tag h3).2.1]
theorem z_par1 {run2 : zRn zH2} {run1 : zRn zH1} {mi : Nat} {c2 c2' : zCf zH2} {c1 : zCf zH1} (ap : zAp lO lA) (hrr : zRR lO lA run2 run1) (h : zCR lO lA sc c2 c1) (hs : zS2 Ls xs run2 mi c2 c2') : ∃ c1', (zStep (zHop1 Ls xs) zRc1 run1 mi c1 c1' ∨ c1 = c1') ∧ zCR lO lA sc c2' c1' := by
  rcases hs with ⟨i, len, ax, d, gs, q1, q2, q3, q4, q5, q6⟩ | ⟨i, ax, as1, rest, r, g1, q1, q2, q3, q4, q5, q6, q7, q8, q8s, q9, q10, q11, rfl⟩ | ⟨q1, q2, q3⟩
  · obtain ⟨gs1, c1', k1, k2, k3⟩ := z_par ap q4 h gs c2' q5 q6
    exact ⟨c1', Or.inl (Or.inl ⟨i, len, ax, d, gs1, by rw [h.1]; exact q1, q2, q3, k1, k2⟩), k3⟩
  · obtain ⟨h1, h2, h3, h4⟩ := h
    rw [q6] at h3
    obtain ⟨a', b', e1, e2, e3⟩ := zSR_split h3
    have e4 := zSR_rev e2
    rw [List.reverse_reverse] at e4
    obtain ⟨e5, e6⟩ := zSR_no5 e4 q10
    obtain ⟨r1, h', k1, k2, k3⟩ := hrr _ _ _ _ _ _ _ q11 e5 h4
    refine ⟨(c1.1 + 3, c1.2.1, r1.toList ++ b', h'), Or.inl (Or.inr (Or.inl ⟨i, ax, a'.reverse, b', r1, h', by rw [h1]; exact q1, q2, q3, q4, q5, by rw [List.reverse_reverse]; exact e1, by rw [zSR_len e4]; exact q7, fun x hx => ?_, fun x hx => ?_, by rw [zSR_wt e3]; exact q9, e6, k1, rfl⟩)), by rw [h1], h2, ?_, k3⟩
    · obtain ⟨a, p1, p2, p3⟩ := q8 x hx
      obtain ⟨y, p4, p5⟩ := zSR_get e4 p1
      obtain ⟨t, n⟩ := a
      simp only at p3
      subst p3
      obtain ⟨p6, p7, p8⟩ := zVR_obj p2 p5
      subst p8
      obtain ⟨f, p9, -⟩ := h4.1 _ n p2 p6 p7
      exact ⟨_, p4, p2, rfl, zNf (zmC ax.1), f, p9⟩
    · obtain ⟨a, p1, p2⟩ := q8s x hx
      obtain ⟨y, p4, p5⟩ := zSR_get e4 p1
      exact ⟨y, p4, by rw [(zVR_tag p5).2.2]; exact p2⟩
    · refine zSR_app ?_ e3
      cases r with
      | none =>
        cases r1 with
        | none => trivial
        | some y => exact k2.elim
      | some x =>
        cases r1 with
        | none => exact k2.elim
        | some y => exact ⟨zVR_sc k2, trivial⟩
  · obtain ⟨h1, h2, h3, h4⟩ := h
    refine ⟨c1, Or.inr rfl, ?_, ⟨?_, ?_⟩, ?_, ?_⟩
    · rw [q1]; exact h1
    · rw [q3.1]; exact h2.1
    · intro i a ha
      exact h2.2 i a (q3.2 i a ha)
    · rw [show c2'.2.2.1 = c2.2.2.1 from congrArg Prod.fst q2]; exact h3
    · rw [show c2'.2.2.2 = c2.2.2.2 from congrArg Prod.snd q2]; exact h4
theorem z_parN {run2 : zRn zH2} {run1 : zRn zH1} {mi n : Nat} {c2 c2' : zCf zH2} {c1 : zCf zH1} (ap : zAp lO lA) (hrr : zRR lO lA run2 run1) (h : zCR lO lA sc c2 c1) (hs : zRe2 Ls xs run2 mi n c2 c2') : ∃ n' c1', zReach (zHop1 Ls xs) zRc1 run1 mi n' c1 c1' ∧ zCR lO lA sc c2' c1' := by
  induction n generalizing c2 c1 with
  | zero => cases hs; exact ⟨0, c1, rfl, h⟩
  | succ n ih =>
    obtain ⟨c3, s1, s2⟩ := hs
    obtain ⟨c4, k1, k2⟩ := z_par1 ap hrr h s1
    obtain ⟨n', c1', k3, k4⟩ := ih k2 s2
    rcases k1 with k1 | rfl
    · exact ⟨n' + 1, c1', ⟨c4, k1, k3⟩, k4⟩
    · exact ⟨n', c1', k3, k4⟩
theorem zSR_fl {a a' : List zAv} (h : zSR lO lA sc a a') : (zFl a').length = (zFl a).length ∧ ∀ (n i : Nat) (x : zAv), zGl (zFl a ++ List.replicate n none) i = some x → ∃ y, zGl (zFl a' ++ List.replicate n none) i = some y ∧ zVR lO lA sc x y := by
  induction a generalizing a' with
  | nil =>
    rw [zSR_nil h]
    refine ⟨rfl, fun n i x hx => ?_⟩
    exfalso
    have := zEntry_mem [] i x hx
    cases this
  | cons z r ih =>
    obtain ⟨y, s, rfl, h3, h4⟩ := zSR_cons h
    obtain ⟨i1, i2⟩ := ih h4
    obtain ⟨t, v⟩ := z
    obtain ⟨t', v'⟩ := y
    have ht : Nat.beq t' 1 = Nat.beq t 1 := (zVR_tag h3).2.1
    unfold zFl
    rw [ht]
    cases Nat.beq t 1 with
    | true =>
      simp only
      refine ⟨by simp [i1], fun n i x hx => ?_⟩
      match i, hx with
      | 0, hx => cases hx; exact ⟨_, rfl, h3⟩
      | 1, hx => cases hx
      | i + 2, hx => exact i2 n i x hx
    | false =>
      simp only
      refine ⟨by simp [i1], fun n i x hx => ?_⟩
      match i, hx with
      | 0, hx => cases hx; exact ⟨_, rfl, h3⟩
      | i + 1, hx => exact i2 n i x hx
theorem z_parR {spec2 : zRn zH2} {spec1 : zRn zH1} (ap : zAp lO lA) (hsp : zRR lO lA spec2 spec1) : ∀ d, zRR lO lA (zRu2 spec2 d) (zRun (zHop1 0 (fun _ => 0)) zRc1 spec1 d) := by
  intro d
  induction d with
  | zero => intro k args2 args1 g r2 g' h q; exact q.elim
  | succ d ih =>
    intro k args2 args1 g r2 g' h q hS hR
    rcases q with ⟨q1, q2⟩ | ⟨hk, h14, hfl, n, pc, L, st, hre, hret⟩
    · obtain ⟨r1, h', k1, k2⟩ := hsp _ _ _ _ _ _ _ q2 hS hR
      exact ⟨r1, h', Or.inl ⟨q1, k1⟩, k2⟩
    · obtain ⟨f1, f2⟩ := zSR_fl hS
      have hC : zCR lO lA False (0, zEntry args2 (zmMax k), [], g) (0, zEntry args1 (zmMax k), [], h) := by
        refine ⟨rfl, ⟨?_, fun i a ha => ?_⟩, trivial, hR⟩
        · unfold zEntry
          simp only [List.length_append, List.length_replicate, f1]
        · unfold zEntry at ha ⊢
          rw [f1]
          exact f2 _ i a ha
      obtain ⟨n', c1', k1, k2⟩ := z_parN ap ih hC hre
      obtain ⟨pc1, L1, st1, h1⟩ := c1'
      obtain ⟨e1, e2, e3, e4⟩ := k2
      dsimp only at e1 e2 e3 e4
      subst e1
      rcases hret with ⟨w1, v, w2, w3, w4⟩ | ⟨w1, v, w2, w3, w4⟩ | ⟨w1, w2, w3, w4⟩
      · dsimp only at w1 w2
        subst w2
        subst w3
        obtain ⟨b0, s0, p0, p1, p2⟩ := zSR_cons e3
        have := zVR0 p1; subst this
        have := zSR_nil p2; subst this
        exact ⟨some (0, v), h1, Or.inr ⟨hk, h14, by rw [f1]; exact hfl, n', pc1, L1, st1, k1, Or.inl ⟨w1, v, p0, rfl, w4⟩⟩, zVR_i, e4⟩
      · dsimp only at w1 w2
        subst w2
        subst w3
        obtain ⟨b0, s0, p0, p1, p2⟩ := zSR_cons e3
        have := zVR1 p1; subst this
        have := zSR_nil p2; subst this
        exact ⟨some (1, v), h1, Or.inr ⟨hk, h14, by rw [f1]; exact hfl, n', pc1, L1, st1, k1, Or.inr (Or.inl ⟨w1, v, p0, rfl, w4⟩)⟩, zVR_l, e4⟩
      · dsimp only at w1 w2
        subst w2
        subst w3
        have := zSR_nil e3; subst this
        exact ⟨none, h1, Or.inr ⟨hk, h14, by rw [f1]; exact hfl, n', pc1, L1, [], k1, Or.inr (Or.inr ⟨w1, rfl, rfl, w4⟩)⟩, trivial, e4⟩
end ZV
end
section
/-! How a run over the second heap is shown: blocks, calls, returns. -/
abbrev zRow : Type := Nat × Instr × Nat × zAx
def zRk (mi : Nat) (b : List zRow) : Bool := b.all (fun q => (match decode (zmCode mi) q.1 with
  | .ok p => decide (p = (q.2.1, q.2.2.1))
  | .error _ => false) && (zLnOk q.2.1 q.2.2.1 && (zAxOk (zmC mi) (zIsI mi) q.2.1 q.2.2.2 && zAx2 q.2.1 q.2.2.2)))
def zBk (d : Int) : List zRow → zCf zH2 → zRs zH2
  | [], c => some ([], c)
  | (pc, i, len, ax) :: b, c => match Nat.beq pc c.1 with
    | true => match zX (zHop2 0 (fun _ => 0)) i len ax d c with
      | some (gs, c1) => match zBk d b c1 with
        | some (gs', c2) => some (gs ++ gs', c2)
        | none => none
      | none => none
    | false => none
def zMk : List Bool → zLo → zLo
  | b :: m, a :: L => (match b with
    | true => a
    | false => none) :: zMk m L
  | _, L => L
def zBm (m : List Bool) (r : zRs zH2) : zRs zH2 := match r with
  | some (gs, c) => some (gs, (c.1, zMk m c.2.1, c.2.2.1, c.2.2.2))
  | none => none
theorem zMk_sub {m : List Bool} {L : zLo} : zSub (zMk m L) L := by
  induction m generalizing L with
  | nil => unfold zMk; exact ⟨rfl, fun i a h => h⟩
  | cons b m ih =>
    cases L with
    | nil => unfold zMk; exact ⟨rfl, fun i a h => h⟩
    | cons x r =>
      unfold zMk
      refine ⟨by simp only [List.length_cons, ih.1], fun i a h => ?_⟩
      cases i with
      | zero =>
        cases b with
        | true => exact h
        | false => cases h
      | succ i => exact ih.2 i a h
section ZW
variable {run : zRn zH2} {mi : Nat} {r : Option zAv} {g0 : zH2} {spec : zRn zH2}
theorem zF_1 {c c' : zCf zH2} (h1 : zS2 0 (fun _ => 0) run mi c c') (h2 : zFin 0 (fun _ => 0) run mi r g0 c') : zFin 0 (fun _ => 0) run mi r g0 c := by
  obtain ⟨n, pc, L, st, h3, h4⟩ := h2
  exact ⟨n + 1, pc, L, st, ⟨c', h1, h3⟩, h4⟩
theorem zF_b {d : Int} {b : List zRow} {c c' : zCf zH2} {gs : List Prop} (hk : zRk mi b = true) (e : zBk d b c = some (gs, c')) (hg : zAll gs) (h : zFin 0 (fun _ => 0) run mi r g0 c') : zFin 0 (fun _ => 0) run mi r g0 c := by
  induction b generalizing c gs with
  | nil => cases e; exact h
  | cons q b ih =>
    obtain ⟨pc, i, len, ax⟩ := q
    unfold zRk at hk
    rw [List.all_cons, Bool.and_eq_true] at hk
    obtain ⟨k1, k2⟩ := hk
    simp only [Bool.and_eq_true] at k1
    obtain ⟨k3, k4, k5, k6⟩ := k1
    unfold zBk at e
    split at e
    · rename_i e1
      have e1 := Nat.eq_of_beq_eq_true e1
      subst e1
      split at e
      · rename_i gs1 c1 e2
        split at e
        · rename_i gs2 c2 e3
          cases e
          obtain ⟨g1, g2⟩ := zAll_app.mp hg
          refine zF_1 (Or.inl ⟨i, len, ax, d, gs1, ?_, k4, k5, k6, e2, g1⟩) (ih k2 e3 g2)
          split at k3
          · rename_i p e4
            rw [e4, of_decide_eq_true k3]
          · cases k3
        · cases e
      · cases e
    · cases e
/-- a block, and locals forgotten after it -/
theorem zF_blk {m : List Bool} {d : Int} {b : List zRow} {c c' : zCf zH2} {gs : List Prop} (hk : zRk mi b = true) (e : zBm m (zBk d b c) = some (gs, c')) (hg : zAll gs) (h : zFin 0 (fun _ => 0) run mi r g0 c') : zFin 0 (fun _ => 0) run mi r g0 c := by
  cases e1 : zBk d b c with
  | none => rw [e1] at e; cases e
  | some q =>
    obtain ⟨gs1, c1⟩ := q
    rw [e1] at e
    cases e
    exact zF_b hk e1 hg (zF_1 (c := c1) (c' := (c1.1, zMk m c1.2.1, c1.2.2.1, c1.2.2.2)) (Or.inr (Or.inr ⟨rfl, rfl, zMk_sub⟩)) h)
def zCk1 (mi pc : Nat) (i : Instr) (k cl n : Nat) : Bool := (match decode (zmCode mi) pc with
  | .ok p => decide (p = (i, 3))
  | .error _ => false) && (zIsCall i k && (zAxOk (zmC mi) (zIsI mi) i (k, 0, 0) && (Nat.blt k 295 && (!Nat.beq (zmC k) 14 && (Nat.beq (zmC k) cl && Nat.beq n (zNa i k))))))
def zCk2 (i : Instr) (cl : Nat) (args rest : List zAv) : Bool := (match i with
  | .invokevirtual _ => (match args with
    | a :: _ => Nat.blt cl 13 && Nat.beq a.1 (10 + cl)
    | [] => false)
  | .invokespecial _ => (match args with
    | a :: _ => zGe2 a.1
    | [] => false)
  | _ => true) && (Nat.ble (zWt rest) 8 && args.all (fun a => !Nat.beq a.1 5))
theorem zF_call {pc k cl n : Nat} {i : Instr} {L : zLo} {args rest st st' : List zAv} {g g1 : zH2} {r1 : Option zAv} (hk : zCk1 mi pc i k cl n = true) (h2 : zCk2 i cl args rest = true) (hn : args.length = n) (hs : st = args.reverse ++ rest) (hs' : st' = r1.toList ++ rest) (hr : run k args g r1 g1) (h : zFin 0 (fun _ => 0) run mi r g0 (pc + 3, L, st', g1)) : zFin 0 (fun _ => 0) run mi r g0 (pc, L, st, g) := by
  unfold zCk1 at hk
  simp only [Bool.and_eq_true] at hk
  obtain ⟨k1, k2, k3, k4, k5, k6, k7⟩ := hk
  unfold zCk2 at h2
  simp only [Bool.and_eq_true] at h2
  obtain ⟨j1, j2, j3⟩ := h2
  have k6 := Nat.eq_of_beq_eq_true k6
  have k7 := Nat.eq_of_beq_eq_true k7
  have k5 : ¬ zmC k = 14 := by
    intro q
    rw [q] at k5
    cases k5
  subst hs'
  refine zF_1 (Or.inr (Or.inl ⟨i, (k, 0, 0), args, rest, r1, g1, ?_, k2, k3, Nat.le_of_ble_eq_true k4, k5, hs, by rw [hn]; exact k7, fun x hx => ?_, fun x hx => ?_, j2, j3, hr, rfl⟩)) h
  · split at k1
    · rename_i p e4
      rw [e4, of_decide_eq_true k1]
    · cases k1
  · subst hx
    cases args with
    | nil => cases j1
    | cons a as =>
      simp only [Bool.and_eq_true] at j1
      have j4 := Nat.le_of_ble_eq_true j1.1
      have j5 := Nat.eq_of_beq_eq_true j1.2
      refine ⟨a, rfl, ?_⟩
      unfold zRc2
      dsimp only
      rw [k6]
      exact ⟨j4, j5⟩
  · subst hx
    cases args with
    | nil => cases j1
    | cons a as => exact ⟨a, rfl, j1⟩
def zRe1 (mi pc : Nat) (i : Instr) (ty : Option FieldType) : Bool := (match decode (zmCode mi) pc with
  | .ok p => decide (p = (i, 1))
  | .error _ => false) && decide (zmRet mi = ty)
theorem zRe1_s {pc : Nat} {i : Instr} {ty : Option FieldType} (h : zRe1 mi pc i ty = true) : decode (zmCode mi) pc = .ok (i, 1) ∧ zmRet mi = ty := by
  unfold zRe1 at h
  rw [Bool.and_eq_true] at h
  obtain ⟨h1, h2⟩ := h
  refine ⟨?_, of_decide_eq_true h2⟩
  split at h1
  · rename_i p e4
    rw [e4, of_decide_eq_true h1]
  · cases h1
theorem zF_ri {pc : Nat} {L : zLo} {v : Int} (hk : zRe1 mi pc .ireturn (some .int) = true) : zFin 0 (fun _ => 0) run mi (some (0, v)) g0 (pc, L, [(0, v)], g0) := by
  obtain ⟨h1, h2⟩ := zRe1_s hk
  exact ⟨0, pc, L, [(0, v)], rfl, Or.inl ⟨h1, v, rfl, rfl, Or.inl h2⟩⟩
theorem zF_rb {pc : Nat} {L : zLo} {v : Int} (hk : zRe1 mi pc .ireturn (some .boolean) = true) (hv : v = 0 ∨ v = 1) : zFin 0 (fun _ => 0) run mi (some (0, v)) g0 (pc, L, [(0, v)], g0) := by
  obtain ⟨h1, h2⟩ := zRe1_s hk
  exact ⟨0, pc, L, [(0, v)], rfl, Or.inl ⟨h1, v, rfl, rfl, Or.inr ⟨h2, hv⟩⟩⟩
theorem zF_rl {pc : Nat} {L : zLo} {v : Int} (hk : zRe1 mi pc .lreturn (some .long) = true) : zFin 0 (fun _ => 0) run mi (some (1, v)) g0 (pc, L, [(1, v)], g0) := by
  obtain ⟨h1, h2⟩ := zRe1_s hk
  exact ⟨0, pc, L, [(1, v)], rfl, Or.inr (Or.inl ⟨h1, v, rfl, rfl, h2⟩)⟩
theorem zF_rv {pc : Nat} {L : zLo} (hk : zRe1 mi pc .return_ none = true) : zFin 0 (fun _ => 0) run mi none g0 (pc, L, [], g0) := by
  obtain ⟨h1, h2⟩ := zRe1_s hk
  exact ⟨0, pc, L, [], rfl, Or.inr (Or.inr ⟨h1, rfl, rfl, h2⟩)⟩
def zIn1 (mi mx : Nat) : Bool := Nat.blt mi 295 && (!Nat.beq (zmC mi) 14 && Nat.beq (zmMax mi) mx)
theorem zF_in {D d mx : Nat} {args : List zAv} {L : zLo} {g : zH2} (hk : zIn1 mi mx = true) (hl : Nat.ble (zFl args).length mx = true) (he : zEntry args mx = L) (hd : D + 1 ≤ d) (H : ∀ d', D ≤ d' → zFin 0 (fun _ => 0) (zRu2 spec d') mi r g0 (0, L, [], g)) : zRu2 spec d mi args g r g0 := by
  unfold zIn1 at hk
  simp only [Bool.and_eq_true] at hk
  obtain ⟨k1, k2, k3⟩ := hk
  have k3 := Nat.eq_of_beq_eq_true k3
  subst k3
  subst he
  match d, hd with
  | d + 1, hd =>
    refine Or.inr ⟨Nat.le_of_ble_eq_true k1, ?_, Nat.le_of_ble_eq_true hl, H d (Nat.le_of_succ_le_succ hd)⟩
    intro q
    rw [q] at k2
    cases k2
end ZW
/-- a guard -/
def zG {β : Type} (p : Prop) [Decidable p] (t : Option β) : Option β := if p then t else none
theorem zG_s {β : Type} {p : Prop} [Decidable p] {t : Option β} {v : β} (h : zG p t = some v) : p ∧ t = some v := by
  unfold zG at h
  split at h
  · rename_i q; exact ⟨q, h⟩
  · cases h
theorem zI_s {β : Type} {p : Prop} [Decidable p] {t e : Option β} {v : β} (h : (if p then t else e) = some v) : (p ∧ t = some v) ∨ (¬ p ∧ e = some v) := by
  split at h
  · rename_i q; exact Or.inl ⟨q, h⟩
  · rename_i q; exact Or.inr ⟨q, h⟩
theorem zB_s {α β : Type} {t : Option α} {k : α → Option β} {v : β} (h : t.bind k = some v) : ∃ w, t = some w ∧ k w = some v := by
  cases t with
  | none => cases h
  | some w => exact ⟨w, rfl, h⟩
theorem z_neg {p : Prop} [Decidable p] {β : Type} {a b : Option β} (h : p) : (if p then a else b) = a := if_pos h
end
section
/-! The bytes of a code read as a list: a row's instruction is what decode says there. -/
section WN
theorem wn_bE {α β : Type} (r : Decoder α) (f : α → Decoder β) (C : ByteArray) (p : Nat) : (r >>= f).runAt C p = (r.runAt C p).bind (fun v => (f v.1).runAt C v.2) := rfl
theorem wn_u1E (C : ByteArray) (p : Nat) : (Jvm.ClassFile.Reader.u1 : Decoder Nat).runAt C p = if h : p < C.size then .ok (C[p].toNat, p + 1) else .error (.truncated p) := by
  have e : (Jvm.ClassFile.Reader.u1 : Decoder Nat).runAt C p = ((if h : p < C.size then (do set (p + 1); pure C[p].toNat) else throw (.truncated p)) : Decoder Nat).runAt C p := rfl
  rw [e]
  by_cases h : p < C.size
  · rw [dif_pos h, dif_pos h]; rfl
  · rw [dif_neg h, dif_neg h]; rfl
theorem wn_u1 {C : ByteArray} {p : Nat} {b : UInt8} {r : List UInt8} (h : C.data.toList.drop p = b :: r) : (Jvm.ClassFile.Reader.u1 : Decoder Nat).runAt C p = .ok (b.toNat, p + 1) ∧ C.data.toList.drop (p + 1) = r := by
  have hl : p < C.data.toList.length := by
    have := congrArg List.length h
    rw [List.length_drop, List.length_cons] at this
    omega
  have h2 : C.data.toList[p] :: C.data.toList.drop (p + 1) = b :: r := by rw [List.getElem_cons_drop]; exact h
  injection h2 with h3 h4
  refine ⟨?_, h4⟩
  rw [wn_u1E, dif_pos (show p < C.size from hl)]
  rw [show C[p]'(show p < C.size from hl) = b from h3]
theorem wn_u2 {C : ByteArray} {p : Nat} {b c : UInt8} {r : List UInt8} (h : C.data.toList.drop p = b :: c :: r) : (Jvm.ClassFile.Reader.u2 : Decoder Nat).runAt C p = .ok (b.toNat * 256 + c.toNat, p + 2) := by
  obtain ⟨h1, h2⟩ := wn_u1 h
  obtain ⟨h3, _⟩ := wn_u1 h2
  show ((Jvm.ClassFile.Reader.u1 : Decoder Nat) >>= fun hi => (Jvm.ClassFile.Reader.u1 : Decoder Nat) >>= fun lo => Pure.pure (hi * 256 + lo)).runAt C p = _
  rw [wn_bE, h1]
  show ((Jvm.ClassFile.Reader.u1 : Decoder Nat) >>= fun lo => Pure.pure (b.toNat * 256 + lo)).runAt C (p + 1) = _
  rw [wn_bE, h3]
  rfl
theorem wn_mE {α β : Type} (g : α → β) (r : Decoder α) (C : ByteArray) (p : Nat) : (g <$> r).runAt C p = (r.runAt C p).bind (fun v => .ok (g v.1, v.2)) := rfl
theorem wn_s1 {C : ByteArray} {p : Nat} {b : UInt8} {r : List UInt8} (h : C.data.toList.drop p = b :: r) : (Jvm.ClassFile.Reader.s1 : Decoder Int).runAt C p = .ok (Jvm.ClassFile.Reader.signed 8 b.toNat, p + 1) := by
  show (Jvm.ClassFile.Reader.signed 8 <$> (Jvm.ClassFile.Reader.u1 : Decoder Nat)).runAt C p = _
  rw [wn_mE, (wn_u1 h).1]
  rfl
theorem wn_s2 {C : ByteArray} {p : Nat} {b c : UInt8} {r : List UInt8} (h : C.data.toList.drop p = b :: c :: r) : (Jvm.ClassFile.Reader.s2 : Decoder Int).runAt C p = .ok (Jvm.ClassFile.Reader.signed 16 (b.toNat * 256 + c.toNat), p + 2) := by
  show (Jvm.ClassFile.Reader.signed 16 <$> (Jvm.ClassFile.Reader.u2 : Decoder Nat)).runAt C p = _
  rw [wn_mE, wn_u2 h]
  rfl
def wn0 : List (Nat × Instr) := [(42, .aload_n 0), (43, .aload_n 1), (27, .iload_n 1), (28, .iload_n 2), (29, .iload_n 3), (4, .iconst 1), (3, .iconst 0), (96, .iadd), (44, .aload_n 2), (177, .return_), (172, .ireturn), (190, .arraylength), (46, .iaload), (89, .dup), (2, .iconst (-1)), (5, .iconst 2), (6, .iconst 3), (7, .iconst 4), (8, .iconst 5), (9, .lconst 0), (10, .lconst 1), (26, .iload_n 0), (30, .lload_n 0), (31, .lload_n 1), (32, .lload_n 2), (33, .lload_n 3), (45, .aload_n 3), (47, .laload), (50, .aaload), (51, .baload), (59, .istore_n 0), (60, .istore_n 1), (61, .istore_n 2), (62, .istore_n 3), (63, .lstore_n 0), (64, .lstore_n 1), (65, .lstore_n 2), (66, .lstore_n 3), (75, .astore_n 0), (76, .astore_n 1), (77, .astore_n 2), (78, .astore_n 3), (79, .iastore), (80, .lastore), (83, .aastore), (84, .bastore), (87, .pop), (92, .dup2), (97, .ladd), (100, .isub), (101, .lsub), (104, .imul), (105, .lmul), (108, .idiv), (109, .ldiv), (112, .irem), (113, .lrem), (116, .ineg), (120, .ishl), (121, .lshl), (122, .ishr), (123, .lshr), (124, .iushr), (126, .iand), (128, .ior), (129, .lor), (130, .ixor), (133, .i2l), (136, .l2i), (148, .lcmp), (173, .lreturn)]
def wn1 : List (Nat × (Nat → Instr)) := [(21, .iload), (54, .istore), (25, .aload), (58, .astore), (18, .ldc), (22, .lload), (55, .lstore)]
def wn2 : List (Nat × (Nat → Instr)) := [(180, .getfield), (182, .invokevirtual), (181, .putfield), (184, .invokestatic), (183, .invokespecial), (19, .ldc_w), (20, .ldc2_w), (187, .new), (189, .anewarray)]
def wn3 : List (Nat × (Int → Instr)) := [(17, .sipush), (167, .goto), (153, .ifCond .eq), (154, .ifCond .ne), (155, .ifCond .lt), (156, .ifCond .ge), (157, .ifCond .gt), (158, .ifCond .le), (159, .if_icmp .eq), (160, .if_icmp .ne), (161, .if_icmp .lt), (162, .if_icmp .ge), (163, .if_icmp .gt), (164, .if_icmp .le)]
set_option maxRecDepth 100000 in
theorem wn_tab (pc : Nat) : ∃ f : Nat → Decoder Instr, Decoder.instr pc = (Jvm.ClassFile.Reader.u1 >>= f) ∧ (∀ q ∈ wn0, f q.1 = (Pure.pure q.2 : Decoder Instr)) ∧ (∀ q ∈ wn1, f q.1 = (Jvm.ClassFile.Reader.u1 >>= fun x => Pure.pure (q.2 x))) ∧ (∀ q ∈ wn2, f q.1 = (Jvm.ClassFile.Reader.u2 >>= fun x => Pure.pure (q.2 x))) ∧ (∀ q ∈ wn3, f q.1 = (Jvm.ClassFile.Reader.s2 >>= fun x => Pure.pure (q.2 x))) ∧ f 16 = (Jvm.ClassFile.Reader.s1 >>= fun x => Pure.pure (Instr.bipush x)) ∧ f 132 = (Jvm.ClassFile.Reader.u1 >>= fun x => Jvm.ClassFile.Reader.s1 >>= fun y => Pure.pure (Instr.iinc x y)) := by
  refine ⟨_, rfl, fun q h => ?_, fun q h => ?_, fun q h => ?_, fun q h => ?_, rfl, rfl⟩
  · simp only [wn0, List.mem_cons, List.not_mem_nil, or_false] at h
    rcases h with rfl | rfl | rfl | rfl | rfl | rfl | rfl | rfl | rfl | rfl | rfl | rfl | rfl | rfl | rfl | rfl | rfl | rfl | rfl | rfl | rfl | rfl | rfl | rfl | rfl | rfl | rfl | rfl | rfl | rfl | rfl | rfl | rfl | rfl | rfl | rfl | rfl | rfl | rfl | rfl | rfl | rfl | rfl | rfl | rfl | rfl | rfl | rfl | rfl | rfl | rfl | rfl | rfl | rfl | rfl | rfl | rfl | rfl | rfl | rfl | rfl | rfl | rfl | rfl | rfl | rfl | rfl | rfl | rfl | rfl | rfl <;> rfl
  · simp only [wn1, List.mem_cons, List.not_mem_nil, or_false] at h
    rcases h with rfl | rfl | rfl | rfl | rfl | rfl | rfl <;> rfl
  · simp only [wn2, List.mem_cons, List.not_mem_nil, or_false] at h
    rcases h with rfl | rfl | rfl | rfl | rfl | rfl | rfl | rfl | rfl <;> rfl
  · simp only [wn3, List.mem_cons, List.not_mem_nil, or_false] at h
    rcases h with rfl | rfl | rfl | rfl | rfl | rfl | rfl | rfl | rfl | rfl | rfl | rfl | rfl | rfl <;> rfl
def wnFd {α : Type} : List (Nat × α) → Nat → Option α
  | [], _ => none
  | q :: l, n => match Nat.beq q.1 n with
    | true => some q.2
    | false => wnFd l n
theorem wnFd_in {α : Type} {l : List (Nat × α)} {n : Nat} {x : α} (h : wnFd l n = some x) : (n, x) ∈ l := by
  induction l with
  | nil => cases h
  | cons q l ih =>
    unfold wnFd at h
    split at h
    · rename_i e
      have e := Nat.eq_of_beq_eq_true e
      have h := Option.some.inj h
      subst h
      subst e
      exact List.mem_cons_self
    · exact List.mem_cons_of_mem _ (ih h)
def wnX (l : List UInt8) : Option (Instr × Nat) := match l with
  | [] => none
  | b :: r => match wnFd wn0 b.toNat with
    | some i => some (i, 1)
    | none => match r with
      | [] => none
      | c :: r => match wnFd wn1 b.toNat with
        | some f => some (f c.toNat, 2)
        | none => match Nat.beq b.toNat 16 with
          | true => some (.bipush (Jvm.ClassFile.Reader.signed 8 c.toNat), 2)
          | false => match r with
            | [] => none
            | d :: _ => match wnFd wn2 b.toNat with
              | some f => some (f (c.toNat * 256 + d.toNat), 3)
              | none => match wnFd wn3 b.toNat with
                | some f => some (f (Jvm.ClassFile.Reader.signed 16 (c.toNat * 256 + d.toNat)), 3)
                | none => match Nat.beq b.toNat 132 with
                  | true => some (.iinc c.toNat (Jvm.ClassFile.Reader.signed 8 d.toNat), 3)
                  | false => none
theorem wn_fin {C : ByteArray} {pc n : Nat} {i : Instr} (h : (Decoder.instr pc).runAt C pc = .ok (i, pc + n)) : decode C pc = .ok (i, n) := by
  show ((Decoder.instr pc).runAt C pc >>= fun v => Pure.pure (v.1, v.2 - pc)) = _
  rw [h]
  show Except.ok (i, pc + n - pc) = _
  rw [Nat.add_sub_cancel_left]
theorem wnX_ok {C : ByteArray} {pc n : Nat} {i : Instr} (h : wnX (C.data.toList.drop pc) = some (i, n)) : decode C pc = .ok (i, n) := by
  obtain ⟨f, e, t0, t1, t2, t3, t4, t5⟩ := wn_tab pc
  refine wn_fin ?_
  generalize hl : C.data.toList.drop pc = l at h
  unfold wnX at h
  split at h
  · cases h
  rename_i b r
  obtain ⟨u1, u2⟩ := wn_u1 hl
  rw [e, wn_bE, u1]
  show (f b.toNat).runAt C (pc + 1) = _
  split at h
  · rename_i j ej
    have h := Option.some.inj h
    injection h with h1 h2
    subst h1
    subst h2
    rw [t0 _ (wnFd_in ej)]
    rfl
  split at h
  · cases h
  rename_i c r
  obtain ⟨v1, v2⟩ := wn_u1 u2
  split at h
  · rename_i g eg
    have h := Option.some.inj h
    injection h with h1 h2
    subst h1
    subst h2
    rw [t1 _ (wnFd_in eg), wn_bE, v1]
    rfl
  split at h
  · rename_i eb
    have eb := Nat.eq_of_beq_eq_true eb
    have h := Option.some.inj h
    injection h with h1 h2
    subst h1
    subst h2
    rw [eb, t4, wn_bE, wn_s1 u2]
    rfl
  split at h
  · cases h
  rename_i d r
  split at h
  · rename_i g eg
    have h := Option.some.inj h
    injection h with h1 h2
    subst h1
    subst h2
    rw [t2 _ (wnFd_in eg), wn_bE, wn_u2 u2]
    rfl
  split at h
  · rename_i g eg
    have h := Option.some.inj h
    injection h with h1 h2
    subst h1
    subst h2
    rw [t3 _ (wnFd_in eg), wn_bE, wn_s2 u2]
    rfl
  split at h
  · rename_i eb
    have eb := Nat.eq_of_beq_eq_true eb
    have h := Option.some.inj h
    injection h with h1 h2
    subst h1
    subst h2
    rw [eb, t5, wn_bE, v1]
    show (Jvm.ClassFile.Reader.s1 >>= fun y => Pure.pure (Instr.iinc c.toNat y) : Decoder Instr).runAt C (pc + 1 + 1) = _
    rw [wn_bE, wn_s1 v2]
    rfl
  · cases h
def wnI (l : List UInt8) (i : Instr) (len : Nat) : Bool := match wnX l with
  | some (j, n) => decide (j = i) && Nat.beq n len
  | none => false
theorem wnI_ok {C : ByteArray} {pc len : Nat} {i : Instr} (h : wnI (C.data.toList.drop pc) i len = true) : decode C pc = .ok (i, len) := by
  unfold wnI at h
  split at h
  · rename_i j n e
    rw [Bool.and_eq_true] at h
    have e1 := of_decide_eq_true h.1
    have e2 := Nat.eq_of_beq_eq_true h.2
    subst e1
    subst e2
    exact wnX_ok e
  · cases h
def wnC (mi : Nat) : List UInt8 := (zmCode mi).data.toList
def wnB (code : List UInt8) : Nat → List UInt8 → List zRow → Bool
  | _, _, [] => true
  | pos, l, q :: b => match Nat.beq q.1 pos with
    | true => wnI l q.2.1 q.2.2.1 && wnB code (q.1 + q.2.2.1) (l.drop q.2.2.1) b
    | false => wnI (code.drop q.1) q.2.1 q.2.2.1 && wnB code (q.1 + q.2.2.1) (code.drop (q.1 + q.2.2.1)) b
theorem wnB_ok {C : ByteArray} {b : List zRow} {pos : Nat} (h : wnB C.data.toList pos (C.data.toList.drop pos) b = true) : ∀ q ∈ b, decode C q.1 = .ok (q.2.1, q.2.2.1) := by
  induction b generalizing pos with
  | nil => intro q hq; cases hq
  | cons a b ih =>
    unfold wnB at h
    have key : wnI (C.data.toList.drop a.1) a.2.1 a.2.2.1 = true ∧ wnB C.data.toList (a.1 + a.2.2.1) (C.data.toList.drop (a.1 + a.2.2.1)) b = true := by
      split at h
      · rename_i e
        have e := Nat.eq_of_beq_eq_true e
        subst e
        rw [Bool.and_eq_true, List.drop_drop] at h
        exact h
      · rw [Bool.and_eq_true] at h
        exact h
    intro q hq
    cases hq with
    | head => exact wnI_ok key.1
    | tail _ hq => exact ih key.2 q hq
def zRw (mi : Nat) (b : List zRow) : Bool := wnB (wnC mi) 0 (wnC mi) b && b.all (fun q => zLnOk q.2.1 q.2.2.1 && (zAxOk (zmC mi) (zIsI mi) q.2.1 q.2.2.2 && zAx2 q.2.1 q.2.2.2))
theorem zRw_ok {mi : Nat} {b : List zRow} (h : zRw mi b = true) : zRk mi b = true := by
  unfold zRw at h
  unfold zRk
  rw [Bool.and_eq_true] at h
  have hb := wnB_ok (C := zmCode mi) (pos := 0) h.1
  have h2 := List.all_eq_true.mp h.2
  rw [List.all_eq_true]
  intro q hq
  rw [Bool.and_eq_true]
  refine ⟨?_, h2 q hq⟩
  rw [hb q hq]
  exact decide_eq_true rfl
theorem zCk1_w {mi pc : Nat} {i : Instr} {k cl n : Nat} (h : (wnI ((wnC mi).drop pc) i 3 && (zIsCall i k && (zAxOk (zmC mi) (zIsI mi) i (k, 0, 0) && (Nat.blt k 295 && (!Nat.beq (zmC k) 14 && (Nat.beq (zmC k) cl && Nat.beq n (zNa i k))))))) = true) : zCk1 mi pc i k cl n = true := by
  unfold zCk1
  rw [Bool.and_eq_true] at h ⊢
  refine ⟨?_, h.2⟩
  rw [wnI_ok (C := zmCode mi) h.1]
  exact decide_eq_true rfl
theorem zRe1_w {mi pc : Nat} {i : Instr} {ty : Option FieldType} (h : (wnI ((wnC mi).drop pc) i 1 && decide (zmRet mi = ty)) = true) : zRe1 mi pc i ty = true := by
  unfold zRe1
  rw [Bool.and_eq_true] at h ⊢
  refine ⟨?_, h.2⟩
  rw [wnI_ok (C := zmCode mi) h.1]
  exact decide_eq_true rfl
end WN
end
