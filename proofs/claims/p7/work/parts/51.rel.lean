/-! What the class's heap and the model's tell of one another. -/
theorem mset_ne {h : zHM} {k : Nat} {i v : Int} {k' : Nat} {i' : Int} (hn : ¬ (k' = k ∧ i' = i)) : mset h k i v k' i' = h k' i' := if_neg hn
theorem mset_eq {h : zHM} {k : Nat} {i v : Int} : mset h k i v k i = v := if_pos ⟨rfl, rfl⟩
theorem mset_eq' {h : zHM} {k : Nat} {i v : Int} {i' : Int} (hn : i' = i) : mset h k i v k i' = v := if_pos ⟨rfl, hn⟩
theorem hset_ne {h : zHC} {r : Nat} {n i v : Int} {r' : Nat} {n' i' : Int} (hn : ¬ (r' = r ∧ n' = n ∧ i' = i)) : hset h r n i v r' n' i' = h r' n' i' := if_neg hn
theorem hset_eq {h : zHC} {r : Nat} {n i v : Int} : hset h r n i v r n i = v := if_pos ⟨rfl, rfl, rfl⟩
theorem hset_eq' {h : zHC} {r : Nat} {n i v : Int} {i' : Int} (hn : i' = i) : hset h r n i v r n i' = v := if_pos ⟨rfl, rfl, hn⟩
theorem zFu_big : 1000000 < zFu := by decide
/-! words: letters 1 to 26, at most 7 -/
def zPk (b : Int) : List Int → Int
  | [] => 0
  | d :: r => d + b * zPk b r
def WR (x y : Int) : Prop := ∃ l : List Int, l.length ≤ 7 ∧ 1 ≤ l.length ∧ (∀ d ∈ l, 1 ≤ d ∧ d ≤ 26) ∧ x = zPk 32 l ∧ y = zPk 27 l
/-! the valley -/
def VN (h : zHC) (i : Int) (a : Int → Int) : Prop := h 576 i 0 = a 0 ∧ h 577 i 0 = a 1 ∧ h 578 i 0 = a 2 ∧ h 579 i 0 = a 3 ∧ h 580 i 0 = a 4 ∧ h 581 i 0 = a 5 ∧ h 582 i 0 = a 6
def VC (h : zHC) (i : Int) (a : Int → Int) : Prop := ∀ c, 0 ≤ c → c < a 2 → h 584 i c = a (7 + 3 * c) ∧ h 585 i c = a (7 + 3 * c + 1) ∧ h 586 i c = a (7 + 3 * c + 2)
def VP (h : zHC) (i : Int) (a : Int → Int) : Prop := ∀ p, 0 ≤ p → p < a 3 → h 588 i p = a (25 + 2 * p) ∧ h 589 i p = a (25 + 2 * p + 1)
def VM (h : zHC) (i : Int) (a : Int → Int) : Prop := ∀ k, 0 ≤ k → k < a 4 → h 591 i k = a (37 + 3 * k) ∧ h 590 i k = a (37 + 3 * k + 1) ∧ h 592 i k = a (37 + 3 * k + 2)
def VF (h : zHC) (i : Int) (a : Int → Int) : Prop := ∀ x, 0 ≤ x → x < 100 → (0 < a (97 + x) ↔ ∃ k, 0 ≤ k ∧ k < a 5 ∧ h 593 i k = x)
def VS (h : zHC) (i : Int) (a : Int → Int) : Prop := ∀ k, 0 ≤ k → k < a 6 → h 594 i k = a (197 + 2 * k) ∧ h 595 i k = a (197 + 2 * k + 1)
def VQ (h : zHC) (i : Int) (a nm : Int → Int) : Prop := (∀ c, 0 ≤ c → c < a 2 → WR (h 583 i c) (nm c)) ∧ (∀ p, 0 ≤ p → p < a 3 → WR (h 587 i p) (nm (6 + p)))
def WN (a : Int → Int) : Prop := 0 ≤ a 0 ∧ a 0 ≤ 10 ∧ 0 ≤ a 1 ∧ a 1 ≤ 10 ∧ 0 ≤ a 2 ∧ a 2 ≤ 6 ∧ 0 ≤ a 3 ∧ a 3 ≤ 6 ∧ 0 ≤ a 4 ∧ a 4 ≤ 20 ∧ 0 ≤ a 5 ∧ a 5 ≤ 8 ∧ 0 ≤ a 6 ∧ a 6 ≤ 6
def WC (a : Int → Int) : Prop := ∀ c, 0 ≤ c → c < a 2 → 0 ≤ a (7 + 3 * c) ∧ a (7 + 3 * c) < 100 ∧ 1 ≤ a (7 + 3 * c + 1) ∧ a (7 + 3 * c + 1) ≤ 40 ∧ 1 ≤ a (7 + 3 * c + 2) ∧ a (7 + 3 * c + 2) ≤ 9
def WP (a : Int → Int) : Prop := ∀ p, 0 ≤ p → p < a 3 → 0 ≤ a (25 + 2 * p) ∧ a (25 + 2 * p) < 100 ∧ -1 ≤ a (25 + 2 * p + 1) ∧ a (25 + 2 * p + 1) < 100
def WM (a : Int → Int) : Prop := ∀ k, 0 ≤ k → k < a 4 → 0 ≤ a (37 + 3 * k) ∧ a (37 + 3 * k) < a 3 ∧ 1 ≤ a (37 + 3 * k + 1) ∧ a (37 + 3 * k + 1) ≤ 200 ∧ 0 ≤ a (37 + 3 * k + 2) ∧ a (37 + 3 * k + 2) < 100
def WS (a : Int → Int) : Prop := ∀ k, 0 ≤ k → k < a 6 → 0 ≤ a (197 + 2 * k) ∧ a (197 + 2 * k) ≤ 200 ∧ 0 ≤ a (197 + 2 * k + 1) ∧ a (197 + 2 * k + 1) ≤ 9 ∧ ∀ j, 0 ≤ j → j < k → a (197 + 2 * j) ≠ a (197 + 2 * k)
def VW (a : Int → Int) : Prop := WN a ∧ WC a ∧ WP a ∧ WM a ∧ WS a
def VR (h : zHC) (i : Int) (a nm : Int → Int) : Prop := VN h i a ∧ VC h i a ∧ VP h i a ∧ VM h i a ∧ VF h i a ∧ VS h i a ∧ VQ h i a nm ∧ VW a
theorem VW_cong {a a' : Int → Int} (ha : ∀ k, 0 ≤ k → k < 209 → a' k = a k) (h : VW a) : VW a' := by
  obtain ⟨⟨q1, q2, q3, q4, q5, q6, q7, q8, q9, q10, q11, q12, q13, q14⟩, hc, hp, hm, hs⟩ := h
  have e0 := ha 0 (by decide) (by decide)
  have e1 := ha 1 (by decide) (by decide)
  have e2 := ha 2 (by decide) (by decide)
  have e3 := ha 3 (by decide) (by decide)
  have e4 := ha 4 (by decide) (by decide)
  have e5 := ha 5 (by decide) (by decide)
  have e6 := ha 6 (by decide) (by decide)
  refine ⟨?_, ?_, ?_, ?_, ?_⟩
  · unfold WN
    rw [e0, e1, e2, e3, e4, e5, e6]
    exact ⟨q1, q2, q3, q4, q5, q6, q7, q8, q9, q10, q11, q12, q13, q14⟩
  · intro c h0 h1
    rw [e2] at h1
    rw [ha (7 + 3 * c) (by omega) (by omega), ha (7 + 3 * c + 1) (by omega) (by omega), ha (7 + 3 * c + 2) (by omega) (by omega)]
    exact hc c h0 h1
  · intro c h0 h1
    rw [e3] at h1
    rw [ha (25 + 2 * c) (by omega) (by omega), ha (25 + 2 * c + 1) (by omega) (by omega)]
    exact hp c h0 h1
  · intro c h0 h1
    rw [e4] at h1
    rw [e3, ha (37 + 3 * c) (by omega) (by omega), ha (37 + 3 * c + 1) (by omega) (by omega), ha (37 + 3 * c + 2) (by omega) (by omega)]
    exact hm c h0 h1
  · intro c h0 h1
    rw [e6] at h1
    rw [ha (197 + 2 * c) (by omega) (by omega), ha (197 + 2 * c + 1) (by omega) (by omega)]
    obtain ⟨w1, w2, w3, w4, w5⟩ := hs c h0 h1
    refine ⟨w1, w2, w3, w4, fun j j0 j1 => ?_⟩
    rw [ha (197 + 2 * j) (by omega) (by omega)]
    exact w5 j j0 j1
theorem VR_cong {h h' : zHC} {i i' : Int} {a a' nm nm' : Int → Int} (h0 : ∀ r, 576 ≤ r → r ≤ 582 → h' r i' 0 = h r i 0) (h1 : ∀ r j, 583 ≤ r → r ≤ 589 → 0 ≤ j → j < 6 → h' r i' j = h r i j) (h2 : ∀ r j, 590 ≤ r → r ≤ 592 → 0 ≤ j → j < 20 → h' r i' j = h r i j) (h3 : ∀ j, 0 ≤ j → j < 8 → h' 593 i' j = h 593 i j) (h4 : ∀ r j, 594 ≤ r → r ≤ 595 → 0 ≤ j → j < 6 → h' r i' j = h r i j) (ha : ∀ k, 0 ≤ k → k < 209 → a' k = a k) (hn : ∀ k, 0 ≤ k → k < 12 → nm' k = nm k) (h : VR h i a nm) : VR h' i' a' nm' := by
  obtain ⟨hN, hC, hP, hM, hF, hS, hQ, hW⟩ := h
  have hW' := VW_cong ha hW
  obtain ⟨⟨q1, q2, q3, q4, q5, q6, q7, q8, q9, q10, q11, q12, q13, q14⟩, -, -, -, -⟩ := hW
  have e0 := ha 0 (by decide) (by decide)
  have e1 := ha 1 (by decide) (by decide)
  have e2 := ha 2 (by decide) (by decide)
  have e3 := ha 3 (by decide) (by decide)
  have e4 := ha 4 (by decide) (by decide)
  have e5 := ha 5 (by decide) (by decide)
  have e6 := ha 6 (by decide) (by decide)
  refine ⟨?_, ?_, ?_, ?_, ?_, ?_, ?_, hW'⟩
  · unfold VN
    rw [e0, e1, e2, e3, e4, e5, e6, h0 576 (by decide) (by decide), h0 577 (by decide) (by decide), h0 578 (by decide) (by decide), h0 579 (by decide) (by decide), h0 580 (by decide) (by decide), h0 581 (by decide) (by decide), h0 582 (by decide) (by decide)]
    exact hN
  · intro c g0 g1
    rw [e2] at g1
    rw [ha (7 + 3 * c) (by omega) (by omega), ha (7 + 3 * c + 1) (by omega) (by omega), ha (7 + 3 * c + 2) (by omega) (by omega), h1 584 c (by decide) (by decide) g0 (by omega), h1 585 c (by decide) (by decide) g0 (by omega), h1 586 c (by decide) (by decide) g0 (by omega)]
    exact hC c g0 g1
  · intro c g0 g1
    rw [e3] at g1
    rw [ha (25 + 2 * c) (by omega) (by omega), ha (25 + 2 * c + 1) (by omega) (by omega), h1 588 c (by decide) (by decide) g0 (by omega), h1 589 c (by decide) (by decide) g0 (by omega)]
    exact hP c g0 g1
  · intro c g0 g1
    rw [e4] at g1
    rw [ha (37 + 3 * c) (by omega) (by omega), ha (37 + 3 * c + 1) (by omega) (by omega), ha (37 + 3 * c + 2) (by omega) (by omega), h2 590 c (by decide) (by decide) g0 (by omega), h2 591 c (by decide) (by decide) g0 (by omega), h2 592 c (by decide) (by decide) g0 (by omega)]
    exact hM c g0 g1
  · intro x g0 g1
    rw [ha (97 + x) (by omega) (by omega), e5]
    refine (hF x g0 g1).trans ?_
    constructor
    · rintro ⟨k, k0, k1, k2⟩
      exact ⟨k, k0, k1, by rw [h3 k k0 (by omega)]; exact k2⟩
    · rintro ⟨k, k0, k1, k2⟩
      exact ⟨k, k0, k1, by rw [← h3 k k0 (by omega)]; exact k2⟩
  · intro c g0 g1
    rw [e6] at g1
    rw [ha (197 + 2 * c) (by omega) (by omega), ha (197 + 2 * c + 1) (by omega) (by omega), h4 594 c (by decide) (by decide) g0 (by omega), h4 595 c (by decide) (by decide) g0 (by omega)]
    exact hS c g0 g1
  · constructor
    · intro c g0 g1
      rw [e2] at g1
      rw [hn c g0 (by omega), h1 583 c (by decide) (by decide) g0 (by omega)]
      exact hQ.1 c g0 g1
    · intro c g0 g1
      rw [e3] at g1
      rw [hn (6 + c) (by omega) (by omega), h1 587 c (by decide) (by decide) g0 (by omega)]
      exact hQ.2 c g0 g1
theorem VR_keep {h h' : zHC} {i : Int} {a a' nm nm' : Int → Int} (hh : ∀ r j, 576 ≤ r → r ≤ 595 → h' r i j = h r i j) (ha : ∀ k, 0 ≤ k → k < 209 → a' k = a k) (hn : ∀ k, 0 ≤ k → k < 12 → nm' k = nm k) (h : VR h i a nm) : VR h' i a' nm' :=
  VR_cong (fun r g0 g1 => hh r 0 (by omega) (by omega)) (fun r j g0 g1 _ _ => hh r j (by omega) (by omega)) (fun r j g0 g1 _ _ => hh r j (by omega) (by omega)) (fun j _ _ => hh 593 j (by decide) (by decide)) (fun r j g0 g1 _ _ => hh r j (by omega) (by omega)) ha hn h
/-! the course -/
def zsum (f : Int → Int) : Nat → Int
  | 0 => 0
  | n + 1 => zsum f n + f n
def zcnt (f : Int → Int) (s : Int) : Nat → Int
  | 0 => 0
  | n + 1 => zcnt f s n + (if f n = s then 1 else 0)
theorem zsum_cong {f g : Int → Int} {n : Nat} (h : ∀ j : Int, 0 ≤ j → j < n → f j = g j) : zsum f n = zsum g n := by
  induction n with
  | zero => rfl
  | succ n ih =>
    unfold zsum
    rw [ih (fun j h0 h1 => h j h0 (by omega)), h n (by omega) (by omega)]
theorem zsum_upd {f g : Int → Int} {n : Nat} {k d : Int} (h0 : 0 ≤ k) (h1 : k < n) (hk : g k = f k + d) (h : ∀ j : Int, 0 ≤ j → j < n → j ≠ k → g j = f j) : zsum g n = zsum f n + d := by
  induction n with
  | zero => omega
  | succ n ih =>
    unfold zsum
    by_cases e : k = n
    · subst e
      rw [hk, zsum_cong (f := g) (g := f) (fun j j0 j1 => h j j0 (by omega) (by omega))]
      omega
    · rw [ih (by omega) (fun j j0 j1 j2 => h j j0 (by omega) j2), h n (by omega) (by omega) (fun q => e q.symm)]
      omega
theorem zsum_le {f : Int → Int} {n : Nat} {b : Int} (h : ∀ j : Int, 0 ≤ j → j < n → f j ≤ b) : zsum f n ≤ b * n := by
  induction n with
  | zero => exact Int.le_of_eq (by simp [zsum])
  | succ n ih =>
    unfold zsum
    have h1 := ih (fun j h0 h1 => h j h0 (by omega))
    have h2 := h n (by omega) (by omega)
    have h3 : b * ((n + 1 : Nat) : Int) = b * n + b := by
      rw [Int.natCast_add, Int.mul_add]
      simp
    omega
theorem zsum_lt {f : Int → Int} {n : Nat} {k b : Int} (h0 : 0 ≤ k) (h1 : k < n) (hk : f k < b) (h : ∀ j : Int, 0 ≤ j → j < n → f j ≤ b) : zsum f n < b * n := by
  have e := zsum_upd (f := f) (g := fun j => if j = k then f j + 1 else f j) (d := 1) h0 h1 (by simp) (fun j _ _ j2 => by simp [j2])
  have e2 := zsum_le (f := fun j => if j = k then f j + 1 else f j) (n := n) (b := b) (fun j j0 j1 => by
    by_cases q : j = k
    · simp only [q, if_true]; omega
    · simp only [q, if_false]; exact h j j0 j1)
  omega
theorem zcnt_cong {f g : Int → Int} {s : Int} {n : Nat} (h : ∀ j : Int, 0 ≤ j → j < n → f j = g j) : zcnt f s n = zcnt g s n := by
  induction n with
  | zero => rfl
  | succ n ih =>
    unfold zcnt
    rw [ih (fun j h0 h1 => h j h0 (by omega)), h n (by omega) (by omega)]
theorem zcnt_pos {f : Int → Int} {s : Int} {n : Nat} : 0 ≤ zcnt f s n := by
  induction n with
  | zero => exact Int.le_refl 0
  | succ n ih =>
    unfold zcnt
    split <;> omega
def RP (h : zHC) (i : Int) (a : Int → Int) : Prop := ∀ p, 0 ≤ p → p < a 3 → h 67 i p = a (210 + p) ∧ 0 ≤ a (210 + p) ∧ a (210 + p) < 100
def CF (h : zHC) (i k : Int) (a : Int → Int) (s : Int) : Prop := ∀ w, 0 ≤ w → w < 8 → h 70 i (k * 8 + w) = a (217 + 8 * s + w)
def CD (h : zHC) (i k : Int) (a : Int → Int) (s : Int) : Prop := ∀ c, 0 ≤ c → c < 6 → h 68 i (k * 6 + c) = (if a (457 + 18 * s + 3 * c) = 0 then -1 else a (457 + 18 * s + 3 * c)) ∧ (¬ a (457 + 18 * s + 3 * c) = 0 → h 69 i (k * 6 + c) = a (457 + 18 * s + 3 * c + 1))
def CS (h : zHC) (i k H : Int) : Prop := (∀ c, 0 ≤ c → c < 6 → H < h 68 i (k * 6 + c) → h 72 i k ≤ h 68 i (k * 6 + c)) ∧ (h 72 i k = 1000000 ∨ ∃ c, 0 ≤ c ∧ c < 6 ∧ h 68 i (k * 6 + c) = h 72 i k ∧ H < h 72 i k)
def SD (a : Int → Int) (s H C : Int) : Prop := ∀ c, 0 ≤ c → c < 6 → 0 ≤ a (457 + 18 * s + 3 * c) ∧ a (457 + 18 * s + 3 * c) ≤ H + 40 ∧ (¬ a (457 + 18 * s + 3 * c) = 0 → 1 ≤ a (457 + 18 * s + 3 * c + 1) ∧ a (457 + 18 * s + 3 * c + 1) ≤ 9) ∧ a (457 + 18 * s + 3 * c + 2) = (if ¬ a (457 + 18 * s + 3 * c) = 0 ∧ (a (457 + 18 * s + 3 * c) < H ∨ a (457 + 18 * s + 3 * c) = H ∧ c < C) then 1 else 0) ∧ (a 2 ≤ c → a (457 + 18 * s + 3 * c) = 0)
def SF (a : Int → Int) (s : Int) : Prop := (1 ≤ a (217 + 8 * s) ∧ a (217 + 8 * s) ≤ 99) ∧ (0 ≤ a (217 + 8 * s + 1) ∧ a (217 + 8 * s + 1) < 6) ∧ (0 ≤ a (217 + 8 * s + 2) ∧ a (217 + 8 * s + 2) ≤ 400) ∧ (0 ≤ a (217 + 8 * s + 3) ∧ a (217 + 8 * s + 3) < 100) ∧ (0 ≤ a (217 + 8 * s + 4) ∧ a (217 + 8 * s + 4) ≤ 9) ∧ (1 ≤ a (217 + 8 * s + 5) ∧ a (217 + 8 * s + 5) < 64) ∧ (0 ≤ a (217 + 8 * s + 6) ∧ a (217 + 8 * s + 6) ≤ a (457 + 18 * s + 3 * 0 + 2) + a (457 + 18 * s + 3 * 1 + 2) + a (457 + 18 * s + 3 * 2 + 2) + a (457 + 18 * s + 3 * 3 + 2) + a (457 + 18 * s + 3 * 4 + 2) + a (457 + 18 * s + 3 * 5 + 2)) ∧ (0 ≤ a (217 + 8 * s + 7) ∧ a (217 + 8 * s + 7) < 64)
def SW (a : Int → Int) (s H C : Int) : Prop := SD a s H C ∧ SF a s
def EB (a : Int → Int) : Prop := 0 ≤ a 997 ∧ a 997 = zsum (fun s => a (217 + 8 * s + 6)) (a 216).toNat
def LW (a : Int → Int) : Prop := (∀ j, 0 ≤ j → j < a 997 → (0 ≤ a (998 + 5 * j) ∧ a (998 + 5 * j) < a 216) ∧ (0 ≤ a (998 + 5 * j + 1) ∧ a (998 + 5 * j + 1) < a 2) ∧ (0 ≤ a (998 + 5 * j + 2) ∧ a (998 + 5 * j + 2) ≤ 400) ∧ (1 ≤ a (998 + 5 * j + 3) ∧ a (998 + 5 * j + 3) ≤ 9) ∧ (0 ≤ a (998 + 5 * j + 4) ∧ a (998 + 5 * j + 4) < 64)) ∧ ∀ s, 0 ≤ s → s < a 216 → zcnt (fun j => a (998 + 5 * j)) s (a 997).toNat = a (217 + 8 * s + 6)
def SYs (h : zHC) (i k : Int) (a : Int → Int) (s H : Int) : Prop := CF h i k a s ∧ CD h i k a s ∧ CS h i k H
/-- sayings from σ on are those of the class, from 0 on -/
def RC (h : zHC) (i : Int) (a : Int → Int) (σ : Int) : Prop := h 64 i 0 = a 209 ∧ h 65 i 0 + σ = a 216 ∧ 0 ≤ σ ∧ 0 ≤ h 65 i 0 ∧ 0 ≤ h 66 i 0 ∧ RP h i a ∧ ∀ k, 0 ≤ k → k < h 65 i 0 → SYs h i k a (σ + k) (a 209)
def RL (h : zHC) (i : Int) (a : Int → Int) : Prop := h 66 i 0 = a 997 ∧ ∀ j, 0 ≤ j → j < a 997 → ∀ w, 0 ≤ w → w < 5 → h 71 i (j * 5 + w) = a (998 + 5 * j + w)
def CW (a : Int → Int) : Prop := (0 ≤ a 209 ∧ a 209 ≤ 400) ∧ (0 ≤ a 216 ∧ a 216 ≤ 30) ∧ (∀ s, 0 ≤ s → s < a 216 → SW a s (a 209) 6) ∧ EB a ∧ LW a
/-! distances -/
def zD (a b : Int) : Int := (if a / 10 - b / 10 < 0 then -(a / 10 - b / 10) else a / 10 - b / 10) + (if a % 10 - b % 10 < 0 then -(a % 10 - b % 10) else a % 10 - b % 10)
theorem zD_comm {a b : Int} : zD a b = zD b a := by
  unfold zD
  split <;> split <;> split <;> split <;> omega
theorem zD_rng {a b : Int} (a0 : 0 ≤ a) (a1 : a < 100) (b0 : 0 ≤ b) (b1 : b < 100) : 0 ≤ zD a b ∧ zD a b ≤ 18 := by
  unfold zD
  split <;> split <;> omega
theorem F83_s {a b : Int} (a0 : 0 ≤ a) (a1 : a < 100) (b0 : 0 ≤ b) (b1 : b < 100) : F83 a b = some (zD a b) := by
  unfold F83 zD
  rw [wdiv_eq a0 (by omega) (by decide) (by decide), wdiv_eq b0 (by omega) (by decide) (by decide), wrem_eq a0 (by omega) (by decide) (by decide), wrem_eq b0 (by omega) (by decide) (by decide), wsub_eq (by omega) (by omega), wsub_eq (by omega) (by omega), wneg_eq (by omega) (by omega), wneg_eq (by omega) (by omega)]
  split <;> split <;> rw [wadd_eq (by omega) (by omega)]
theorem F231_s {x : Int} (h0 : -1000 ≤ x) (h1 : x ≤ 1000) : F231 x = some (if x < 0 then -x else x) := by
  unfold F231
  by_cases q : x < 0
  · rw [if_neg (by omega), if_pos q, wneg_eq (by omega) (by omega)]
  · rw [if_pos (by omega), if_neg q]
theorem F230_s {a b : Int} (a0 : 0 ≤ a) (a1 : a < 100) (b0 : 0 ≤ b) (b1 : b < 100) : F230 a b = some (zD a b) := by
  unfold F230 zD
  rw [wdiv_eq a0 (by omega) (by decide) (by decide), wdiv_eq b0 (by omega) (by decide) (by decide), wrem_eq a0 (by omega) (by decide) (by decide), wrem_eq b0 (by omega) (by decide) (by decide), wsub_eq (by omega) (by omega), wsub_eq (by omega) (by omega), F231_s (by omega) (by omega), F231_s (by omega) (by omega)]
  show some (wadd _ _) = _
  split <;> split <;> rw [wadd_eq (by omega) (by omega), Int.add_comm]
