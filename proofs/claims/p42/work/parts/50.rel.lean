section
/-! Arithmetic in range. -/
theorem wadd_eq {x y : Int} (h1 : -2147483648 ≤ x + y) (h2 : x + y < 2147483648) : wadd x y = x + y := by
  unfold wadd
  rw [← Int32.ofInt_add]
  exact Int32.toInt_ofInt_of_le h1 h2
theorem wsub_eq {x y : Int} (h1 : -2147483648 ≤ x - y) (h2 : x - y < 2147483648) : wsub x y = x - y := by
  unfold wsub
  rw [← Int32.ofInt_sub]
  exact Int32.toInt_ofInt_of_le h1 h2
theorem wmul_eq {x y : Int} (h1 : -2147483648 ≤ x * y) (h2 : x * y < 2147483648) : wmul x y = x * y := by
  unfold wmul
  rw [← Int32.ofInt_mul]
  exact Int32.toInt_ofInt_of_le h1 h2
theorem wdiv_eq {x y : Int} (h1 : 0 ≤ x) (h2 : x < 2147483648) (h3 : 0 < y) (h4 : y < 2147483648) : wdiv x y = x / y := by
  have e : x / y ≤ x := Int.ediv_le_self y h1
  have e0 : 0 ≤ x / y := Int.ediv_nonneg h1 (by omega)
  unfold wdiv
  rw [← Int32.ofInt_tdiv (by show (-2147483648 : Int) ≤ x; omega) (by show x ≤ (2147483647 : Int); omega) (by show (-2147483648 : Int) ≤ y; omega) (by show y ≤ (2147483647 : Int); omega), Int.tdiv_eq_ediv_of_nonneg h1]
  exact Int32.toInt_ofInt_of_le (by omega) (by omega)
theorem wrem_eq {x y : Int} (h1 : 0 ≤ x) (h2 : x < 2147483648) (h3 : 0 < y) (h4 : y < 2147483648) : wrem x y = x % y := by
  have e1 : 0 ≤ x % y := Int.emod_nonneg x (by omega)
  have e2 : x % y < y := Int.emod_lt_of_pos x h3
  unfold wrem
  rw [← Int32.ofInt_tdiv (by show (-2147483648 : Int) ≤ x; omega) (by show x ≤ (2147483647 : Int); omega) (by show (-2147483648 : Int) ≤ y; omega) (by show y ≤ (2147483647 : Int); omega), Int.tdiv_eq_ediv_of_nonneg h1, ← Int32.ofInt_mul, ← Int32.ofInt_sub]
  have e3 : x - x / y * y = x % y := by rw [Int.emod_def, Int.mul_comm]
  rw [e3]
  exact Int32.toInt_ofInt_of_le (by omega) (by omega)
theorem wneg_eq {x : Int} (h1 : -2147483648 < x) (h2 : x < 2147483648) : wneg x = -x := by
  unfold wneg
  rw [← Int32.ofInt_neg]
  exact Int32.toInt_ofInt_of_le (by omega) (by omega)
theorem qadd_eq {x y : Int} (h1 : -9223372036854775808 ≤ x + y) (h2 : x + y < 9223372036854775808) : qadd x y = x + y := by
  unfold qadd
  rw [← Int64.ofInt_add]
  exact Int64.toInt_ofInt_of_le h1 h2
theorem qsub_eq {x y : Int} (h1 : -9223372036854775808 ≤ x - y) (h2 : x - y < 9223372036854775808) : qsub x y = x - y := by
  unfold qsub
  rw [← Int64.ofInt_sub]
  exact Int64.toInt_ofInt_of_le h1 h2
theorem qmul_eq {x y : Int} (h1 : -9223372036854775808 ≤ x * y) (h2 : x * y < 9223372036854775808) : qmul x y = x * y := by
  unfold qmul
  rw [← Int64.ofInt_mul]
  exact Int64.toInt_ofInt_of_le h1 h2
theorem qdiv_eq {x y : Int} (h1 : 0 ≤ x) (h2 : x < 9223372036854775808) (h3 : 0 < y) (h4 : y < 9223372036854775808) : qdiv x y = x / y := by
  have e : x / y ≤ x := Int.ediv_le_self y h1
  have e0 : 0 ≤ x / y := Int.ediv_nonneg h1 (by omega)
  unfold qdiv
  rw [← Int64.ofInt_tdiv (by show (-9223372036854775808 : Int) ≤ x; omega) (by show x ≤ (9223372036854775807 : Int); omega) (by show (-9223372036854775808 : Int) ≤ y; omega) (by show y ≤ (9223372036854775807 : Int); omega), Int.tdiv_eq_ediv_of_nonneg h1]
  exact Int64.toInt_ofInt_of_le (by omega) (by omega)
theorem qrem_eq {x y : Int} (h1 : 0 ≤ x) (h2 : x < 9223372036854775808) (h3 : 0 < y) (h4 : y < 9223372036854775808) : qrem x y = x % y := by
  have e1 : 0 ≤ x % y := Int.emod_nonneg x (by omega)
  have e2 : x % y < y := Int.emod_lt_of_pos x h3
  unfold qrem
  rw [← Int64.ofInt_tdiv (by show (-9223372036854775808 : Int) ≤ x; omega) (by show x ≤ (9223372036854775807 : Int); omega) (by show (-9223372036854775808 : Int) ≤ y; omega) (by show y ≤ (9223372036854775807 : Int); omega), Int.tdiv_eq_ediv_of_nonneg h1, ← Int64.ofInt_mul, ← Int64.ofInt_sub]
  have e3 : x - x / y * y = x % y := by rw [Int.emod_def, Int.mul_comm]
  rw [e3]
  exact Int64.toInt_ofInt_of_le (by omega) (by omega)
theorem wl2i_eq {x : Int} (h1 : -2147483648 ≤ x) (h2 : x < 2147483648) : wl2i x = x := by
  unfold wl2i
  rw [Int64.toInt_toInt32, Int64.toInt_ofInt_of_le (by omega) (by omega)]
  exact Int.bmod_eq_of_le (by omega) (by omega)
theorem qcmp_0 {x y : Int} : qcmp x y = 0 ↔ x = y := by
  unfold qcmp
  constructor
  · intro h
    split at h
    · cases h
    · split at h
      · assumption
      · cases h
  · intro h
    subst h
    rw [if_neg (by omega), if_pos rfl]
theorem i32_nat {v : Int32} {n : Nat} (h : v.toBitVec.toNat = n) (hn : n < 2147483648) : v.toInt = n := by
  rw [← Int32.toInt_toBitVec, BitVec.toInt_eq_toNat_of_lt (by rw [h]; omega), h]
theorem i64_nat {v : Int64} {n : Nat} (h : v.toBitVec.toNat = n) (hn : n < 9223372036854775808) : v.toInt = n := by
  rw [← Int64.toInt_toBitVec, BitVec.toInt_eq_toNat_of_lt (by rw [h]; omega), h]
theorem i32_of {x : Int} (h0 : 0 ≤ x) (h1 : x < 2147483648) : (Int32.ofInt x).toBitVec.toNat = x.toNat := by
  rw [Int32.toBitVec_ofInt, BitVec.toNat_ofInt, Int.emod_eq_of_lt h0 (by omega)]
theorem i64_of {x : Int} (h0 : 0 ≤ x) (h1 : x < 9223372036854775808) : (Int64.ofInt x).toBitVec.toNat = x.toNat := by
  rw [Int64.toBitVec_ofInt, BitVec.toNat_ofInt, Int.emod_eq_of_lt h0 (by omega)]
theorem wand_rng {x y : Int} (h0 : 0 ≤ y) (h1 : y < 2147483648) : 0 ≤ wand x y ∧ wand x y ≤ y := by
  have e : ((Int32.ofInt x &&& Int32.ofInt y).toBitVec).toNat = (Int32.ofInt x).toBitVec.toNat &&& (Int32.ofInt y).toBitVec.toNat := rfl
  have e2 := Nat.and_le_right (n := (Int32.ofInt x).toBitVec.toNat) (m := (Int32.ofInt y).toBitVec.toNat)
  have e3 := i32_of h0 h1
  unfold wand
  rw [i32_nat e (by omega)]
  omega
theorem wand_eq {x y : Int} (h0 : 0 ≤ x) (h1 : x < 2147483648) (h2 : 0 ≤ y) (h3 : y < 2147483648) : wand x y = ((x.toNat &&& y.toNat : Nat) : Int) := by
  have e : ((Int32.ofInt x &&& Int32.ofInt y).toBitVec).toNat = (Int32.ofInt x).toBitVec.toNat &&& (Int32.ofInt y).toBitVec.toNat := rfl
  have e2 := Nat.and_le_right (n := (Int32.ofInt x).toBitVec.toNat) (m := (Int32.ofInt y).toBitVec.toNat)
  unfold wand
  rw [i32_nat e (by have := i32_of h2 h3; omega), i32_of h0 h1, i32_of h2 h3]
theorem wand31 {x : Int} (h0 : 0 ≤ x) (h1 : x < 2147483648) : wand x 31 = x % 32 := by
  rw [wand_eq h0 h1 (by decide) (by decide)]
  have e : (31 : Int).toNat = 2 ^ 5 - 1 := by decide
  rw [e, Nat.and_two_pow_sub_one_eq_mod]
  omega
theorem wushr8_rng {x : Int} : 0 ≤ wushr x 8 ∧ wushr x 8 < 16777216 := by
  have e0 : (Int32.ofInt 8).toUInt32 &&& Int32.toUInt32 31 = 8 := by decide
  have e : (((Int32.ofInt x).toUInt32 >>> (8 : UInt32)).toInt32).toBitVec.toNat = (Int32.ofInt x).toUInt32.toNat >>> 8 := rfl
  have e2 : (Int32.ofInt x).toUInt32.toNat < 4294967296 := UInt32.toNat_lt _
  have e3 : (Int32.ofInt x).toUInt32.toNat >>> 8 < 16777216 := by
    rw [Nat.shiftRight_eq_div_pow]
    omega
  unfold wushr
  rw [e0, i32_nat e (by omega)]
  omega
theorem q_letter {x d : Int} (h0 : 0 ≤ x) (h1 : x < 1125899906842624) (h2 : 0 ≤ d) (h3 : d < 32) : qor (qshl x 5) d = 32 * x + d := by
  have e0 : (Int32.ofInt 5).toInt64 &&& 63 = 5 := by decide
  have e1 : (Int64.ofInt x <<< (5 : Int64)).toBitVec.toNat = ((Int64.ofInt x).toBitVec.toNat <<< 5) % 2 ^ 64 := by
    show ((Int64.ofInt x).toBitVec <<< ((5 : Int64).toBitVec.smod 64)).toNat = _
    have e : ((5 : Int64).toBitVec.smod 64) = 5#64 := by decide
    rw [e]
    show ((Int64.ofInt x).toBitVec <<< (5#64).toNat).toNat = _
    rw [BitVec.toNat_shiftLeft]
    rfl
  have e2 : (Int64.ofInt x <<< (5 : Int64)).toBitVec.toNat = x.toNat <<< 5 := by
    rw [e1, i64_of h0 (by omega), Nat.shiftLeft_eq]
    omega
  have e3 : (Int64.ofInt x <<< (5 : Int64)).toInt = 32 * x := by
    rw [i64_nat e2 (by rw [Nat.shiftLeft_eq]; omega), Nat.shiftLeft_eq]
    omega
  have e4 : qshl x 5 = 32 * x := by
    unfold qshl
    rw [e0, e3]
  have e5 : ((Int64.ofInt (32 * x) ||| Int64.ofInt d).toBitVec).toNat = (Int64.ofInt (32 * x)).toBitVec.toNat ||| (Int64.ofInt d).toBitVec.toNat := rfl
  have e6 : (Int64.ofInt (32 * x)).toBitVec.toNat ||| (Int64.ofInt d).toBitVec.toNat = 32 * x.toNat + d.toNat := by
    rw [i64_of (by omega) (by omega), i64_of h2 (by omega)]
    have e7 : (32 * x).toNat = x.toNat <<< 5 := by
      rw [Nat.shiftLeft_eq]
      omega
    rw [e7, ← Nat.shiftLeft_add_eq_or_of_lt (by omega), Nat.shiftLeft_eq]
    omega
  rw [e4]
  unfold qor
  rw [i64_nat (e5.trans e6) (by omega)]
  omega
/-- a property of all numbers of a range, by trying them -/
theorem z_all {p : Nat → Bool} {n : Nat} (h : (List.range n).all p = true) {x : Int} (h0 : 0 ≤ x) (h1 : x < n) : p x.toNat = true :=
  List.all_eq_true.mp h x.toNat (List.mem_range.mpr (by omega))
theorem zG_t {β : Type} {p : Prop} [Decidable p] {t : Option β} (h : p) : zG p t = t := if_pos h
theorem hset_a (h : zHC) (r : Nat) (n i v : Int) (r' : Nat) (n' i' : Int) : hset h r n i v r' n' i' = if r' = r ∧ n' = n ∧ i' = i then v else h r' n' i' := rfl
theorem mset_a (h : zHM) (k : Nat) (i v : Int) (k' : Nat) (i' : Int) : mset h k i v k' i' = if k' = k ∧ i' = i then v else h k' i' := rfl
theorem hcpy_a (h : zHC) (rd : Nat) (nd : Int) (rs : Nat) (ns sp dp n : Int) (r' : Nat) (n' i' : Int) : hcpy h rd nd rs ns sp dp n r' n' i' = if r' = rd ∧ n' = nd ∧ dp ≤ i' ∧ i' < dp + n then h rs ns (sp + (i' - dp)) else h r' n' i' := rfl
end
section
/-! What the class's heap and the model's tell of one another. -/
theorem mset_ne {h : zHM} {k : Nat} {i v : Int} {k' : Nat} {i' : Int} (hn : ¬ (k' = k ∧ i' = i)) : mset h k i v k' i' = h k' i' := if_neg hn
theorem mset_eq {h : zHM} {k : Nat} {i v : Int} : mset h k i v k i = v := if_pos ⟨rfl, rfl⟩
theorem mset_eq' {h : zHM} {k : Nat} {i v : Int} {i' : Int} (hn : i' = i) : mset h k i v k i' = v := if_pos ⟨rfl, hn⟩
theorem hset_ne {h : zHC} {r : Nat} {n i v : Int} {r' : Nat} {n' i' : Int} (hn : ¬ (r' = r ∧ n' = n ∧ i' = i)) : hset h r n i v r' n' i' = h r' n' i' := if_neg hn
theorem hset_eq {h : zHC} {r : Nat} {n i v : Int} : hset h r n i v r n i = v := if_pos ⟨rfl, rfl, rfl⟩
theorem hset_eq' {h : zHC} {r : Nat} {n i v : Int} {i' : Int} (hn : i' = i) : hset h r n i v r n i' = v := if_pos ⟨rfl, rfl, hn⟩
theorem zFu_big : 1000000 < zFu := by decide
/-! words: letters 1 to 26, at most 7 -/
def zPk (b : Int) : List Int → Int
  | [] => 0
  | d :: r => d + b * zPk b r
def WR (x y : Int) : Prop := ∃ l : List Int, l.length ≤ 7 ∧ 1 ≤ l.length ∧ (∀ d ∈ l, 1 ≤ d ∧ d ≤ 26) ∧ x = zPk 32 l ∧ y = zPk 27 l
/-! the valley -/
def VN (h : zHC) (i : Int) (a : Int → Int) : Prop := h 576 i 0 = a 0 ∧ h 577 i 0 = a 1 ∧ h 578 i 0 = a 2 ∧ h 579 i 0 = a 3 ∧ h 580 i 0 = a 4 ∧ h 581 i 0 = a 5 ∧ h 582 i 0 = a 6
def VC (h : zHC) (i : Int) (a : Int → Int) : Prop := ∀ c, 0 ≤ c → c < a 2 → h 584 i c = a (7 + 3 * c) ∧ h 585 i c = a (7 + 3 * c + 1) ∧ h 586 i c = a (7 + 3 * c + 2)
def VP (h : zHC) (i : Int) (a : Int → Int) : Prop := ∀ p, 0 ≤ p → p < a 3 → h 588 i p = a (25 + 2 * p) ∧ h 589 i p = a (25 + 2 * p + 1)
def VM (h : zHC) (i : Int) (a : Int → Int) : Prop := ∀ k, 0 ≤ k → k < a 4 → h 591 i k = a (37 + 3 * k) ∧ h 590 i k = a (37 + 3 * k + 1) ∧ h 592 i k = a (37 + 3 * k + 2)
def VF (h : zHC) (i : Int) (a : Int → Int) : Prop := ∀ x, 0 ≤ x → x < 100 → (0 < a (97 + x) ↔ ∃ k, 0 ≤ k ∧ k < a 5 ∧ h 593 i k = x)
def VS (h : zHC) (i : Int) (a : Int → Int) : Prop := ∀ k, 0 ≤ k → k < a 6 → h 594 i k = a (197 + 2 * k) ∧ h 595 i k = a (197 + 2 * k + 1)
def VQ (h : zHC) (i : Int) (a nm : Int → Int) : Prop := (∀ c, 0 ≤ c → c < a 2 → WR (h 583 i c) (nm c)) ∧ (∀ p, 0 ≤ p → p < a 3 → WR (h 587 i p) (nm (6 + p)))
def WN (a : Int → Int) : Prop := 0 ≤ a 0 ∧ a 0 ≤ 10 ∧ 0 ≤ a 1 ∧ a 1 ≤ 10 ∧ 0 ≤ a 2 ∧ a 2 ≤ 6 ∧ 0 ≤ a 3 ∧ a 3 ≤ 6 ∧ 0 ≤ a 4 ∧ a 4 ≤ 20 ∧ 0 ≤ a 5 ∧ a 5 ≤ 8 ∧ 0 ≤ a 6 ∧ a 6 ≤ 6
def WC (a : Int → Int) : Prop := ∀ c, 0 ≤ c → c < a 2 → 0 ≤ a (7 + 3 * c) ∧ a (7 + 3 * c) < 100 ∧ 1 ≤ a (7 + 3 * c + 1) ∧ a (7 + 3 * c + 1) ≤ 40 ∧ 1 ≤ a (7 + 3 * c + 2) ∧ a (7 + 3 * c + 2) ≤ 9
def WP (a : Int → Int) : Prop := ∀ p, 0 ≤ p → p < a 3 → 0 ≤ a (25 + 2 * p) ∧ a (25 + 2 * p) < 100 ∧ -1 ≤ a (25 + 2 * p + 1) ∧ a (25 + 2 * p + 1) < 100
def WM (a : Int → Int) : Prop := ∀ k, 0 ≤ k → k < a 4 → 0 ≤ a (37 + 3 * k) ∧ a (37 + 3 * k) < a 3 ∧ 1 ≤ a (37 + 3 * k + 1) ∧ a (37 + 3 * k + 1) ≤ 200 ∧ 0 ≤ a (37 + 3 * k + 2) ∧ a (37 + 3 * k + 2) < 100
def WS (a : Int → Int) : Prop := ∀ k, 0 ≤ k → k < a 6 → 0 ≤ a (197 + 2 * k) ∧ a (197 + 2 * k) ≤ 200 ∧ 0 ≤ a (197 + 2 * k + 1) ∧ a (197 + 2 * k + 1) ≤ 9 ∧ ∀ j, 0 ≤ j → j < k → a (197 + 2 * j) ≠ a (197 + 2 * k)
def VW (a : Int → Int) : Prop := WN a ∧ WC a ∧ WP a ∧ WM a ∧ WS a
def VR (h : zHC) (i : Int) (a nm : Int → Int) : Prop := VN h i a ∧ VC h i a ∧ VP h i a ∧ VM h i a ∧ VF h i a ∧ VS h i a ∧ VQ h i a nm ∧ VW a
theorem VW_cong {a a' : Int → Int} (ha : ∀ k, 0 ≤ k → k < 209 → a' k = a k) (h : VW a) : VW a' := by
  obtain ⟨⟨q1, q2, q3, q4, q5, q6, q7, q8, q9, q10, q11, q12, q13, q14⟩, hc, hp, hm, hs⟩ := h
  have e0 := ha 0 (by decide) (by decide)
  have e1 := ha 1 (by decide) (by decide)
  have e2 := ha 2 (by decide) (by decide)
  have e3 := ha 3 (by decide) (by decide)
  have e4 := ha 4 (by decide) (by decide)
  have e5 := ha 5 (by decide) (by decide)
  have e6 := ha 6 (by decide) (by decide)
  refine ⟨?_, ?_, ?_, ?_, ?_⟩
  · unfold WN
    rw [e0, e1, e2, e3, e4, e5, e6]
    exact ⟨q1, q2, q3, q4, q5, q6, q7, q8, q9, q10, q11, q12, q13, q14⟩
  · intro c h0 h1
    rw [e2] at h1
    rw [ha (7 + 3 * c) (by omega) (by omega), ha (7 + 3 * c + 1) (by omega) (by omega), ha (7 + 3 * c + 2) (by omega) (by omega)]
    exact hc c h0 h1
  · intro c h0 h1
    rw [e3] at h1
    rw [ha (25 + 2 * c) (by omega) (by omega), ha (25 + 2 * c + 1) (by omega) (by omega)]
    exact hp c h0 h1
  · intro c h0 h1
    rw [e4] at h1
    rw [e3, ha (37 + 3 * c) (by omega) (by omega), ha (37 + 3 * c + 1) (by omega) (by omega), ha (37 + 3 * c + 2) (by omega) (by omega)]
    exact hm c h0 h1
  · intro c h0 h1
    rw [e6] at h1
    rw [ha (197 + 2 * c) (by omega) (by omega), ha (197 + 2 * c + 1) (by omega) (by omega)]
    obtain ⟨w1, w2, w3, w4, w5⟩ := hs c h0 h1
    refine ⟨w1, w2, w3, w4, fun j j0 j1 => ?_⟩
    rw [ha (197 + 2 * j) (by omega) (by omega)]
    exact w5 j j0 j1
theorem VR_cong {h h' : zHC} {i i' : Int} {a a' nm nm' : Int → Int} (h0 : ∀ r, 576 ≤ r → r ≤ 582 → h' r i' 0 = h r i 0) (h1 : ∀ r j, 583 ≤ r → r ≤ 589 → 0 ≤ j → j < 6 → h' r i' j = h r i j) (h2 : ∀ r j, 590 ≤ r → r ≤ 592 → 0 ≤ j → j < 20 → h' r i' j = h r i j) (h3 : ∀ j, 0 ≤ j → j < 8 → h' 593 i' j = h 593 i j) (h4 : ∀ r j, 594 ≤ r → r ≤ 595 → 0 ≤ j → j < 6 → h' r i' j = h r i j) (ha : ∀ k, 0 ≤ k → k < 209 → a' k = a k) (hn : ∀ k, 0 ≤ k → k < 12 → nm' k = nm k) (h : VR h i a nm) : VR h' i' a' nm' := by
  obtain ⟨hN, hC, hP, hM, hF, hS, hQ, hW⟩ := h
  have hW' := VW_cong ha hW
  obtain ⟨⟨q1, q2, q3, q4, q5, q6, q7, q8, q9, q10, q11, q12, q13, q14⟩, -, -, -, -⟩ := hW
  have e0 := ha 0 (by decide) (by decide)
  have e1 := ha 1 (by decide) (by decide)
  have e2 := ha 2 (by decide) (by decide)
  have e3 := ha 3 (by decide) (by decide)
  have e4 := ha 4 (by decide) (by decide)
  have e5 := ha 5 (by decide) (by decide)
  have e6 := ha 6 (by decide) (by decide)
  refine ⟨?_, ?_, ?_, ?_, ?_, ?_, ?_, hW'⟩
  · unfold VN
    rw [e0, e1, e2, e3, e4, e5, e6, h0 576 (by decide) (by decide), h0 577 (by decide) (by decide), h0 578 (by decide) (by decide), h0 579 (by decide) (by decide), h0 580 (by decide) (by decide), h0 581 (by decide) (by decide), h0 582 (by decide) (by decide)]
    exact hN
  · intro c g0 g1
    rw [e2] at g1
    rw [ha (7 + 3 * c) (by omega) (by omega), ha (7 + 3 * c + 1) (by omega) (by omega), ha (7 + 3 * c + 2) (by omega) (by omega), h1 584 c (by decide) (by decide) g0 (by omega), h1 585 c (by decide) (by decide) g0 (by omega), h1 586 c (by decide) (by decide) g0 (by omega)]
    exact hC c g0 g1
  · intro c g0 g1
    rw [e3] at g1
    rw [ha (25 + 2 * c) (by omega) (by omega), ha (25 + 2 * c + 1) (by omega) (by omega), h1 588 c (by decide) (by decide) g0 (by omega), h1 589 c (by decide) (by decide) g0 (by omega)]
    exact hP c g0 g1
  · intro c g0 g1
    rw [e4] at g1
    rw [ha (37 + 3 * c) (by omega) (by omega), ha (37 + 3 * c + 1) (by omega) (by omega), ha (37 + 3 * c + 2) (by omega) (by omega), h2 590 c (by decide) (by decide) g0 (by omega), h2 591 c (by decide) (by decide) g0 (by omega), h2 592 c (by decide) (by decide) g0 (by omega)]
    exact hM c g0 g1
  · intro x g0 g1
    rw [ha (97 + x) (by omega) (by omega), e5]
    refine (hF x g0 g1).trans ?_
    constructor
    · rintro ⟨k, k0, k1, k2⟩
      exact ⟨k, k0, k1, by rw [h3 k k0 (by omega)]; exact k2⟩
    · rintro ⟨k, k0, k1, k2⟩
      exact ⟨k, k0, k1, by rw [← h3 k k0 (by omega)]; exact k2⟩
  · intro c g0 g1
    rw [e6] at g1
    rw [ha (197 + 2 * c) (by omega) (by omega), ha (197 + 2 * c + 1) (by omega) (by omega), h4 594 c (by decide) (by decide) g0 (by omega), h4 595 c (by decide) (by decide) g0 (by omega)]
    exact hS c g0 g1
  · constructor
    · intro c g0 g1
      rw [e2] at g1
      rw [hn c g0 (by omega), h1 583 c (by decide) (by decide) g0 (by omega)]
      exact hQ.1 c g0 g1
    · intro c g0 g1
      rw [e3] at g1
      rw [hn (6 + c) (by omega) (by omega), h1 587 c (by decide) (by decide) g0 (by omega)]
      exact hQ.2 c g0 g1
theorem VR_keep {h h' : zHC} {i : Int} {a a' nm nm' : Int → Int} (hh : ∀ r j, 576 ≤ r → r ≤ 595 → h' r i j = h r i j) (ha : ∀ k, 0 ≤ k → k < 209 → a' k = a k) (hn : ∀ k, 0 ≤ k → k < 12 → nm' k = nm k) (h : VR h i a nm) : VR h' i a' nm' :=
  VR_cong (fun r g0 g1 => hh r 0 (by omega) (by omega)) (fun r j g0 g1 _ _ => hh r j (by omega) (by omega)) (fun r j g0 g1 _ _ => hh r j (by omega) (by omega)) (fun j _ _ => hh 593 j (by decide) (by decide)) (fun r j g0 g1 _ _ => hh r j (by omega) (by omega)) ha hn h
/-! the course -/
def zsum (f : Int → Int) : Nat → Int
  | 0 => 0
  | n + 1 => zsum f n + f n
def zcnt (f : Int → Int) (s : Int) : Nat → Int
  | 0 => 0
  | n + 1 => zcnt f s n + (if f n = s then 1 else 0)
theorem zsum_cong {f g : Int → Int} {n : Nat} (h : ∀ j : Int, 0 ≤ j → j < n → f j = g j) : zsum f n = zsum g n := by
  induction n with
  | zero => rfl
  | succ n ih =>
    unfold zsum
    rw [ih (fun j h0 h1 => h j h0 (by omega)), h n (by omega) (by omega)]
theorem zsum_upd {f g : Int → Int} {n : Nat} {k d : Int} (h0 : 0 ≤ k) (h1 : k < n) (hk : g k = f k + d) (h : ∀ j : Int, 0 ≤ j → j < n → j ≠ k → g j = f j) : zsum g n = zsum f n + d := by
  induction n with
  | zero => omega
  | succ n ih =>
    unfold zsum
    by_cases e : k = n
    · subst e
      rw [hk, zsum_cong (f := g) (g := f) (fun j j0 j1 => h j j0 (by omega) (by omega))]
      omega
    · rw [ih (by omega) (fun j j0 j1 j2 => h j j0 (by omega) j2), h n (by omega) (by omega) (fun q => e q.symm)]
      omega
theorem zsum_le {f : Int → Int} {n : Nat} {b : Int} (h : ∀ j : Int, 0 ≤ j → j < n → f j ≤ b) : zsum f n ≤ b * n := by
  induction n with
  | zero => exact Int.le_of_eq (by simp [zsum])
  | succ n ih =>
    unfold zsum
    have h1 := ih (fun j h0 h1 => h j h0 (by omega))
    have h2 := h n (by omega) (by omega)
    have h3 : b * ((n + 1 : Nat) : Int) = b * n + b := by
      rw [Int.natCast_add, Int.mul_add]
      simp
    omega
theorem zsum_lt {f : Int → Int} {n : Nat} {k b : Int} (h0 : 0 ≤ k) (h1 : k < n) (hk : f k < b) (h : ∀ j : Int, 0 ≤ j → j < n → f j ≤ b) : zsum f n < b * n := by
  have e := zsum_upd (f := f) (g := fun j => if j = k then f j + 1 else f j) (d := 1) h0 h1 (by simp) (fun j _ _ j2 => by simp [j2])
  have e2 := zsum_le (f := fun j => if j = k then f j + 1 else f j) (n := n) (b := b) (fun j j0 j1 => by
    by_cases q : j = k
    · simp only [q, if_true]; omega
    · simp only [q, if_false]; exact h j j0 j1)
  omega
theorem zcnt_cong {f g : Int → Int} {s : Int} {n : Nat} (h : ∀ j : Int, 0 ≤ j → j < n → f j = g j) : zcnt f s n = zcnt g s n := by
  induction n with
  | zero => rfl
  | succ n ih =>
    unfold zcnt
    rw [ih (fun j h0 h1 => h j h0 (by omega)), h n (by omega) (by omega)]
theorem zcnt_pos {f : Int → Int} {s : Int} {n : Nat} : 0 ≤ zcnt f s n := by
  induction n with
  | zero => exact Int.le_refl 0
  | succ n ih =>
    unfold zcnt
    split <;> omega
def RP (h : zHC) (i : Int) (a : Int → Int) : Prop := ∀ p, 0 ≤ p → p < a 3 → h 67 i p = a (210 + p) ∧ 0 ≤ a (210 + p) ∧ a (210 + p) < 100
def CF (h : zHC) (i k : Int) (a : Int → Int) (s : Int) : Prop := ∀ w, 0 ≤ w → w < 8 → h 70 i (k * 8 + w) = a (217 + 8 * s + w)
def CD (h : zHC) (i k : Int) (a : Int → Int) (s : Int) : Prop := ∀ c, 0 ≤ c → c < 6 → h 68 i (k * 6 + c) = (if a (457 + 18 * s + 3 * c) = 0 then -1 else a (457 + 18 * s + 3 * c)) ∧ (¬ a (457 + 18 * s + 3 * c) = 0 → h 69 i (k * 6 + c) = a (457 + 18 * s + 3 * c + 1))
def CS (h : zHC) (i k H : Int) : Prop := (∀ c, 0 ≤ c → c < 6 → H < h 68 i (k * 6 + c) → h 72 i k ≤ h 68 i (k * 6 + c)) ∧ (h 72 i k = 1000000 ∨ ∃ c, 0 ≤ c ∧ c < 6 ∧ h 68 i (k * 6 + c) = h 72 i k ∧ H < h 72 i k)
def SD (a : Int → Int) (s H C : Int) : Prop := ∀ c, 0 ≤ c → c < 6 → 0 ≤ a (457 + 18 * s + 3 * c) ∧ a (457 + 18 * s + 3 * c) ≤ H + 40 ∧ (¬ a (457 + 18 * s + 3 * c) = 0 → 1 ≤ a (457 + 18 * s + 3 * c + 1) ∧ a (457 + 18 * s + 3 * c + 1) ≤ 9) ∧ a (457 + 18 * s + 3 * c + 2) = (if ¬ a (457 + 18 * s + 3 * c) = 0 ∧ (a (457 + 18 * s + 3 * c) < H ∨ a (457 + 18 * s + 3 * c) = H ∧ c < C) then 1 else 0) ∧ (a 2 ≤ c → a (457 + 18 * s + 3 * c) = 0)
def SF (a : Int → Int) (s : Int) : Prop := (1 ≤ a (217 + 8 * s) ∧ a (217 + 8 * s) ≤ 99) ∧ (0 ≤ a (217 + 8 * s + 1) ∧ a (217 + 8 * s + 1) < 6) ∧ (0 ≤ a (217 + 8 * s + 2) ∧ a (217 + 8 * s + 2) ≤ 400) ∧ (0 ≤ a (217 + 8 * s + 3) ∧ a (217 + 8 * s + 3) < 100) ∧ (0 ≤ a (217 + 8 * s + 4) ∧ a (217 + 8 * s + 4) ≤ 9) ∧ (1 ≤ a (217 + 8 * s + 5) ∧ a (217 + 8 * s + 5) < 64) ∧ (0 ≤ a (217 + 8 * s + 6) ∧ a (217 + 8 * s + 6) ≤ a (457 + 18 * s + 3 * 0 + 2) + a (457 + 18 * s + 3 * 1 + 2) + a (457 + 18 * s + 3 * 2 + 2) + a (457 + 18 * s + 3 * 3 + 2) + a (457 + 18 * s + 3 * 4 + 2) + a (457 + 18 * s + 3 * 5 + 2)) ∧ (0 ≤ a (217 + 8 * s + 7) ∧ a (217 + 8 * s + 7) < 64)
def SW (a : Int → Int) (s H C : Int) : Prop := SD a s H C ∧ SF a s
def EB (a : Int → Int) : Prop := 0 ≤ a 997 ∧ a 997 = zsum (fun s => a (217 + 8 * s + 6)) (a 216).toNat
def LW (a : Int → Int) : Prop := (∀ j, 0 ≤ j → j < a 997 → (0 ≤ a (998 + 5 * j) ∧ a (998 + 5 * j) < a 216) ∧ (0 ≤ a (998 + 5 * j + 1) ∧ a (998 + 5 * j + 1) < a 2) ∧ (0 ≤ a (998 + 5 * j + 2) ∧ a (998 + 5 * j + 2) ≤ 400) ∧ (1 ≤ a (998 + 5 * j + 3) ∧ a (998 + 5 * j + 3) ≤ 9) ∧ (0 ≤ a (998 + 5 * j + 4) ∧ a (998 + 5 * j + 4) < 64)) ∧ ∀ s, 0 ≤ s → s < a 216 → zcnt (fun j => a (998 + 5 * j)) s (a 997).toNat = a (217 + 8 * s + 6)
def SYs (h : zHC) (i k : Int) (a : Int → Int) (s H : Int) : Prop := CF h i k a s ∧ CD h i k a s ∧ CS h i k H
/-- sayings from σ on are those of the class, from 0 on -/
def RC (h : zHC) (i : Int) (a : Int → Int) (σ : Int) : Prop := h 64 i 0 = a 209 ∧ h 65 i 0 + σ = a 216 ∧ 0 ≤ σ ∧ 0 ≤ h 65 i 0 ∧ 0 ≤ h 66 i 0 ∧ RP h i a ∧ ∀ k, 0 ≤ k → k < h 65 i 0 → SYs h i k a (σ + k) (a 209)
def RL (h : zHC) (i : Int) (a : Int → Int) : Prop := h 66 i 0 = a 997 ∧ ∀ j, 0 ≤ j → j < a 997 → ∀ w, 0 ≤ w → w < 5 → h 71 i (j * 5 + w) = a (998 + 5 * j + w)
def CW (a : Int → Int) : Prop := (0 ≤ a 209 ∧ a 209 ≤ 400) ∧ (0 ≤ a 216 ∧ a 216 ≤ 30) ∧ (∀ s, 0 ≤ s → s < a 216 → SW a s (a 209) 6) ∧ EB a ∧ LW a
/-! distances -/
def zD (a b : Int) : Int := (if a / 10 - b / 10 < 0 then -(a / 10 - b / 10) else a / 10 - b / 10) + (if a % 10 - b % 10 < 0 then -(a % 10 - b % 10) else a % 10 - b % 10)
theorem zD_comm {a b : Int} : zD a b = zD b a := by
  unfold zD
  split <;> split <;> split <;> split <;> omega
theorem zD_rng {a b : Int} (a0 : 0 ≤ a) (a1 : a < 100) (b0 : 0 ≤ b) (b1 : b < 100) : 0 ≤ zD a b ∧ zD a b ≤ 18 := by
  unfold zD
  split <;> split <;> omega
theorem F83_s {a b : Int} (a0 : 0 ≤ a) (a1 : a < 100) (b0 : 0 ≤ b) (b1 : b < 100) : F83 a b = some (zD a b) := by
  unfold F83 zD
  rw [wdiv_eq a0 (by omega) (by decide) (by decide), wdiv_eq b0 (by omega) (by decide) (by decide), wrem_eq a0 (by omega) (by decide) (by decide), wrem_eq b0 (by omega) (by decide) (by decide), wsub_eq (by omega) (by omega), wsub_eq (by omega) (by omega), wneg_eq (by omega) (by omega), wneg_eq (by omega) (by omega)]
  split <;> split <;> rw [wadd_eq (by omega) (by omega)]
theorem F231_s {x : Int} (h0 : -1000 ≤ x) (h1 : x ≤ 1000) : F231 x = some (if x < 0 then -x else x) := by
  unfold F231
  by_cases q : x < 0
  · rw [if_neg (by omega), if_pos q, wneg_eq (by omega) (by omega)]
  · rw [if_pos (by omega), if_neg q]
theorem F230_s {a b : Int} (a0 : 0 ≤ a) (a1 : a < 100) (b0 : 0 ≤ b) (b1 : b < 100) : F230 a b = some (zD a b) := by
  unfold F230 zD
  rw [wdiv_eq a0 (by omega) (by decide) (by decide), wdiv_eq b0 (by omega) (by decide) (by decide), wrem_eq a0 (by omega) (by decide) (by decide), wrem_eq b0 (by omega) (by decide) (by decide), wsub_eq (by omega) (by omega), wsub_eq (by omega) (by omega), F231_s (by omega) (by omega), F231_s (by omega) (by omega)]
  show some (wadd _ _) = _
  split <;> split <;> rw [wadd_eq (by omega) (by omega), Int.add_comm]
end
section
/-! The course: what sounds, class and model side by side. -/
theorem F229_s {c : Int} {m : zHM} (h0 : 0 ≤ c) (h1 : c < 6) : F229 c m = some (m 14 (7 + 3 * c)) := by
  unfold F229
  rw [wmul_eq (by omega) (by omega), wadd_eq (by omega) (by omega), zG_t (by omega)]
theorem F232_s {c : Int} {m : zHM} (h0 : 0 ≤ c) (h1 : c < 6) : F232 c m = some (m 14 (7 + 3 * c + 1)) := by
  unfold F232
  rw [wmul_eq (by omega) (by omega), wadd_eq (x := 7) (by omega) (by omega), wadd_eq (by omega) (by omega), zG_t (by omega)]
theorem F207_s {c : Int} {m : zHM} (h0 : 0 ≤ c) (h1 : c < 6) : F207 c m = some (m 14 (7 + 3 * c + 2)) := by
  unfold F207
  rw [wmul_eq (by omega) (by omega), wadd_eq (x := 7) (by omega) (by omega), wadd_eq (by omega) (by omega), zG_t (by omega)]
theorem wor_rng {x y : Int} (h0 : 0 ≤ x) (h1 : x < 64) (h2 : 0 ≤ y) (h3 : y < 64) : 0 ≤ wor x y ∧ wor x y < 64 := by
  have e : ((Int32.ofInt x ||| Int32.ofInt y).toBitVec).toNat = (Int32.ofInt x).toBitVec.toNat ||| (Int32.ofInt y).toBitVec.toNat := rfl
  rw [i32_of h0 (by omega), i32_of h2 (by omega)] at e
  have e2 : x.toNat ||| y.toNat < 64 := Nat.or_lt_two_pow (n := 6) (show x.toNat < 64 by omega) (show y.toNat < 64 by omega)
  unfold wor
  rw [i32_nat e (by omega)]
  omega
theorem wor_shl {x p : Int} (h0 : 0 ≤ x) (h1 : x < 64) (h2 : 0 ≤ p) (h3 : p < 6) : 0 ≤ wor x (wshl 1 p) ∧ wor x (wshl 1 p) < 64 := by
  have k : (List.range 6).all (fun q => decide (0 ≤ wshl 1 (q : Int) ∧ wshl 1 (q : Int) < 64)) = true := by decide +kernel
  have e := of_decide_eq_true (z_all k (x := p) h2 (by omega))
  have e1 : ((p.toNat : Nat) : Int) = p := by omega
  rw [e1] at e
  exact wor_rng h0 h1 e.1 e.2
theorem L93 {h : zHC} {m : zHM} {v i c f : Int} (hn : h 579 v 0 = m 14 3) (hn0 : 0 ≤ m 14 3) (hn1 : m 14 3 ≤ 6) (c0 : 0 ≤ c) (c1 : c < 6) (hc : h 584 v c = m 14 (7 + 3 * c)) (hc0 : 0 ≤ m 14 (7 + 3 * c)) (hc1 : m 14 (7 + 3 * c) < 100) (hp : RP h i (m 14)) : ∀ (n k : Nat) (acc p : Int), 0 ≤ p → p ≤ m 14 3 → m 14 3 - p < n → m 14 3 - p < k → 0 ≤ acc → acc < 64 → ∃ r, F93_0 h n v c f i acc p = some r ∧ F240_0 m k c f acc p = some r ∧ 0 ≤ r ∧ r < 64 := by
  intro n
  induction n with
  | zero => intro k acc p p0 p1 g1 g2 a0 a1; omega
  | succ n ih =>
    intro k acc p p0 p1 g1 g2 a0 a1
    cases k with
    | zero => omega
    | succ k =>
      rw [F93_0, F240_0]
      by_cases e : p = m 14 3
      · rw [if_pos (by omega), if_pos (by omega)]
        exact ⟨acc, rfl, rfl, a0, a1⟩
      · obtain ⟨w1, w2, w3⟩ := hp p p0 (by omega)
        rw [if_neg (by omega), if_neg (by omega), if_neg (by omega), zG_t (by omega), zG_t (by omega), wadd_eq (x := 210) (by omega) (by omega), zG_t (by omega), F229_s c0 c1, hc, w1]
        rw [F83_s hc0 hc1 w2 w3]
        show ∃ r, (if f < zD _ _ then _ else _) = some r ∧ Option.bind (F230 _ _) _ = some r ∧ _
        rw [F230_s w2 w3 hc0 hc1]
        show ∃ r, (if f < zD _ _ then _ else _) = some r ∧ (if f < zD _ _ then _ else _) = some r ∧ _
        rw [zD_comm (a := m 14 (210 + p))]
        have e1 : wadd p 1 = p + 1 := wadd_eq (by omega) (by omega)
        have e2 := wor_shl a0 a1 p0 (by omega : p < 6)
        split
        · unfold F93_1 F240_1
          rw [e1]
          exact ih k acc (p + 1) (by omega) (by omega) (by omega) (by omega) a0 a1
        · unfold F93_1 F240_1
          rw [e1]
          exact ih k _ (p + 1) (by omega) (by omega) (by omega) (by omega) e2.1 e2.2
theorem S_set {h : zHC} {m : zHM} {i k s H C c d f : Int} (k0 : 0 ≤ k) (k1 : k < 30) (s0 : 0 ≤ s) (s1 : s < 30) (c0 : 0 ≤ c) (c1 : c < 6) (d0 : 1 ≤ d) (d1 : d ≤ 40) (H0 : 0 ≤ H) (f0 : 1 ≤ f) (f1 : f ≤ 9) (hD : CD h i k (m 14) s) (hS : SD (m 14) s H C) (hf : m 14 (457 + 18 * s + 3 * c + 2) = 0) (hcN : c < m 14 2) : ∃ h' m', F85_2 i f (k * 6 + c) (H + d) h = some h' ∧ F233_2 (H + d) f (457 + 18 * s + 3 * c) 1 m = some m' ∧ CD h' i k (m' 14) s ∧ SD (m' 14) s H C ∧ (∀ r n j, ¬ (n = i ∧ (r = 68 ∨ r = 69) ∧ j = k * 6 + c) → h' r n j = h r n j) ∧ (∀ r j, ¬ (r = 14 ∧ (j = 457 + 18 * s + 3 * c ∨ j = 457 + 18 * s + 3 * c + 1)) → m' r j = m r j) := by
  refine ⟨hset (hset h 68 i (k * 6 + c) (H + d)) 69 i (k * 6 + c) f, mset (mset m 14 (457 + 18 * s + 3 * c) (H + d)) 14 (457 + 18 * s + 3 * c + 1) f, ?_, ?_, ?_, ?_, ?_, ?_⟩
  · unfold F85_2
    rw [zG_t (by omega), zG_t (by omega)]
  · unfold F233_2
    rw [if_pos (by decide), wadd_eq (by omega) (by omega), zG_t (by omega), zG_t (by omega)]
  · intro c' g0 g1
    by_cases e : c' = c
    · subst e
      rw [mset_ne (i' := 457 + 18 * s + 3 * c') (by omega), mset_eq, mset_eq, hset_ne (by omega), hset_eq, hset_eq]
      exact ⟨by rw [if_neg (by omega)], fun _ => rfl⟩
    · rw [mset_ne (by omega), mset_ne (by omega), mset_ne (by omega), mset_ne (by omega), hset_ne (by omega), hset_ne (by omega), hset_ne (by omega), hset_ne (by omega)]
      exact hD c' g0 g1
  · intro c' g0 g1
    obtain ⟨w1, w2, w3, w4, w5⟩ := hS c' g0 g1
    rw [mset_ne (i' := 2) (by omega), mset_ne (i' := 2) (by omega)]
    by_cases e : c' = c
    · subst e
      rw [mset_ne (i' := 457 + 18 * s + 3 * c') (by omega), mset_eq, mset_eq, mset_ne (by omega), mset_ne (by omega)]
      refine ⟨by omega, by omega, fun _ => ⟨f0, f1⟩, ?_, fun q => by omega⟩
      rw [if_neg (by omega)]
      exact hf
    · rw [mset_ne (by omega), mset_ne (by omega), mset_ne (by omega), mset_ne (by omega), mset_ne (by omega), mset_ne (by omega)]
      exact ⟨w1, w2, w3, w4, w5⟩
  · intro r n j hne
    rw [hset_ne (by omega), hset_ne (by omega)]
  · intro r j hne
    rw [mset_ne (by omega), mset_ne (by omega)]
theorem S_offer {h : zHC} {m : zHM} {i v k s H C c d f : Int} (k0 : 0 ≤ k) (k1 : k < 30) (s0 : 0 ≤ s) (s1 : s < 30) (c0 : 0 ≤ c) (c1 : c < 6) (hd : h 585 v c = d) (d0 : 1 ≤ d) (d1 : d ≤ 40) (hH : h 64 i 0 = H) (H0 : 0 ≤ H) (H1 : H ≤ 1000) (f0 : 1 ≤ f) (f1 : f ≤ 9) (hD : CD h i k (m 14) s) (hS : SD (m 14) s H C) (hcN : c < m 14 2) : ∃ h' m', F85 i v k c f h = some h' ∧ F233 s c (H + d) f m = some m' ∧ CD h' i k (m' 14) s ∧ SD (m' 14) s H C ∧ (∀ r n j, ¬ (n = i ∧ (r = 68 ∨ r = 69) ∧ j = k * 6 + c) → h' r n j = h r n j) ∧ (∀ r j, ¬ (r = 14 ∧ (j = 457 + 18 * s + 3 * c ∨ j = 457 + 18 * s + 3 * c + 1)) → m' r j = m r j) := by
  have hset' := S_set k0 k1 s0 s1 c0 c1 d0 d1 H0 f0 f1 hD hS
  obtain ⟨w1, w2, w3, w4, w5⟩ := hS c c0 c1
  obtain ⟨e1, e2⟩ := hD c c0 c1
  have stay : ∃ h' m', some h = some h' ∧ some m = some m' ∧ CD h' i k (m' 14) s ∧ SD (m' 14) s H C ∧ (∀ r n j, ¬ (n = i ∧ (r = 68 ∨ r = 69) ∧ j = k * 6 + c) → h' r n j = h r n j) ∧ (∀ r j, ¬ (r = 14 ∧ (j = 457 + 18 * s + 3 * c ∨ j = 457 + 18 * s + 3 * c + 1)) → m' r j = m r j) := ⟨h, m, rfl, rfl, hD, hS, fun _ _ _ _ => rfl, fun _ _ _ => rfl⟩
  unfold F85 F233
  rw [hd, hH, wmul_eq (x := k) (by omega) (by omega), wadd_eq (x := k * 6) (by omega) (by omega), wadd_eq (x := H) (by omega) (by omega), wmul_eq (x := 18) (by omega) (by omega), wmul_eq (x := 3) (by omega) (by omega), wadd_eq (x := 457) (by omega) (by omega), wadd_eq (x := 457 + 18 * s) (by omega) (by omega), wadd_eq (y := 2) (by omega) (by omega), wadd_eq (y := 1) (by omega) (by omega)]
  simp (disch := omega) only [zG_t]
  by_cases q1 : m 14 (457 + 18 * s + 3 * c) = 0
  · rw [if_pos q1] at e1
    rw [if_neg (by omega)] at w4
    rw [if_pos e1, if_pos q1]
    unfold F85_0 F85_1 F233_0
    simp (disch := omega) only [zG_t]
    rw [if_neg (by omega), if_pos trivial, if_pos e1]
    exact hset' w4 hcN
  · rw [if_neg q1] at e1
    obtain ⟨u1, u2⟩ := w3 q1
    have e2 := e2 q1
    rw [if_neg (by omega), if_neg q1, e1]
    by_cases q2 : m 14 (457 + 18 * s + 3 * c) ≤ H
    · rw [if_neg (by omega)]
      unfold F85_1
      simp (disch := omega) only [zG_t]
      rw [if_neg (by omega), if_neg (by decide)]
      by_cases q3 : m 14 (457 + 18 * s + 3 * c + 2) = 0
      · rw [if_neg (by omega), if_neg (by omega), if_pos (by omega)]
        unfold F233_1 F233_2
        rw [if_neg (by omega)]
        exact stay
      · rw [if_pos q3]
        unfold F233_1 F233_2
        rw [if_neg (by omega)]
        exact stay
    · rw [if_neg (by omega)] at w4
      rw [if_pos (by omega), if_neg (by omega)]
      unfold F85_0 F85_1
      simp (disch := omega) only [zG_t]
      rw [if_neg (by omega), if_pos trivial, e1, if_neg (by omega)]
      by_cases q3 : H + d < m 14 (457 + 18 * s + 3 * c)
      · rw [if_pos q3, if_pos q3]
        exact hset' w4 hcN
      · rw [if_neg q3, if_neg q3]
        by_cases q4 : H + d = m 14 (457 + 18 * s + 3 * c)
        · have nq : ¬ ¬ H + d = m 14 (457 + 18 * s + 3 * c) := fun w => w q4
          rw [if_neg nq, if_neg nq, e2]
          by_cases q5 : f ≤ m 14 (457 + 18 * s + 3 * c + 1)
          · rw [if_pos q5, if_pos q5]
            unfold F233_1 F233_2
            rw [if_neg (by omega)]
            exact stay
          · rw [if_neg q5, if_neg q5]
            exact hset' w4 hcN
        · rw [if_pos q4, if_pos q4]
          unfold F233_1 F233_2
          rw [if_neg (by omega)]
          exact stay
theorem F85_0s {h : zHC} {i v k c f : Int} (k0 : 0 ≤ k) (k1 : k < 30) (c0 : 0 ≤ c) (c1 : c < 6) (f0 : f < 1) : F85 i v k c f h = some h := by
  unfold F85 F85_0 F85_1
  rw [wmul_eq (x := k) (by omega) (by omega), wadd_eq (x := k * 6) (by omega) (by omega)]
  simp (disch := omega) only [zG_t, if_pos f0]
  split
  · rfl
  · split <;> rfl
/-- all offers of what sounds at c with force f -/
theorem S_offers {h : zHC} {m : zHM} {i v k s H C c f : Int} (k0 : 0 ≤ k) (k1 : k < 30) (s0 : 0 ≤ s) (s1 : s < 30) (c0 : 0 ≤ c) (hc : c < m 14 2) (f0 : 1 ≤ f) (f1 : f ≤ 9) (H0 : 0 ≤ H) (H1 : H ≤ 1000) (hN : h 578 v 0 = m 14 2) (hN0 : m 14 2 ≤ 6) (hVC : VC h v (m 14)) (hWC : WC (m 14)) (hH : h 64 i 0 = H) (hHm : m 14 209 = H) (hD : CD h i k (m 14) s) (hS : SD (m 14) s H C) : ∀ (n n' : Nat) (o : Int) (h1 : zHC) (m1 : zHM), 0 ≤ o → o ≤ m 14 2 → m 14 2 - o < n → m 14 2 - o < n' → CD h1 i k (m1 14) s → SD (m1 14) s H C → (∀ r n j, ¬ (n = i ∧ (r = 68 ∨ r = 69) ∧ k * 6 ≤ j ∧ j < k * 6 + 6) → h1 r n j = h r n j) → (∀ r j, ¬ (r = 14 ∧ 457 + 18 * s ≤ j ∧ j < 475 + 18 * s ∧ ¬ (j = 457 + 18 * s + 3 * 0 + 2 ∨ j = 457 + 18 * s + 3 * 1 + 2 ∨ j = 457 + 18 * s + 3 * 2 + 2 ∨ j = 457 + 18 * s + 3 * 3 + 2 ∨ j = 457 + 18 * s + 3 * 4 + 2 ∨ j = 457 + 18 * s + 3 * 5 + 2)) → m1 r j = m r j) → ∃ h2 m2, F92_1 n i v k c f o h1 = some h2 ∧ F239_1 n' s c f o m1 = some m2 ∧ CD h2 i k (m2 14) s ∧ SD (m2 14) s H C ∧ (∀ r n j, ¬ (n = i ∧ (r = 68 ∨ r = 69) ∧ k * 6 ≤ j ∧ j < k * 6 + 6) → h2 r n j = h r n j) ∧ (∀ r j, ¬ (r = 14 ∧ 457 + 18 * s ≤ j ∧ j < 475 + 18 * s ∧ ¬ (j = 457 + 18 * s + 3 * 0 + 2 ∨ j = 457 + 18 * s + 3 * 1 + 2 ∨ j = 457 + 18 * s + 3 * 2 + 2 ∨ j = 457 + 18 * s + 3 * 3 + 2 ∨ j = 457 + 18 * s + 3 * 4 + 2 ∨ j = 457 + 18 * s + 3 * 5 + 2)) → m2 r j = m r j) := by
  intro n
  induction n with
  | zero => intro n' o h1 m1 o0 o1 g1 g2 hD1 hS1 F1 F2; omega
  | succ n ih =>
    intro n' o h1 m1 o0 o1 g1 g2 hD1 hS1 F1 F2
    cases n' with
    | zero => omega
    | succ n' =>
      have m2e : m1 14 2 = m 14 2 := F2 14 2 (by omega)
      have h2e : h1 578 v 0 = m 14 2 := by rw [F1 578 v 0 (by omega), hN]
      rw [F92_1, F239_1, h2e, m2e]
      by_cases e : o = m 14 2
      · rw [if_pos (by omega), if_pos (by omega)]
        exact ⟨h1, m1, rfl, rfl, hD1, hS1, F1, F2⟩
      · have e1 : wadd o 1 = o + 1 := wadd_eq (by omega) (by omega)
        obtain ⟨a1, a2, a3, a4, a5, a6⟩ := hWC c c0 hc
        obtain ⟨b1, b2, b3, b4, b5, b6⟩ := hWC o o0 (by omega)
        have ca := (hVC c c0 hc).1
        have cb := (hVC o o0 (by omega)).1
        have cd := (hVC o o0 (by omega)).2.1
        have mc : m1 14 (7 + 3 * c) = m 14 (7 + 3 * c) := F2 14 _ (by omega)
        have mo : m1 14 (7 + 3 * o) = m 14 (7 + 3 * o) := F2 14 _ (by omega)
        have md : m1 14 (7 + 3 * o + 1) = m 14 (7 + 3 * o + 1) := F2 14 _ (by omega)
        have mh : m1 14 209 = H := by rw [F2 14 209 (by omega), hHm]
        have zr := zD_rng a1 a2 b1 b2
        have ho : ¬ m 14 2 ≤ o := by omega
        rw [if_neg ho, if_neg ho, F229_s c0 (by omega), F229_s o0 (by omega), mc, mo]
        show ∃ h2 m2, (if o = c then _ else _) = some h2 ∧ Option.bind (F230 _ _) _ = some m2 ∧ _
        rw [F230_s a1 a2 b1 b2]
        show ∃ h2 m2, (if o = c then _ else _) = some h2 ∧ (if o = c then _ else _) = some m2 ∧ _
        by_cases q1 : o = c
        · rw [if_pos q1, if_pos q1]
          unfold F92_2 F239_2
          rw [e1]
          exact ih n' (o + 1) h1 m1 (by omega) (by omega) (by omega) (by omega) hD1 hS1 F1 F2
        · rw [if_neg q1, if_neg q1]
          unfold F95
          rw [zG_t (by omega), zG_t (by omega), F1 584 v c (by omega), F1 584 v o (by omega), ca, cb, F83_s a1 a2 b1 b2]
          show ∃ h2 m2, Option.bind (if f < zD _ _ then _ else _) _ = some h2 ∧ _
          rw [wdiv_eq (by omega) (by omega) (by decide) (by decide), wsub_eq (x := f) (by omega) (by omega), wsub_eq (x := f - 1) (by omega) (by omega)]
          by_cases q2 : f < zD (m 14 (7 + 3 * c)) (m 14 (7 + 3 * o))
          · rw [if_pos q2, if_pos q2]
            show ∃ h2 m2, Option.bind (F85 i v k o 0 h1) _ = some h2 ∧ _
            rw [F85_0s k0 k1 o0 (by omega) (by decide)]
            unfold F92_2 F239_2
            rw [e1]
            exact ih n' (o + 1) h1 m1 (by omega) (by omega) (by omega) (by omega) hD1 hS1 F1 F2
          · rw [if_neg q2, if_neg q2]
            show ∃ h2 m2, Option.bind (F85 i v k o _ h1) _ = some h2 ∧ _
            by_cases q3 : f - 1 - zD (m 14 (7 + 3 * c)) (m 14 (7 + 3 * o)) / 2 ≤ 0
            · rw [if_pos q3, if_neg (by omega), F85_0s k0 k1 o0 (by omega) (by decide)]
              unfold F92_2 F239_2
              rw [e1]
              exact ih n' (o + 1) h1 m1 (by omega) (by omega) (by omega) (by omega) hD1 hS1 F1 F2
            · rw [if_neg q3, if_pos (by omega), F232_s o0 (by omega), md]
              show ∃ h2 m2, _ ∧ Option.bind (F233 s o (wadd (m1 14 209) (m 14 (7 + 3 * o + 1))) _ m1) _ = some m2 ∧ _
              rw [mh, wadd_eq (x := H) (by omega) (by omega)]
              obtain ⟨h3, m3, r1, r2, r3, r4, r5, r6⟩ := S_offer (v := v) (d := m 14 (7 + 3 * o + 1)) (f := f - 1 - zD (m 14 (7 + 3 * c)) (m 14 (7 + 3 * o)) / 2) k0 k1 s0 s1 o0 (by omega : o < 6) (by rw [F1 585 v o (by omega)]; exact cd) b3 b4 (by rw [F1 64 i 0 (by omega)]; exact hH) H0 H1 (by omega) (by omega) hD1 hS1 (by rw [m2e]; omega)
              rw [r1, r2]
              show ∃ h2 m2, F92_2 _ _ _ _ _ _ _ _ = some h2 ∧ F239_2 _ _ _ _ _ _ = some m2 ∧ _
              unfold F92_2 F239_2
              rw [e1]
              exact ih n' (o + 1) h3 m3 (by omega) (by omega) (by omega) (by omega) r3 r4 (fun r n j hne => by rw [r5 r n j (by omega), F1 r n j hne]) (fun r j hne => by rw [r6 r j (by omega), F2 r j hne])
end
section
/-! What sounds. -/
theorem F92_pre {h : zHC} {i v k c f r E : Int} (hr : F93 v c f i h = some r) (hE : h 66 i 0 = E) (E0 : 0 ≤ E) (E1 : E < 180) (k0 : 0 ≤ k) (k1 : k < 30) (f0 : 1 ≤ f) : ∃ h1, F92 i v k c f h = F92_1 zFu i v k c f 0 h1 ∧ (∀ r' n j, ¬ (n = i ∧ ((r' = 66 ∧ j = 0) ∨ (r' = 71 ∧ 5 * E ≤ j ∧ j < 5 * E + 5) ∨ (r' = 70 ∧ k * 8 + 5 ≤ j ∧ j < k * 8 + 8))) → h1 r' n j = h r' n j) ∧ h1 66 i 0 = E + 1 ∧ h1 71 i (E * 5 + 0) = k ∧ h1 71 i (E * 5 + 1) = c ∧ h1 71 i (E * 5 + 2) = h 64 i 0 ∧ h1 71 i (E * 5 + 3) = f ∧ h1 71 i (E * 5 + 4) = r ∧ h1 70 i (k * 8 + 5) = (if r = 0 then h 70 i (k * 8 + 5) else r) ∧ h1 70 i (k * 8 + 6) = wadd (h 70 i (k * 8 + 6)) 1 ∧ h1 70 i (k * 8 + 7) = wor (h 70 i (k * 8 + 7)) r := by
  have key : ∀ h0 : zHC, h0 66 i 0 = E → ∃ h1, F92_0 i v k c f r (k * 8) h0 = F92_1 zFu i v k c f 0 h1 ∧ (∀ r' n j, ¬ (n = i ∧ ((r' = 66 ∧ j = 0) ∨ (r' = 71 ∧ 5 * E ≤ j ∧ j < 5 * E + 5) ∨ (r' = 70 ∧ k * 8 + 6 ≤ j ∧ j < k * 8 + 8))) → h1 r' n j = h0 r' n j) ∧ h1 66 i 0 = E + 1 ∧ h1 71 i (E * 5 + 0) = k ∧ h1 71 i (E * 5 + 1) = c ∧ h1 71 i (E * 5 + 2) = h0 64 i 0 ∧ h1 71 i (E * 5 + 3) = f ∧ h1 71 i (E * 5 + 4) = r ∧ h1 70 i (k * 8 + 6) = wadd (h0 70 i (k * 8 + 6)) 1 ∧ h1 70 i (k * 8 + 7) = wor (h0 70 i (k * 8 + 7)) r := by
    intro h0 hE0
    unfold F92_0 F94
    rw [wadd_eq (x := k * 8) (y := 6) (by omega) (by omega), wadd_eq (x := k * 8) (y := 7) (by omega) (by omega), zG_t (by omega), zG_t (by omega), zG_t (by omega), zG_t (by omega)]
    rw [hset_ne (h := hset h0 70 i (k * 8 + 6) _) (r' := 66) (by omega), hset_ne (h := h0) (r' := 66) (by omega), hE0, hset_ne (h := hset h0 70 i (k * 8 + 6) _) (r' := 64) (by omega), hset_ne (h := h0) (r' := 64) (by omega), hset_ne (h := h0) (r' := 70) (i' := k * 8 + 7) (by omega)]
    rw [wmul_eq (x := E) (by omega) (by omega), wadd_eq (x := E * 5) (y := 0) (by omega) (by omega), wadd_eq (x := E * 5) (y := 1) (by omega) (by omega), wadd_eq (x := E * 5) (y := 2) (by omega) (by omega), wadd_eq (x := E * 5) (y := 3) (by omega) (by omega), wadd_eq (x := E * 5) (y := 4) (by omega) (by omega), wadd_eq (x := E) (y := 1) (by omega) (by omega)]
    rw [if_pos E1, zG_t (by omega), zG_t (by omega), zG_t (by omega), zG_t (by omega), zG_t (by omega)]
    refine ⟨_, rfl, ?_, ?_, ?_, ?_, ?_, ?_, ?_, ?_, ?_⟩
    · intro r' n j hne
      rw [hset_ne (by omega), hset_ne (by omega), hset_ne (by omega), hset_ne (by omega), hset_ne (by omega), hset_ne (by omega), hset_ne (by omega), hset_ne (by omega)]
    · rw [hset_eq]
    · rw [hset_ne (by omega), hset_ne (by omega), hset_ne (by omega), hset_ne (by omega), hset_ne (by omega), hset_eq]
    · rw [hset_ne (by omega), hset_ne (by omega), hset_ne (by omega), hset_ne (by omega), hset_eq]
    · rw [hset_ne (by omega), hset_ne (by omega), hset_ne (by omega), hset_eq]
    · rw [hset_ne (by omega), hset_ne (by omega), hset_eq]
    · rw [hset_ne (by omega), hset_eq]
    · rw [hset_ne (by omega), hset_ne (by omega), hset_ne (by omega), hset_ne (by omega), hset_ne (by omega), hset_ne (by omega), hset_ne (by omega), hset_eq]
    · rw [hset_ne (by omega), hset_ne (by omega), hset_ne (by omega), hset_ne (by omega), hset_ne (by omega), hset_ne (by omega), hset_eq]
  unfold F92
  rw [if_pos f0, hr, wmul_eq (x := k) (by omega) (by omega)]
  show ∃ h1, (if r = 0 then _ else _) = _ ∧ _
  by_cases q : r = 0
  · rw [if_pos q, if_pos q]
    obtain ⟨h1, k1, k2, k3, k4, k5, k6, k7, k8, k9, k10⟩ := key h hE
    exact ⟨h1, k1, fun r' n j hne => k2 r' n j (by omega), k3, k4, k5, k6, k7, k8, k2 _ _ _ (by omega), k9, k10⟩
  · rw [if_neg q, if_neg q, wadd_eq (x := k * 8) (y := 5) (by omega) (by omega), zG_t (by omega)]
    obtain ⟨h1, k1, k2, k3, k4, k5, k6, k7, k8, k9, k10⟩ := key (hset h 70 i (k * 8 + 5) r) (by rw [hset_ne (by omega)]; exact hE)
    rw [hset_ne (by omega)] at k6 k9 k10
    exact ⟨h1, k1, fun r' n j hne => by rw [k2 r' n j (by omega), hset_ne (by omega)], k3, k4, k5, k6, k7, k8, by rw [k2 _ _ _ (by omega), hset_eq], k9, k10⟩
theorem F239_pre {m : zHM} {s c f r N : Int} (hr : F240 c f m = some r) (hN : m 14 997 = N) (N0 : 0 ≤ N) (N1 : N < 180) (s0 : 0 ≤ s) (s1 : s < 30) : ∃ m1, F239 s c f m = F239_1 zFu s c f 0 m1 ∧ (∀ r' j, ¬ (r' = 14 ∧ (j = 997 ∨ (998 + 5 * N ≤ j ∧ j < 1003 + 5 * N) ∨ (217 + 8 * s + 5 ≤ j ∧ j < 225 + 8 * s))) → m1 r' j = m r' j) ∧ m1 14 997 = N + 1 ∧ m1 14 (998 + 5 * N) = s ∧ m1 14 (998 + 5 * N + 1) = c ∧ m1 14 (998 + 5 * N + 2) = m 14 209 ∧ m1 14 (998 + 5 * N + 3) = f ∧ m1 14 (998 + 5 * N + 4) = r ∧ m1 14 (217 + 8 * s + 5) = (if r = 0 then m 14 (217 + 8 * s + 5) else r) ∧ m1 14 (217 + 8 * s + 6) = wadd (m 14 (217 + 8 * s + 6)) 1 ∧ m1 14 (217 + 8 * s + 7) = wor (m 14 (217 + 8 * s + 7)) r := by
  unfold F239 F239_0
  rw [hr]
  show ∃ m1, zG _ _ = _ ∧ _
  rw [hN, wmul_eq (x := 5) (by omega) (by omega), wadd_eq (x := 998) (by omega) (by omega), wadd_eq (x := 998 + 5 * N) (y := 1) (by omega) (by omega), wadd_eq (x := 998 + 5 * N) (y := 2) (by omega) (by omega), wadd_eq (x := 998 + 5 * N) (y := 3) (by omega) (by omega), wadd_eq (x := 998 + 5 * N) (y := 4) (by omega) (by omega), wmul_eq (x := 8) (by omega) (by omega), wadd_eq (x := 217) (by omega) (by omega), wadd_eq (x := 217 + 8 * s) (y := 5) (by omega) (by omega), wadd_eq (x := 217 + 8 * s) (y := 6) (by omega) (by omega), wadd_eq (x := 217 + 8 * s) (y := 7) (by omega) (by omega)]
  rw [zG_t (by omega), zG_t (by omega), zG_t (by omega), zG_t (by omega), zG_t (by omega), zG_t (by omega), zG_t (by omega), zG_t (by omega), zG_t (by omega)]
  have e1 : (mset (mset m 14 (998 + 5 * N) s) 14 (998 + 5 * N + 1) c) 14 209 = m 14 209 := by rw [mset_ne (by omega), mset_ne (by omega)]
  rw [e1]
  have e2 : (mset (mset (mset (mset (mset m 14 (998 + 5 * N) s) 14 (998 + 5 * N + 1) c) 14 (998 + 5 * N + 2) (m 14 209)) 14 (998 + 5 * N + 3) f) 14 (998 + 5 * N + 4) r) 14 997 = N := by rw [mset_ne (by omega), mset_ne (by omega), mset_ne (by omega), mset_ne (by omega), mset_ne (by omega), hN]
  rw [e2, wadd_eq (x := N) (by omega) (by omega)]
  have e3 : (mset (mset (mset (mset (mset (mset m 14 (998 + 5 * N) s) 14 (998 + 5 * N + 1) c) 14 (998 + 5 * N + 2) (m 14 209)) 14 (998 + 5 * N + 3) f) 14 (998 + 5 * N + 4) r) 14 997 (N + 1)) 14 (217 + 8 * s + 6) = m 14 (217 + 8 * s + 6) := by rw [mset_ne (by omega), mset_ne (by omega), mset_ne (by omega), mset_ne (by omega), mset_ne (by omega), mset_ne (by omega)]
  rw [e3]
  have e4 : (mset (mset (mset (mset (mset (mset (mset m 14 (998 + 5 * N) s) 14 (998 + 5 * N + 1) c) 14 (998 + 5 * N + 2) (m 14 209)) 14 (998 + 5 * N + 3) f) 14 (998 + 5 * N + 4) r) 14 997 (N + 1)) 14 (217 + 8 * s + 6) (wadd (m 14 (217 + 8 * s + 6)) 1)) 14 (217 + 8 * s + 7) = m 14 (217 + 8 * s + 7) := by rw [mset_ne (by omega), mset_ne (by omega), mset_ne (by omega), mset_ne (by omega), mset_ne (by omega), mset_ne (by omega), mset_ne (by omega)]
  rw [e4]
  by_cases q : r = 0
  · rw [if_pos q, if_pos q]
    refine ⟨_, rfl, ?_, ?_, ?_, ?_, ?_, ?_, ?_, ?_, ?_, ?_⟩
    · intro r' j hne
      rw [mset_ne (by omega), mset_ne (by omega), mset_ne (by omega), mset_ne (by omega), mset_ne (by omega), mset_ne (by omega), mset_ne (by omega), mset_ne (by omega)]
    · rw [mset_ne (by omega), mset_ne (by omega), mset_eq]
    · rw [mset_ne (by omega), mset_ne (by omega), mset_ne (by omega), mset_ne (by omega), mset_ne (by omega), mset_ne (by omega), mset_ne (by omega), mset_eq]
    · rw [mset_ne (by omega), mset_ne (by omega), mset_ne (by omega), mset_ne (by omega), mset_ne (by omega), mset_ne (by omega), mset_eq]
    · rw [mset_ne (by omega), mset_ne (by omega), mset_ne (by omega), mset_ne (by omega), mset_ne (by omega), mset_eq]
    · rw [mset_ne (by omega), mset_ne (by omega), mset_ne (by omega), mset_ne (by omega), mset_eq]
    · rw [mset_ne (by omega), mset_ne (by omega), mset_ne (by omega), mset_eq]
    · rw [mset_ne (by omega), mset_ne (by omega), mset_ne (by omega), mset_ne (by omega), mset_ne (by omega), mset_ne (by omega), mset_ne (by omega), mset_ne (by omega)]
    · rw [mset_ne (by omega), mset_eq]
    · rw [mset_eq]
  · rw [if_neg q, if_neg q, zG_t (by omega)]
    refine ⟨_, rfl, ?_, ?_, ?_, ?_, ?_, ?_, ?_, ?_, ?_, ?_⟩
    · intro r' j hne
      rw [mset_ne (by omega), mset_ne (by omega), mset_ne (by omega), mset_ne (by omega), mset_ne (by omega), mset_ne (by omega), mset_ne (by omega), mset_ne (by omega), mset_ne (by omega)]
    · rw [mset_ne (by omega), mset_ne (by omega), mset_ne (by omega), mset_eq]
    · rw [mset_ne (by omega), mset_ne (by omega), mset_ne (by omega), mset_ne (by omega), mset_ne (by omega), mset_ne (by omega), mset_ne (by omega), mset_ne (by omega), mset_eq]
    · rw [mset_ne (by omega), mset_ne (by omega), mset_ne (by omega), mset_ne (by omega), mset_ne (by omega), mset_ne (by omega), mset_ne (by omega), mset_eq]
    · rw [mset_ne (by omega), mset_ne (by omega), mset_ne (by omega), mset_ne (by omega), mset_ne (by omega), mset_ne (by omega), mset_eq]
    · rw [mset_ne (by omega), mset_ne (by omega), mset_ne (by omega), mset_ne (by omega), mset_ne (by omega), mset_eq]
    · rw [mset_ne (by omega), mset_ne (by omega), mset_ne (by omega), mset_ne (by omega), mset_eq]
    · rw [mset_eq]
    · rw [mset_ne (by omega), mset_ne (by omega), mset_eq]
    · rw [mset_ne (by omega), mset_eq]
/-- all that the count of echoes is -/
def EQ (a : Int → Int) : Prop := EB a ∧ LW a ∧ ∀ s, 0 ≤ s → s < a 216 → a (217 + 8 * s + 6) ≤ 6
theorem EQ_cong {a a' : Int → Int} (h216 : a' 216 = a 216) (h2 : a' 2 = a 2) (h997 : a' 997 = a 997) (ht : ∀ s, 0 ≤ s → s < a 216 → a' (217 + 8 * s + 6) = a (217 + 8 * s + 6)) (hl : ∀ j, 998 ≤ j → j < 998 + 5 * a 997 → a' j = a j) (h : EQ a) : EQ a' := by
  obtain ⟨⟨b1, b2⟩, ⟨l1, l2⟩, t⟩ := h
  refine ⟨⟨by rw [h997]; exact b1, ?_⟩, ⟨?_, ?_⟩, ?_⟩
  · rw [h997, h216, b2]
    exact zsum_cong (fun j j0 j1 => (ht j j0 (by omega)).symm)
  · intro j j0 j1
    rw [h997] at j1
    rw [h216, h2, hl (998 + 5 * j) (by omega) (by omega), hl (998 + 5 * j + 1) (by omega) (by omega), hl (998 + 5 * j + 2) (by omega) (by omega), hl (998 + 5 * j + 3) (by omega) (by omega), hl (998 + 5 * j + 4) (by omega) (by omega)]
    exact l1 j j0 j1
  · intro s g0 g1
    rw [h216] at g1
    rw [h997, ht s g0 g1, ← l2 s g0 g1]
    exact zcnt_cong (fun j j0 j1 => hl _ (by omega) (by omega))
  · intro s g0 g1
    rw [h216] at g1
    rw [ht s g0 g1]
    exact t s g0 g1
theorem EQ_lt {a : Int → Int} {s : Int} (h : EQ a) (s0 : 0 ≤ s) (s1 : s < a 216) (hn : a 216 ≤ 30) (hs : a (217 + 8 * s + 6) < 6) : 0 ≤ a 997 ∧ a 997 < 180 := by
  obtain ⟨⟨b1, b2⟩, -, t⟩ := h
  refine ⟨b1, ?_⟩
  rw [b2]
  have := zsum_lt (f := fun s => a (217 + 8 * s + 6)) (n := (a 216).toNat) (k := s) (b := 6) s0 (by omega) hs (fun j j0 j1 => t j j0 (by omega))
  omega
theorem EQ_step {a a' : Int → Int} {s c H f r N : Int} (h : EQ a) (hN : a 997 = N) (s0 : 0 ≤ s) (s1 : s < a 216) (hs : a (217 + 8 * s + 6) < 6) (c0 : 0 ≤ c) (c1 : c < a 2) (H0 : 0 ≤ H) (H1 : H ≤ 400) (f0 : 1 ≤ f) (f1 : f ≤ 9) (r0 : 0 ≤ r) (r1 : r < 64) (h216 : a' 216 = a 216) (h2 : a' 2 = a 2) (h997 : a' 997 = N + 1) (e0 : a' (998 + 5 * N) = s) (e1 : a' (998 + 5 * N + 1) = c) (e2 : a' (998 + 5 * N + 2) = H) (e3 : a' (998 + 5 * N + 3) = f) (e4 : a' (998 + 5 * N + 4) = r) (hT : a' (217 + 8 * s + 6) = a (217 + 8 * s + 6) + 1) (ht : ∀ s', 0 ≤ s' → s' < a 216 → s' ≠ s → a' (217 + 8 * s' + 6) = a (217 + 8 * s' + 6)) (hl : ∀ j, 998 ≤ j → j < 998 + 5 * N → a' j = a j) : EQ a' := by
  obtain ⟨⟨b1, b2⟩, ⟨l1, l2⟩, t⟩ := h
  subst hN
  refine ⟨⟨by omega, ?_⟩, ⟨?_, ?_⟩, ?_⟩
  · rw [h997, h216]
    rw [zsum_upd (f := fun s => a (217 + 8 * s + 6)) (k := s) (d := 1) s0 (by omega) hT (fun j j0 j1 j2 => ht j j0 (by omega) j2)]
    omega
  · intro j j0 j1
    rw [h997] at j1
    rw [h216, h2]
    by_cases q : j = a 997
    · subst q
      rw [e0, e1, e2, e3, e4]
      exact ⟨⟨s0, s1⟩, ⟨c0, c1⟩, ⟨H0, H1⟩, ⟨f0, f1⟩, ⟨r0, r1⟩⟩
    · rw [hl (998 + 5 * j) (by omega) (by omega), hl (998 + 5 * j + 1) (by omega) (by omega), hl (998 + 5 * j + 2) (by omega) (by omega), hl (998 + 5 * j + 3) (by omega) (by omega), hl (998 + 5 * j + 4) (by omega) (by omega)]
      exact l1 j j0 (by omega)
  · intro s' g0 g1
    rw [h216] at g1
    have e : (a' 997).toNat = (a 997).toNat + 1 := by omega
    rw [e]
    unfold zcnt
    have e5 : ((a 997).toNat : Int) = a 997 := by omega
    rw [zcnt_cong (f := fun j => a' (998 + 5 * j)) (g := fun j => a (998 + 5 * j)) (fun j j0 j1 => hl _ (by omega) (by omega)), l2 s' g0 g1, e5]
    show _ + (if a' (998 + 5 * a 997) = s' then 1 else 0) = _
    rw [e0]
    by_cases q : s' = s
    · subst q
      rw [if_pos rfl, hT]
    · rw [if_neg (fun w => q w.symm), ht s' g0 g1 q]
      omega
  · intro s' g0 g1
    rw [h216] at g1
    by_cases q : s' = s
    · subst q
      omega
    · rw [ht s' g0 g1 q]
      exact t s' g0 g1
/-- frames: all that one saying's hour may change -/
def cfS (i k : Int) (h h' : zHC) : Prop := h 66 i 0 ≤ h' 66 i 0 ∧ ∀ r n j, ¬ (n = i ∧ ((r = 66 ∧ j = 0) ∨ (r = 71 ∧ 5 * h 66 i 0 ≤ j) ∨ ((r = 68 ∨ r = 69) ∧ k * 6 ≤ j ∧ j < k * 6 + 6) ∨ (r = 70 ∧ k * 8 ≤ j ∧ j < k * 8 + 8) ∨ (r = 72 ∧ j = k))) → h' r n j = h r n j
def mfS (s : Int) (m m' : zHM) : Prop := m 14 997 ≤ m' 14 997 ∧ m' 14 997 ≤ 180 ∧ (∀ j, 0 ≤ j → m 14 997 ≤ j → j < m' 14 997 → m' 14 (998 + 5 * j + 2) = m 14 209) ∧ ∀ r j, ¬ (r = 14 ∧ (j = 997 ∨ (998 ≤ j ∧ 998 + 5 * m 14 997 ≤ j ∧ j < 1898) ∨ (457 + 18 * s ≤ j ∧ j < 475 + 18 * s) ∨ (217 + 8 * s ≤ j ∧ j < 225 + 8 * s))) → m' r j = m r j
theorem cfS_trans {i k : Int} {h h' h'' : zHC} (h1 : cfS i k h h') (h2 : cfS i k h' h'') : cfS i k h h'' := by
  refine ⟨Int.le_trans h1.1 h2.1, fun r n j hne => ?_⟩
  have := h1.1
  rw [h2.2 r n j (by omega), h1.2 r n j hne]
theorem mfS_trans {s : Int} {m m' m'' : zHM} (s0 : 0 ≤ s) (s1 : s < 30) (h1 : mfS s m m') (h2 : mfS s m' m'') : mfS s m m'' := by
  have l1 := h1.1
  have l3 := h1.2.1
  refine ⟨Int.le_trans h1.1 h2.1, h2.2.1, fun j gz g0 g1 => ?_, fun r j hne => ?_⟩
  · by_cases q : j < m' 14 997
    · rw [h2.2.2.2 _ _ (by omega)]
      exact h1.2.2.1 j gz g0 q
    · rw [h2.2.2.1 j gz (by omega) g1]
      exact h1.2.2.2 _ _ (by omega)
  · rw [h2.2.2.2 r j (by omega), h1.2.2.2 r j hne]
theorem S_sound {h : zHC} {m : zHM} {i v k s H C c f : Int} (k0 : 0 ≤ k) (k1 : k < 30) (s0 : 0 ≤ s) (s1 : s < m 14 216) (s2 : m 14 216 ≤ 30) (c0 : 0 ≤ c) (c1 : c < m 14 2) (f0 : 1 ≤ f) (f1 : f ≤ 9) (H0 : 0 ≤ H) (H1 : H ≤ 400) (hV : VN h v (m 14)) (hVC : VC h v (m 14)) (hW : VW (m 14)) (hH : h 64 i 0 = H) (hHm : m 14 209 = H) (hP : RP h i (m 14)) (hE0 : 0 ≤ h 66 i 0) (hE1 : h 66 i 0 < 180) (hF : CF h i k (m 14) s) (hD : CD h i k (m 14) s) (hS : SD (m 14) s H C) (hSF : SF (m 14) s) (hT : m 14 (217 + 8 * s + 6) < m 14 (457 + 18 * s + 3 * 0 + 2) + m 14 (457 + 18 * s + 3 * 1 + 2) + m 14 (457 + 18 * s + 3 * 2 + 2) + m 14 (457 + 18 * s + 3 * 3 + 2) + m 14 (457 + 18 * s + 3 * 4 + 2) + m 14 (457 + 18 * s + 3 * 5 + 2)) (hT6 : m 14 (217 + 8 * s + 6) < 6) (hQ : EQ (m 14)) : ∃ h' m', F92 i v k c f h = some h' ∧ F239 s c f m = some m' ∧ CF h' i k (m' 14) s ∧ CD h' i k (m' 14) s ∧ SD (m' 14) s H C ∧ SF (m' 14) s ∧ EQ (m' 14) ∧ cfS i k h h' ∧ mfS s m m' ∧ h' 66 i 0 = h 66 i 0 + 1 ∧ m' 14 997 = m 14 997 + 1 ∧ (∀ r j, r = 14 → (j = 457 + 18 * s + 3 * 0 + 2 ∨ j = 457 + 18 * s + 3 * 1 + 2 ∨ j = 457 + 18 * s + 3 * 2 + 2 ∨ j = 457 + 18 * s + 3 * 3 + 2 ∨ j = 457 + 18 * s + 3 * 4 + 2 ∨ j = 457 + 18 * s + 3 * 5 + 2) → m' r j = m r j) ∧ m' 14 (217 + 8 * s + 6) = m 14 (217 + 8 * s + 6) + 1 ∧ (k = s → RL h i (m 14) → RL h' i (m' 14)) := by
  obtain ⟨v0, v1, v2, v3, v4, v5, v6⟩ := hV
  obtain ⟨⟨w0, w1, w2, w3, w4, w5, w6, w7, w8, w9, w10, w11, w12, w13⟩, hWC, hWP, hWM, hWS⟩ := hW
  obtain ⟨x1, x2, x3, x4, x5, x6⟩ := hWC c c0 c1
  obtain ⟨N0, N1⟩ := EQ_lt hQ s0 s1 s2 hT6
  obtain ⟨r, hr1, hr2, hr3, hr4⟩ := L93 (h := h) (m := m) (v := v) (i := i) (c := c) (f := f) v3 w6 w7 c0 (by omega) (hVC c c0 c1).1 x1 x2 hP zFu zFu 0 0 (by omega) (by omega) (by have := zFu_big; omega) (by have := zFu_big; omega) (by decide) (by decide)
  obtain ⟨h1, p1, p2, p3, p4, p5, p6, p7, p8, p9, p10, p11⟩ := F92_pre (h := h) (i := i) (v := v) (k := k) (c := c) (f := f) (r := r) (E := h 66 i 0) hr1 rfl hE0 hE1 k0 k1 f0
  obtain ⟨m1, q1, q2, q3, q4, q5, q6, q7, q8, q9, q10, q11⟩ := F239_pre (m := m) (s := s) (c := c) (f := f) (r := r) (N := m 14 997) hr2 rfl N0 N1 s0 (by omega)
  obtain ⟨t1, t2, t3, t4, t5, t6, t7, t8⟩ := hSF
  have g6 : wadd (m 14 (217 + 8 * s + 6)) 1 = m 14 (217 + 8 * s + 6) + 1 := wadd_eq (by omega) (by omega)
  have cf : CF h1 i k (m1 14) s := by
    intro w g0 g1
    have e5 := hF 5 (by decide) (by decide)
    have e6 := hF 6 (by decide) (by decide)
    have e7 := hF 7 (by decide) (by decide)
    by_cases u5 : w = 5
    · subst u5; rw [p9, q9, e5]
    by_cases u6 : w = 6
    · subst u6; rw [p10, q10, e6]
    by_cases u7 : w = 7
    · subst u7; rw [p11, q11, e7]
    rw [p2 _ _ _ (by omega), q2 _ _ (by omega)]
    exact hF w g0 g1
  have cd : CD h1 i k (m1 14) s := by
    intro c' g0 g1
    rw [p2 _ _ _ (by omega), p2 _ _ _ (by omega), q2 _ _ (by omega), q2 _ _ (by omega)]
    exact hD c' g0 g1
  have sd : SD (m1 14) s H C := by
    intro c' g0 g1
    rw [q2 _ _ (by omega), q2 _ _ (by omega), q2 _ _ (by omega), q2 _ 2 (by omega)]
    exact hS c' g0 g1
  have vc1 : VC h1 v (m1 14) := by
    intro c' g0 g1
    rw [q2 _ 2 (by omega)] at g1
    rw [p2 _ _ _ (by omega), p2 _ _ _ (by omega), p2 _ _ _ (by omega), q2 _ _ (by omega), q2 _ _ (by omega), q2 _ _ (by omega)]
    exact hVC c' g0 g1
  have wc1 : WC (m1 14) := by
    intro c' g0 g1
    rw [q2 _ 2 (by omega)] at g1
    rw [q2 _ _ (by omega), q2 _ _ (by omega), q2 _ _ (by omega)]
    exact hWC c' g0 g1
  have n2 : m1 14 2 = m 14 2 := q2 _ _ (by omega)
  obtain ⟨h2, m2, z1, z2, z3, z4, z5, z6⟩ := S_offers (h := h1) (m := m1) (i := i) (v := v) (k := k) (s := s) (H := H) (C := C) (c := c) (f := f) k0 k1 s0 (by omega) c0 (by omega) f0 f1 H0 (by omega) (by rw [p2 _ _ _ (by omega), n2]; exact v2) (by omega) vc1 wc1 (by rw [p2 _ _ _ (by omega)]; exact hH) (by rw [q2 _ _ (by omega)]; exact hHm) cd sd zFu zFu 0 h1 m1 (by omega) (by omega) (by have := zFu_big; omega) (by have := zFu_big; omega) cd sd (fun _ _ _ _ => rfl) (fun _ _ _ => rfl)
  have f997 : m2 14 997 = m 14 997 + 1 := by rw [z6 _ _ (by omega), q3]
  have c66 : h2 66 i 0 = h 66 i 0 + 1 := by rw [z5 _ _ _ (by omega), p3]
  refine ⟨h2, m2, p1.trans z1, q1.trans z2, ?_, z3, z4, ?_, ?_, ?_, ?_, c66, f997, ?_, ?_, ?_⟩
  · intro w g0 g1
    rw [z5 _ _ _ (by omega), z6 _ _ (by omega)]
    exact cf w g0 g1
  · unfold SF
    rw [z6 _ (217 + 8 * s) (by omega), z6 _ (217 + 8 * s + 1) (by omega), z6 _ (217 + 8 * s + 2) (by omega), z6 _ (217 + 8 * s + 3) (by omega), z6 _ (217 + 8 * s + 4) (by omega), z6 _ (217 + 8 * s + 5) (by omega), z6 _ (217 + 8 * s + 6) (by omega), z6 _ (217 + 8 * s + 7) (by omega), z6 _ (457 + 18 * s + 3 * 0 + 2) (by omega), z6 _ (457 + 18 * s + 3 * 1 + 2) (by omega), z6 _ (457 + 18 * s + 3 * 2 + 2) (by omega), z6 _ (457 + 18 * s + 3 * 3 + 2) (by omega), z6 _ (457 + 18 * s + 3 * 4 + 2) (by omega), z6 _ (457 + 18 * s + 3 * 5 + 2) (by omega)]
    rw [q2 _ (217 + 8 * s) (by omega), q2 _ (217 + 8 * s + 1) (by omega), q2 _ (217 + 8 * s + 2) (by omega), q2 _ (217 + 8 * s + 3) (by omega), q2 _ (217 + 8 * s + 4) (by omega), q9, q10, q11, g6, q2 _ (457 + 18 * s + 3 * 0 + 2) (by omega), q2 _ (457 + 18 * s + 3 * 1 + 2) (by omega), q2 _ (457 + 18 * s + 3 * 2 + 2) (by omega), q2 _ (457 + 18 * s + 3 * 3 + 2) (by omega), q2 _ (457 + 18 * s + 3 * 4 + 2) (by omega), q2 _ (457 + 18 * s + 3 * 5 + 2) (by omega)]
    refine ⟨t1, t2, t3, t4, t5, ?_, by omega, wor_rng t8.1 t8.2 hr3 hr4⟩
    split <;> omega
  · refine EQ_step (a := m 14) (s := s) (c := c) (H := H) (f := f) (r := r) (N := m 14 997) hQ rfl s0 s1 hT6 c0 c1 H0 H1 f0 f1 hr3 hr4 ?_ ?_ f997 ?_ ?_ ?_ ?_ ?_ ?_ ?_ ?_
    · rw [z6 _ _ (by omega), q2 _ _ (by omega)]
    · rw [z6 _ _ (by omega), q2 _ _ (by omega)]
    · rw [z6 _ _ (by omega), q4]
    · rw [z6 _ _ (by omega), q5]
    · rw [z6 _ _ (by omega), q6, hHm]
    · rw [z6 _ _ (by omega), q7]
    · rw [z6 _ _ (by omega), q8]
    · rw [z6 _ _ (by omega), q10, g6]
    · intro s' g0 g1 g2
      rw [z6 _ _ (by omega), q2 _ _ (by omega)]
    · intro j g0 g1
      rw [z6 _ _ (by omega), q2 _ _ (by omega)]
  · refine ⟨by omega, fun r' n j hne => ?_⟩
    rw [z5 r' n j (by omega), p2 r' n j (by omega)]
  · refine ⟨by omega, by omega, fun j gz g0 g1 => ?_, fun r' j hne => ?_⟩
    · have e : j = m 14 997 := by omega
      subst e
      rw [z6 _ _ (by omega), q6]
    · rw [z6 r' j (by omega), q2 r' j (by omega)]
  · intro r' j g0 g1
    subst g0
    rw [z6 _ j (by omega), q2 _ j (by omega)]
  · rw [z6 _ _ (by omega), q10, g6]
  · intro ks hL
    obtain ⟨l1, l2⟩ := hL
    subst ks
    refine ⟨by omega, fun j j0 j1 w g0 g1 => ?_⟩
    rw [f997] at j1
    rw [z5 _ _ _ (by omega), z6 _ _ (by omega)]
    by_cases e : j = m 14 997
    · subst e
      rw [l1] at p4 p5 p6 p7 p8
      have o : w = 0 ∨ w = 1 ∨ w = 2 ∨ w = 3 ∨ w = 4 := by omega
      rcases o with o | o | o | o | o
      · subst o; rw [p4, Int.add_zero, q4]
      · subst o; rw [p5, q5]
      · subst o; rw [p6, q6, hH, hHm]
      · subst o; rw [p7, q7]
      · subst o; rw [p8, q8]
    · rw [p2 _ _ _ (by omega), q2 _ _ (by omega)]
      exact l2 j j0 (by omega) w g0 g1
end
