/-! Arithmetic in range. -/
theorem wadd_eq {x y : Int} (h1 : -2147483648 ≤ x + y) (h2 : x + y < 2147483648) : wadd x y = x + y := by
  unfold wadd
  rw [← Int32.ofInt_add]
  exact Int32.toInt_ofInt_of_le h1 h2
theorem wsub_eq {x y : Int} (h1 : -2147483648 ≤ x - y) (h2 : x - y < 2147483648) : wsub x y = x - y := by
  unfold wsub
  rw [← Int32.ofInt_sub]
  exact Int32.toInt_ofInt_of_le h1 h2
theorem wmul_eq {x y : Int} (h1 : -2147483648 ≤ x * y) (h2 : x * y < 2147483648) : wmul x y = x * y := by
  unfold wmul
  rw [← Int32.ofInt_mul]
  exact Int32.toInt_ofInt_of_le h1 h2
theorem wdiv_eq {x y : Int} (h1 : 0 ≤ x) (h2 : x < 2147483648) (h3 : 0 < y) (h4 : y < 2147483648) : wdiv x y = x / y := by
  have e : x / y ≤ x := Int.ediv_le_self y h1
  have e0 : 0 ≤ x / y := Int.ediv_nonneg h1 (by omega)
  unfold wdiv
  rw [← Int32.ofInt_tdiv (by show (-2147483648 : Int) ≤ x; omega) (by show x ≤ (2147483647 : Int); omega) (by show (-2147483648 : Int) ≤ y; omega) (by show y ≤ (2147483647 : Int); omega), Int.tdiv_eq_ediv_of_nonneg h1]
  exact Int32.toInt_ofInt_of_le (by omega) (by omega)
theorem wrem_eq {x y : Int} (h1 : 0 ≤ x) (h2 : x < 2147483648) (h3 : 0 < y) (h4 : y < 2147483648) : wrem x y = x % y := by
  have e1 : 0 ≤ x % y := Int.emod_nonneg x (by omega)
  have e2 : x % y < y := Int.emod_lt_of_pos x h3
  unfold wrem
  rw [← Int32.ofInt_tdiv (by show (-2147483648 : Int) ≤ x; omega) (by show x ≤ (2147483647 : Int); omega) (by show (-2147483648 : Int) ≤ y; omega) (by show y ≤ (2147483647 : Int); omega), Int.tdiv_eq_ediv_of_nonneg h1, ← Int32.ofInt_mul, ← Int32.ofInt_sub]
  have e3 : x - x / y * y = x % y := by rw [Int.emod_def, Int.mul_comm]
  rw [e3]
  exact Int32.toInt_ofInt_of_le (by omega) (by omega)
theorem wneg_eq {x : Int} (h1 : -2147483648 < x) (h2 : x < 2147483648) : wneg x = -x := by
  unfold wneg
  rw [← Int32.ofInt_neg]
  exact Int32.toInt_ofInt_of_le (by omega) (by omega)
theorem qadd_eq {x y : Int} (h1 : -9223372036854775808 ≤ x + y) (h2 : x + y < 9223372036854775808) : qadd x y = x + y := by
  unfold qadd
  rw [← Int64.ofInt_add]
  exact Int64.toInt_ofInt_of_le h1 h2
theorem qsub_eq {x y : Int} (h1 : -9223372036854775808 ≤ x - y) (h2 : x - y < 9223372036854775808) : qsub x y = x - y := by
  unfold qsub
  rw [← Int64.ofInt_sub]
  exact Int64.toInt_ofInt_of_le h1 h2
theorem qmul_eq {x y : Int} (h1 : -9223372036854775808 ≤ x * y) (h2 : x * y < 9223372036854775808) : qmul x y = x * y := by
  unfold qmul
  rw [← Int64.ofInt_mul]
  exact Int64.toInt_ofInt_of_le h1 h2
theorem qdiv_eq {x y : Int} (h1 : 0 ≤ x) (h2 : x < 9223372036854775808) (h3 : 0 < y) (h4 : y < 9223372036854775808) : qdiv x y = x / y := by
  have e : x / y ≤ x := Int.ediv_le_self y h1
  have e0 : 0 ≤ x / y := Int.ediv_nonneg h1 (by omega)
  unfold qdiv
  rw [← Int64.ofInt_tdiv (by show (-9223372036854775808 : Int) ≤ x; omega) (by show x ≤ (9223372036854775807 : Int); omega) (by show (-9223372036854775808 : Int) ≤ y; omega) (by show y ≤ (9223372036854775807 : Int); omega), Int.tdiv_eq_ediv_of_nonneg h1]
  exact Int64.toInt_ofInt_of_le (by omega) (by omega)
theorem qrem_eq {x y : Int} (h1 : 0 ≤ x) (h2 : x < 9223372036854775808) (h3 : 0 < y) (h4 : y < 9223372036854775808) : qrem x y = x % y := by
  have e1 : 0 ≤ x % y := Int.emod_nonneg x (by omega)
  have e2 : x % y < y := Int.emod_lt_of_pos x h3
  unfold qrem
  rw [← Int64.ofInt_tdiv (by show (-9223372036854775808 : Int) ≤ x; omega) (by show x ≤ (9223372036854775807 : Int); omega) (by show (-9223372036854775808 : Int) ≤ y; omega) (by show y ≤ (9223372036854775807 : Int); omega), Int.tdiv_eq_ediv_of_nonneg h1, ← Int64.ofInt_mul, ← Int64.ofInt_sub]
  have e3 : x - x / y * y = x % y := by rw [Int.emod_def, Int.mul_comm]
  rw [e3]
  exact Int64.toInt_ofInt_of_le (by omega) (by omega)
theorem wl2i_eq {x : Int} (h1 : -2147483648 ≤ x) (h2 : x < 2147483648) : wl2i x = x := by
  unfold wl2i
  rw [Int64.toInt_toInt32, Int64.toInt_ofInt_of_le (by omega) (by omega)]
  exact Int.bmod_eq_of_le (by omega) (by omega)
theorem qcmp_0 {x y : Int} : qcmp x y = 0 ↔ x = y := by
  unfold qcmp
  constructor
  · intro h
    split at h
    · cases h
    · split at h
      · assumption
      · cases h
  · intro h
    subst h
    rw [if_neg (by omega), if_pos rfl]
theorem i32_nat {v : Int32} {n : Nat} (h : v.toBitVec.toNat = n) (hn : n < 2147483648) : v.toInt = n := by
  rw [← Int32.toInt_toBitVec, BitVec.toInt_eq_toNat_of_lt (by rw [h]; omega), h]
theorem i64_nat {v : Int64} {n : Nat} (h : v.toBitVec.toNat = n) (hn : n < 9223372036854775808) : v.toInt = n := by
  rw [← Int64.toInt_toBitVec, BitVec.toInt_eq_toNat_of_lt (by rw [h]; omega), h]
theorem i32_of {x : Int} (h0 : 0 ≤ x) (h1 : x < 2147483648) : (Int32.ofInt x).toBitVec.toNat = x.toNat := by
  rw [Int32.toBitVec_ofInt, BitVec.toNat_ofInt, Int.emod_eq_of_lt h0 (by omega)]
theorem i64_of {x : Int} (h0 : 0 ≤ x) (h1 : x < 9223372036854775808) : (Int64.ofInt x).toBitVec.toNat = x.toNat := by
  rw [Int64.toBitVec_ofInt, BitVec.toNat_ofInt, Int.emod_eq_of_lt h0 (by omega)]
theorem wand_rng {x y : Int} (h0 : 0 ≤ y) (h1 : y < 2147483648) : 0 ≤ wand x y ∧ wand x y ≤ y := by
  have e : ((Int32.ofInt x &&& Int32.ofInt y).toBitVec).toNat = (Int32.ofInt x).toBitVec.toNat &&& (Int32.ofInt y).toBitVec.toNat := rfl
  have e2 := Nat.and_le_right (n := (Int32.ofInt x).toBitVec.toNat) (m := (Int32.ofInt y).toBitVec.toNat)
  have e3 := i32_of h0 h1
  unfold wand
  rw [i32_nat e (by omega)]
  omega
theorem wand_eq {x y : Int} (h0 : 0 ≤ x) (h1 : x < 2147483648) (h2 : 0 ≤ y) (h3 : y < 2147483648) : wand x y = ((x.toNat &&& y.toNat : Nat) : Int) := by
  have e : ((Int32.ofInt x &&& Int32.ofInt y).toBitVec).toNat = (Int32.ofInt x).toBitVec.toNat &&& (Int32.ofInt y).toBitVec.toNat := rfl
  have e2 := Nat.and_le_right (n := (Int32.ofInt x).toBitVec.toNat) (m := (Int32.ofInt y).toBitVec.toNat)
  unfold wand
  rw [i32_nat e (by have := i32_of h2 h3; omega), i32_of h0 h1, i32_of h2 h3]
theorem wand31 {x : Int} (h0 : 0 ≤ x) (h1 : x < 2147483648) : wand x 31 = x % 32 := by
  rw [wand_eq h0 h1 (by decide) (by decide)]
  have e : (31 : Int).toNat = 2 ^ 5 - 1 := by decide
  rw [e, Nat.and_two_pow_sub_one_eq_mod]
  omega
theorem wushr8_rng {x : Int} : 0 ≤ wushr x 8 ∧ wushr x 8 < 16777216 := by
  have e0 : (Int32.ofInt 8).toUInt32 &&& Int32.toUInt32 31 = 8 := by decide
  have e : (((Int32.ofInt x).toUInt32 >>> (8 : UInt32)).toInt32).toBitVec.toNat = (Int32.ofInt x).toUInt32.toNat >>> 8 := rfl
  have e2 : (Int32.ofInt x).toUInt32.toNat < 4294967296 := UInt32.toNat_lt _
  have e3 : (Int32.ofInt x).toUInt32.toNat >>> 8 < 16777216 := by
    rw [Nat.shiftRight_eq_div_pow]
    omega
  unfold wushr
  rw [e0, i32_nat e (by omega)]
  omega
theorem q_letter {x d : Int} (h0 : 0 ≤ x) (h1 : x < 1125899906842624) (h2 : 0 ≤ d) (h3 : d < 32) : qor (qshl x 5) d = 32 * x + d := by
  have e0 : (Int32.ofInt 5).toInt64 &&& 63 = 5 := by decide
  have e1 : (Int64.ofInt x <<< (5 : Int64)).toBitVec.toNat = ((Int64.ofInt x).toBitVec.toNat <<< 5) % 2 ^ 64 := by
    show ((Int64.ofInt x).toBitVec <<< ((5 : Int64).toBitVec.smod 64)).toNat = _
    have e : ((5 : Int64).toBitVec.smod 64) = 5#64 := by decide
    rw [e]
    show ((Int64.ofInt x).toBitVec <<< (5#64).toNat).toNat = _
    rw [BitVec.toNat_shiftLeft]
    rfl
  have e2 : (Int64.ofInt x <<< (5 : Int64)).toBitVec.toNat = x.toNat <<< 5 := by
    rw [e1, i64_of h0 (by omega), Nat.shiftLeft_eq]
    omega
  have e3 : (Int64.ofInt x <<< (5 : Int64)).toInt = 32 * x := by
    rw [i64_nat e2 (by rw [Nat.shiftLeft_eq]; omega), Nat.shiftLeft_eq]
    omega
  have e4 : qshl x 5 = 32 * x := by
    unfold qshl
    rw [e0, e3]
  have e5 : ((Int64.ofInt (32 * x) ||| Int64.ofInt d).toBitVec).toNat = (Int64.ofInt (32 * x)).toBitVec.toNat ||| (Int64.ofInt d).toBitVec.toNat := rfl
  have e6 : (Int64.ofInt (32 * x)).toBitVec.toNat ||| (Int64.ofInt d).toBitVec.toNat = 32 * x.toNat + d.toNat := by
    rw [i64_of (by omega) (by omega), i64_of h2 (by omega)]
    have e7 : (32 * x).toNat = x.toNat <<< 5 := by
      rw [Nat.shiftLeft_eq]
      omega
    rw [e7, ← Nat.shiftLeft_add_eq_or_of_lt (by omega), Nat.shiftLeft_eq]
    omega
  rw [e4]
  unfold qor
  rw [i64_nat (e5.trans e6) (by omega)]
  omega
/-- a property of all numbers of a range, by trying them -/
theorem z_all {p : Nat → Bool} {n : Nat} (h : (List.range n).all p = true) {x : Int} (h0 : 0 ≤ x) (h1 : x < n) : p x.toNat = true :=
  List.all_eq_true.mp h x.toNat (List.mem_range.mpr (by omega))
theorem zG_t {β : Type} {p : Prop} [Decidable p] {t : Option β} (h : p) : zG p t = t := if_pos h
theorem hset_a (h : zHC) (r : Nat) (n i v : Int) (r' : Nat) (n' i' : Int) : hset h r n i v r' n' i' = if r' = r ∧ n' = n ∧ i' = i then v else h r' n' i' := rfl
theorem mset_a (h : zHM) (k : Nat) (i v : Int) (k' : Nat) (i' : Int) : mset h k i v k' i' = if k' = k ∧ i' = i then v else h k' i' := rfl
theorem hcpy_a (h : zHC) (rd : Nat) (nd : Int) (rs : Nat) (ns sp dp n : Int) (r' : Nat) (n' i' : Int) : hcpy h rd nd rs ns sp dp n r' n' i' = if r' = rd ∧ n' = nd ∧ dp ≤ i' ∧ i' < dp + n then h rs ns (sp + (i' - dp)) else h r' n' i' := rfl
