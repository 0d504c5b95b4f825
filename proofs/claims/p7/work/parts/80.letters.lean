/-! letters of a word. -/
theorem wand31' {z : Int} : wand z 31 = z % 32 := by
  have e : ((Int32.ofInt z &&& Int32.ofInt 31).toBitVec).toNat = (Int32.ofInt z).toBitVec.toNat &&& (Int32.ofInt 31).toBitVec.toNat := rfl
  have e1 : (Int32.ofInt z).toBitVec.toNat = (z % (2 ^ 32 : Nat)).toNat := BitVec.toNat_ofInt z
  have e2 : (Int32.ofInt 31).toBitVec.toNat = 2 ^ 5 - 1 := by decide
  rw [e1, e2, Nat.and_two_pow_sub_one_eq_mod] at e
  have e3 : ((Int32.ofInt z &&& Int32.ofInt 31).toBitVec).toInt = (((Int32.ofInt z &&& Int32.ofInt 31).toBitVec).toNat : Int) := BitVec.toInt_eq_toNat_of_lt (by rw [e]; omega)
  show ((Int32.ofInt z &&& Int32.ofInt 31).toBitVec).toInt = z % 32
  rw [e3, e]
  omega
theorem qshr_c {x c : Int} {k : Nat} (e : (((Int32.ofInt c).toInt64 &&& 63).toBitVec.smod 64).toNat = k) (x0 : 0 ≤ x) (x1 : x < 9223372036854775808) : qshr x c = x / (2 ^ k : Nat) := by
  have e1 : qshr x c = ((Int64.ofInt x).toBitVec.sshiftRight (((Int32.ofInt c).toInt64 &&& 63).toBitVec.smod 64).toNat).toInt := rfl
  have e2 : (Int64.ofInt x).toBitVec.toInt = x := Int64.toInt_ofInt_of_le (by omega) (by omega)
  rw [e1, e, BitVec.toInt_sshiftRight, e2, Int.shiftRight_eq_div_pow]
theorem wl2i_m {x : Int} : wl2i x % 32 = x % 32 := by
  unfold wl2i
  rw [Int64.toInt_toInt32, Int64.toInt_ofInt]
  have a : ∀ y : Int, (Int.bmod y (2 ^ 32)) % 32 = y % 32 := fun y => by rw [Int.bmod_def]; split <;> omega
  have b : ∀ y : Int, (Int.bmod y (2 ^ 64)) % 32 = y % 32 := fun y => by rw [Int.bmod_def]; split <;> omega
  rw [a]
  exact b x
theorem q_dig {x i : Int} (x0 : 0 ≤ x) (x1 : x < 9223372036854775808) (i0 : 0 ≤ i) (i1 : i ≤ 6) : wand (wl2i (qshr x (wmul i 5))) 31 = x / (32 ^ i.toNat : Nat) % 32 := by
  rw [wand31', wl2i_m]
  have e : i = 0 ∨ i = 1 ∨ i = 2 ∨ i = 3 ∨ i = 4 ∨ i = 5 ∨ i = 6 := by omega
  rcases e with e | e | e | e | e | e | e <;> subst e
  · rw [qshr_c (k := 0) (by decide) x0 x1]; rfl
  · rw [qshr_c (k := 5) (by decide) x0 x1]; rfl
  · rw [qshr_c (k := 10) (by decide) x0 x1]; rfl
  · rw [qshr_c (k := 15) (by decide) x0 x1]; rfl
  · rw [qshr_c (k := 20) (by decide) x0 x1]; rfl
  · rw [qshr_c (k := 25) (by decide) x0 x1]; rfl
  · rw [qshr_c (k := 30) (by decide) x0 x1]; rfl
