/-! The cells of the start lie apart. -/
theorem zOI_ok : (List.range 13).all (fun ci => (List.range (zCnt ci)).all (fun n => Nat.beq (zOI.getD (zlO ci (n : Int)) 0) (ci * 64 + n + 1))) = true := by decide +kernel
theorem zAI_ok : (List.range 13).all (fun ci => (List.range (zNf ci)).all (fun k => !Nat.beq (zW ci k % 4) 2 || (List.range (zCnt ci)).all (fun n => Nat.beq (zAI.getD (zlA (ci * 64 + k) (n : Int)) 0) ((ci * 64 + k) * 64 + n + 1)))) = true := by decide +kernel
theorem zCnt_le : (List.range 13).all (fun ci => Nat.ble (zCnt ci) 64) = true := by decide +kernel
theorem zAp_ok : zAp zlO zlA := by
  have hO : ∀ (ci : Nat) (n : Int), ci < 13 → 0 ≤ n → n < (zCnt ci : Int) → zOI.getD (zlO ci n) 0 = ci * 64 + n.toNat + 1 ∧ n.toNat < 64 := by
    intro ci n hc h0 h1
    have a := List.all_eq_true.mp (List.all_eq_true.mp zOI_ok ci (List.mem_range.mpr hc)) n.toNat (List.mem_range.mpr (by omega))
    rw [show ((n.toNat : Nat) : Int) = n from by omega] at a
    have b := Nat.le_of_ble_eq_true (List.all_eq_true.mp zCnt_le ci (List.mem_range.mpr hc))
    exact ⟨Nat.eq_of_beq_eq_true a, by omega⟩
  have hA : ∀ (ci k x : Nat) (n : Int), ci < 13 → k < zNf ci → zW ci k = 2 + 4 * x → 0 ≤ n → n < (zCnt ci : Int) → zAI.getD (zlA (ci * 64 + k) n) 0 = (ci * 64 + k) * 64 + n.toNat + 1 ∧ n.toNat < 64 := by
    intro ci k x n hc hk hw h0 h1
    have a := List.all_eq_true.mp (List.all_eq_true.mp zAI_ok ci (List.mem_range.mpr hc)) k (List.mem_range.mpr hk)
    rw [show zW ci k % 4 = 2 from by omega] at a
    have a := List.all_eq_true.mp (show (List.range (zCnt ci)).all (fun n => Nat.beq (zAI.getD (zlA (ci * 64 + k) (n : Int)) 0) ((ci * 64 + k) * 64 + n + 1)) = true from a) n.toNat (List.mem_range.mpr (by omega))
    rw [show ((n.toNat : Nat) : Int) = n from by omega] at a
    have b := Nat.le_of_ble_eq_true (List.all_eq_true.mp zCnt_le ci (List.mem_range.mpr hc))
    exact ⟨Nat.eq_of_beq_eq_true a, by omega⟩
  refine ⟨fun ci k x n hc hk hw h0 h1 q => ?_, fun ci cj n n' hc hc' h0 h1 h0' h1' q => ?_, fun ci k x cj k' x' n n' hc hk hw h0 h1 hc' hk' hw' h0' h1' q => ?_⟩
  · have a := (hA ci k x n hc hk hw h0 h1).1
    rw [q] at a
    have b : zAI.getD (zlO 20 0) 0 = 0 := by decide +kernel
    omega
  · have a := hO ci n hc h0 h1
    have b := hO cj n' hc' h0' h1'
    rw [q] at a
    exact ⟨by omega, by omega⟩
  · have a := hA ci k x n hc hk hw h0 h1
    have b := hA cj k' x' n' hc' hk' hw' h0' h1'
    rw [q] at a
    have c1 := (zNf_le2 hc hk).2
    have c2 := (zNf_le2 hc' hk').2
    exact ⟨by omega, by omega, by omega⟩
