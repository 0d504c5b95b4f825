/-! The start: the heap that the constructors leave, and the second heap read off it. -/
/-- what a region holds, read off the cells -/
def zRd (h : zH1) (r : Nat) (n i : Int) : Int := match Nat.ble 2 (zW (r / 64) (r % 64) % 4) with
  | false => match h[zlO (r / 64) n]? with
    | some (_, _, f) => f (r % 64)
    | none => 0
  | true => match h[zlA r n]? with
    | some (_, _, f) => f i.toNat
    | none => 0
def zGs (h : zH1) : zH2 := (fun r n i => zRd h r n i, fun k i => zRd h (768 + k) 0 i, fun _ => match h[zlO 20 0]? with
  | some (_, _, f) => f 0
  | none => 0)
/-- the form of an object's cell -/
def zOb (h : zH1) (ci : Nat) (n : Nat) : Bool := match h[zlO ci (n : Int)]? with
  | some (k, m, f) => (Nat.beq k ci && Nat.beq m (zNf ci)) && (List.range (zNf ci)).all (fun j => match zW ci j % 4 with
    | 0 => true
    | 1 => true
    | 2 => decide (f j = (zlA (ci * 64 + j) (n : Int) : Int))
    | _ => match zW ci j / 64 % 2 with
      | 0 => decide (f j = (zlO (zW ci j / 4 % 16) ((zW ci j / 128 : Nat) : Int) : Int))
      | _ => decide (f j = (zlO (zW ci j / 4 % 16) ((n : Int) + ((zW ci j / 128 : Nat) : Int)) : Int)))
  | none => false
/-- the form of a row's cell -/
def zRo (h : zH1) (ci j : Nat) (n : Nat) : Bool := match zW ci j % 4 with
  | 2 => match h[zlA (ci * 64 + j) (n : Int)]? with
    | some (k, m, f) => (Nat.beq k (zW ci j / 4 / 65536) && Nat.beq m (zW ci j / 4 % 65536)) && (match k with
      | 23 => (List.range m).all (fun i => decide (f i = (zlO 1 (2 + (i : Int)) : Int)))
      | 24 => (List.range m).all (fun i => decide (f i = (zlO 3 (i : Int) : Int)))
      | _ => true)
    | none => false
  | _ => true
def zOk (h : zH1) : Bool := (List.range 13).all (fun ci => (List.range (zCnt ci)).all (fun n => zOb h ci n && (List.range (zNf ci)).all (fun j => zRo h ci j n))) && (match h[zlO 20 0]? with
  | some (k, m, _) => Nat.beq k 21 && Nat.beq m 1
  | none => false)
theorem zOk_s {h : zH1} (hk : zOk h = true) : zR2 zlO zlA (zGs h) h := by
  unfold zOk at hk
  rw [Bool.and_eq_true] at hk
  obtain ⟨k1, k2⟩ := hk
  have key : ∀ (ci : Nat) (n : Int), ci < 13 → 0 ≤ n → n < (zCnt ci : Int) → zOb h ci n.toNat = true ∧ ∀ j, j < zNf ci → zRo h ci j n.toNat = true := by
    intro ci n hc h0 h1
    have a1 := List.all_eq_true.mp k1 ci (List.mem_range.mpr hc)
    have a2 := List.all_eq_true.mp a1 n.toNat (List.mem_range.mpr (by omega))
    rw [Bool.and_eq_true] at a2
    exact ⟨a2.1, fun j hj => List.all_eq_true.mp a2.2 j (List.mem_range.mpr hj)⟩
  have hdiv : ∀ ci j, j < 64 → (ci * 64 + j) / 64 = ci ∧ (ci * 64 + j) % 64 = j := by
    intro ci j hj
    exact ⟨by omega, by omega⟩
  refine ⟨fun ci n hc h0 h1 => ?_, fun ci j x n hc hj hw h0 h1 => ?_, ?_⟩
  · obtain ⟨q, -⟩ := key ci n hc h0 h1
    have en : ((n.toNat : Nat) : Int) = n := by omega
    unfold zOb at q
    rw [en] at q
    split at q
    · rename_i k m f hcell
      simp only [Bool.and_eq_true] at q
      obtain ⟨⟨q1, q2⟩, q3⟩ := q
      have q1 := Nat.eq_of_beq_eq_true q1
      have q2 := Nat.eq_of_beq_eq_true q2
      subst q1
      subst q2
      refine ⟨f, hcell, fun j hj => ?_⟩
      have q4 := List.all_eq_true.mp q3 j (List.mem_range.mpr hj)
      have hlt := zNf_le2 hc hj
      obtain ⟨d1, d2⟩ := hdiv k j hlt.2
      have read : zW k j % 4 < 2 → f j = zGt (zGs h) (k * 64 + j) n 0 := by
        intro hlow
        have hb : Nat.ble 2 (zW k j % 4) = false := by
          cases q : Nat.ble 2 (zW k j % 4) with
          | false => rfl
          | true => have := Nat.le_of_ble_eq_true q; omega
        unfold zGt
        cases q : Nat.ble 768 (k * 64 + j) with
        | false =>
          show f j = zRd h (k * 64 + j) n 0
          unfold zRd
          rw [d1, d2, hb, hcell]
        | true =>
          have q := Nat.le_of_ble_eq_true q
          have e12 : k = 12 := by omega
          subst e12
          have n0 : n = 0 := by
            rw [zCnt12] at h1
            omega
          subst n0
          show f j = zRd h (768 + (12 * 64 + j - 768)) 0 0
          rw [show 768 + (12 * 64 + j - 768) = 12 * 64 + j from by omega]
          unfold zRd
          rw [d1, d2, hb, hcell]
      unfold zFl2
      split at q4
      · rename_i e; rw [e]; exact read (by omega)
      · rename_i e; rw [e]; exact read (by omega)
      · rename_i e; rw [e]; exact (show f j = (zlA (k * 64 + j) n : Int) from of_decide_eq_true q4)
      · rename_i e0 e1 e2
        split
        · rename_i e; exact absurd e e0
        · rename_i e; exact absurd e e1
        · rename_i e; exact absurd e e2
        · split at q4
          · rename_i e; rw [e]; exact (show f j = (zlO (zW k j / 4 % 16) ((zW k j / 128 : Nat) : Int) : Int) from of_decide_eq_true q4)
          · rename_i e
            split
            · rename_i e'; exact absurd e' e
            · exact of_decide_eq_true q4
    · cases q
  · obtain ⟨-, q⟩ := key ci n hc h0 h1
    have q := q j hj
    have en : ((n.toNat : Nat) : Int) = n := by omega
    have hlt := zNf_le2 hc hj
    obtain ⟨d1, d2⟩ := hdiv ci j hlt.2
    have e2 : zW ci j % 4 = 2 := by omega
    have ex : zW ci j / 4 = x := by omega
    unfold zRo at q
    rw [en, e2, ex] at q
    split at q
    · split at q
      · rename_i k m f hcell
        simp only [Bool.and_eq_true] at q
        obtain ⟨⟨q1, q2⟩, q3⟩ := q
        have q1 := Nat.eq_of_beq_eq_true q1
        have q2 := Nat.eq_of_beq_eq_true q2
        subst q1
        subst q2
        refine ⟨f, hcell, fun i hi => ?_⟩
        unfold zRw2
        split at q3
        · rename_i e
          rw [e]
          exact (show f i = (zlO 1 (2 + (i : Int)) : Int) from of_decide_eq_true (List.all_eq_true.mp q3 i (List.mem_range.mpr hi)))
        · rename_i e
          rw [e]
          exact (show f i = (zlO 3 (i : Int) : Int) from of_decide_eq_true (List.all_eq_true.mp q3 i (List.mem_range.mpr hi)))
        · rename_i e3 e4
          split
          · rename_i e; exact absurd e e3
          · rename_i e; exact absurd e e4
          · unfold zGt
            cases q : Nat.ble 768 (ci * 64 + j) with
            | false =>
              show f i = zRd h (ci * 64 + j) n (i : Int)
              unfold zRd
              rw [d1, d2, e2, hcell]
              rfl
            | true =>
              have q := Nat.le_of_ble_eq_true q
              have e12 : ci = 12 := by omega
              subst e12
              have n0 : n = 0 := by
                rw [zCnt12] at h1
                omega
              subst n0
              show f i = zRd h (768 + (12 * 64 + j - 768)) 0 (i : Int)
              rw [show 768 + (12 * 64 + j - 768) = 12 * 64 + j from by omega]
              unfold zRd
              rw [d1, d2, e2, hcell]
              rfl
      · cases q
    · rename_i hne
      exact absurd rfl hne
  · split at k2
    · rename_i k m f hcell
      rw [Bool.and_eq_true] at k2
      have q1 := Nat.eq_of_beq_eq_true k2.1
      have q2 := Nat.eq_of_beq_eq_true k2.2
      subst q1
      subst q2
      refine ⟨f, hcell, ?_⟩
      show f 0 = (match h[zlO 20 0]? with
        | some (_, _, f) => f 0
        | none => 0)
      rw [hcell]
    · cases k2
def zOs : List Nat := (List.range 13).flatMap (fun ci => (List.range (zCnt ci)).map (fun (n : Nat) => zlO ci (n : Int)))
