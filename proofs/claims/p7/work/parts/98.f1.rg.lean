/-! The start: class and reference related. -/
theorem zRd_f {h : zH1} {ci k n r : Nat} {v : Int} (i : Int) (hr : r / 64 = ci) (hk : r % 64 = k) (hb : Nat.ble 2 (zW ci k % 4) = false) (e : zF0 h ci k n v = true) : zRd h r (n : Int) i = v := by
  unfold zRd
  rw [hr, hk, hb]
  unfold zF0 at e
  cases hh : h[zlO ci (n : Int)]? with
  | none => rw [hh] at e; cases e
  | some c =>
    obtain ⟨a, b, f⟩ := c
    rw [hh] at e
    exact of_decide_eq_true e
theorem zRd_r {h : zH1} {r n : Nat} {v i : Int} (hb : Nat.ble 2 (zW (r / 64) (r % 64) % 4) = true) (e : zR0 h r n v = true) (h0 : 0 ≤ i) (h1 : i < (n : Int)) : zRd h r 0 i = v := by
  unfold zRd
  rw [hb]
  unfold zR0 at e
  cases hh : h[zlA r 0]? with
  | none => rw [hh] at e; cases e
  | some c =>
    obtain ⟨a, b, f⟩ := c
    rw [hh] at e
    have := List.all_eq_true.mp e i.toNat (List.mem_range.mpr (by omega))
    exact of_decide_eq_true this
theorem zRd_k {h : zH1} {j : Int} (e : zK0 h = true) (h0 : 0 ≤ j) (h1 : j < 21) : zRd h 330 0 j = zPk 32 (kw j) := by
  unfold zRd
  rw [show Nat.ble 2 (zW (330 / 64) (330 % 64) % 4) = true from by decide]
  unfold zK0 at e
  cases hh : h[zlA 330 0]? with
  | none => rw [hh] at e; cases e
  | some c =>
    obtain ⟨a, b, f⟩ := c
    rw [hh] at e
    have := List.all_eq_true.mp e j.toNat (List.mem_range.mpr (by omega))
    have := of_decide_eq_true this
    rw [show ((j.toNat : Nat) : Int) = j from by omega] at this
    exact this
theorem st_RG {h : zH1} (hk : zChk h = true) : RG (zGs h).1 (zGs h).2.1 := by
  unfold zChk at hk
  simp only [Bool.and_eq_true] at hk
  obtain ⟨-, -, ⟨r320, r769, r782, r790, r809, kK⟩, ⟨f51, f52, f10, f11, f12, f90, f91, f92, f93, f94, f95, f96, f60, f61, f80, f81, f30, f31, f40, f1114, f1115, f1116⟩, m2, m10, m23, m35, m44⟩ := hk
  have c321 : zRd h 321 0 0 = 0 := zRd_f (n := 0) 0 rfl rfl (by decide) f51
  have c322 : zRd h 322 0 0 = 0 := zRd_f (n := 0) 0 rfl rfl (by decide) f52
  have c64 : zRd h 64 0 0 = 0 := zRd_f (n := 0) 0 rfl rfl (by decide) f10
  have c65 : zRd h 65 0 0 = 0 := zRd_f (n := 0) 0 rfl rfl (by decide) f11
  have c66 : zRd h 66 0 0 = 0 := zRd_f (n := 0) 0 rfl rfl (by decide) f12
  have c576 : zRd h 576 0 0 = 0 := zRd_f (n := 0) 0 rfl rfl (by decide) f90
  have c577 : zRd h 577 0 0 = 0 := zRd_f (n := 0) 0 rfl rfl (by decide) f91
  have c578 : zRd h 578 0 0 = 0 := zRd_f (n := 0) 0 rfl rfl (by decide) f92
  have c579 : zRd h 579 0 0 = 0 := zRd_f (n := 0) 0 rfl rfl (by decide) f93
  have c580 : zRd h 580 0 0 = 0 := zRd_f (n := 0) 0 rfl rfl (by decide) f94
  have c581 : zRd h 581 0 0 = 0 := zRd_f (n := 0) 0 rfl rfl (by decide) f95
  have c582 : zRd h 582 0 0 = 0 := zRd_f (n := 0) 0 rfl rfl (by decide) f96
  have c384 : zRd h 384 0 0 = 0 := zRd_f (n := 0) 0 rfl rfl (by decide) f60
  have c385 : zRd h 385 0 0 = 0 := zRd_f (n := 0) 0 rfl rfl (by decide) f61
  have c512 : zRd h 512 0 0 = 0 := zRd_f (n := 0) 0 rfl rfl (by decide) f80
  have c513 : zRd h 513 0 0 = 0 := zRd_f (n := 0) 0 rfl rfl (by decide) f81
  have c192a : zRd h 192 0 0 = 0 := zRd_f (n := 0) 0 rfl rfl (by decide) f30
  have c192b : zRd h 192 1 0 = 0 := zRd_f (n := 1) 0 rfl rfl (by decide) f31
  have c256 : zRd h 256 0 0 = 0 := zRd_f (n := 0) 0 rfl rfl (by decide) f40
  have c718 : zRd h 718 0 0 = 0 := zRd_f (n := 0) 0 rfl rfl (by decide) f1114
  have c719 : zRd h 719 0 0 = -1 := zRd_f (n := 0) 0 rfl rfl (by decide) f1115
  have c720 : zRd h 720 0 0 = -1 := zRd_f (n := 0) 0 rfl rfl (by decide) f1116
  have n2 : zRd h (768 + 2) 0 0 = 0 := zRd_f (n := 0) 0 rfl rfl (by decide) m2
  have n10 : zRd h (768 + 10) 0 0 = 0 := zRd_f (n := 0) 0 rfl rfl (by decide) m10
  have n23 : zRd h (768 + 23) 0 0 = 0 := zRd_f (n := 0) 0 rfl rfl (by decide) m23
  have n35 : zRd h (768 + 35) 0 0 = 0 := zRd_f (n := 0) 0 rfl rfl (by decide) m35
  have n44 : zRd h (768 + 44) 0 0 = 0 := zRd_f (n := 0) 0 rfl rfl (by decide) m44
  have n1 : ∀ i : Int, 0 ≤ i → i < 940 → zRd h (768 + 1) 0 i = 0 := fun i h0 h1 => zRd_r (r := 769) (n := 940) (by decide) r769 h0 h1
  have n14 : ∀ i : Int, 0 ≤ i → i < 2140 → zRd h (768 + 14) 0 i = 0 := fun i h0 h1 => zRd_r (r := 782) (n := 2140) (by decide) r782 h0 h1
  have n22 : ∀ i : Int, 0 ≤ i → i < 2 → zRd h (768 + 22) 0 i = 0 := fun i h0 h1 => zRd_r (r := 790) (n := 2) (by decide) r790 h0 h1
  have n41 : ∀ i : Int, 0 ≤ i → i < 2 → zRd h (768 + 41) 0 i = -1 := fun i h0 h1 => zRd_r (r := 809) (n := 2) (by decide) r809 h0 h1
  have a14 : ∀ i : Int, 0 ≤ i → i < 2140 → (zGs h).2.1 14 i = 0 := n14
  refine ⟨?_, ⟨?_, ?_⟩, ?_, ?_, ?_, ?_, ?_, ?_, ?_⟩
  · refine ⟨c321.trans n2.symm, ?_, ?_, fun i h0 h1 => ⟨?_, ?_, ?_⟩, c322.trans n10.symm⟩
    · show 0 ≤ zRd h (768 + 2) 0 0
      rw [n2]; decide
    · show zRd h (768 + 2) 0 0 ≤ 940
      rw [n2]; decide
    · show zRd h 320 0 i = zRd h (768 + 1) 0 i
      rw [n1 i h0 h1]
      exact zRd_r (n := 940) (by decide) r320 h0 h1
    · show 0 ≤ zRd h (768 + 1) 0 i
      rw [n1 i h0 h1]; decide
    · show zRd h (768 + 1) 0 i ≤ 255
      rw [n1 i h0 h1]; decide
  · have e0 := a14 0 (by decide) (by decide)
    have e1 := a14 1 (by decide) (by decide)
    have e2 := a14 2 (by decide) (by decide)
    have e3 := a14 3 (by decide) (by decide)
    have e4 := a14 4 (by decide) (by decide)
    have e5 := a14 5 (by decide) (by decide)
    have e6 := a14 6 (by decide) (by decide)
    refine ⟨⟨c576.trans e0.symm, c577.trans e1.symm, c578.trans e2.symm, c579.trans e3.symm, c580.trans e4.symm, c581.trans e5.symm, c582.trans e6.symm⟩, fun c h0 h1 => by omega, fun c h0 h1 => by omega, fun c h0 h1 => by omega, fun x h0 h1 => ⟨fun q => ?_, fun ⟨k, q0, q1, _⟩ => by omega⟩, fun c h0 h1 => by omega, ⟨fun c h0 h1 => by omega, fun c h0 h1 => by omega⟩, ?_, fun c h0 h1 => by omega, fun c h0 h1 => by omega, fun c h0 h1 => by omega, fun c h0 h1 => by omega⟩
    · rw [a14 (97 + x) (by omega) (by omega)] at q
      omega
    · unfold WN
      omega
  · have e2 := a14 2 (by decide) (by decide)
    have e3 := a14 3 (by decide) (by decide)
    have e209 := a14 209 (by decide) (by decide)
    have e216 := a14 216 (by decide) (by decide)
    have e997 := a14 997 (by decide) (by decide)
    have d64 : (zGs h).1 64 0 0 = 0 := c64
    have d65 : (zGs h).1 65 0 0 = 0 := c65
    have d66 : (zGs h).1 66 0 0 = 0 := c66
    refine ⟨⟨d64.trans e209.symm, by omega, by decide, by omega, by omega, fun p h0 h1 => by omega, fun k h0 h1 => by omega⟩, ⟨d66.trans e997.symm, fun j h0 h1 => by omega⟩, by omega, by omega, fun s h0 h1 => by omega, ⟨by omega, ?_⟩, fun j h0 h1 => by omega, fun s h0 h1 => by omega⟩
    rw [e997, e216]
    rfl
  · have d512 : (zGs h).1 512 0 0 = 0 := c512
    have d513 : (zGs h).1 513 0 0 = 0 := c513
    have d23 : (zGs h).2.1 23 0 = 0 := n23
    exact ⟨d512.trans d23.symm, by omega, by omega, by omega, by omega, fun j h0 h1 => by omega⟩
  · intro k h0 h1
    have d22 : (zGs h).2.1 22 k = 0 := n22 k h0 h1
    refine ⟨?_, Or.inl d22, fun q => by omega⟩
    rw [d22]
    rcases (show k = 0 ∨ k = 1 by omega) with rfl | rfl
    · exact c192a
    · exact c192b
  · have d384 : (zGs h).1 384 0 0 = 0 := c384
    have d385 : (zGs h).1 385 0 0 = 0 := c385
    exact ⟨by omega, ⟨fun _ => a14 1898 (by decide) (by decide), fun _ => d384⟩, by omega, by omega, fun q => absurd d384 q⟩
  · have d256 : (zGs h).1 256 0 0 = 0 := c256
    have d35 : (zGs h).2.1 35 0 = 0 := n35
    refine ⟨by omega, by omega, ?_, fun j h0 h1 => by omega⟩
    rw [d256, d35]
    rfl
  · exact ⟨c719.trans (n41 0 (by decide) (by decide)).symm, c720.trans (n41 1 (by decide) (by decide)).symm⟩
  · have d718 : (zGs h).1 718 0 0 = 0 := c718
    have d44 : (zGs h).2.1 44 0 = 0 := n44
    exact ⟨d718.trans d44.symm, by omega, by omega, fun j h0 h1 => by omega⟩
  · intro j h0 h1
    exact zRd_k kK h0 h1
theorem st_all : ∃ h1 h2 : zH1, zSta1 = some (none, h1) ∧ zSta2 h1 = some (none, h2) ∧ h1.length = 172 ∧ h2.length = 196 ∧ zSl h2 ≤ 100000 ∧ zChk (zSta3 h2) = true := by
  have h := zAll0_ok
  unfold zAll0 at h
  split at h
  · rename_i h1 e1
    split at h
    · rename_i h2 e2
      simp only [Bool.and_eq_true] at h
      obtain ⟨a1, a2, a3, a4⟩ := h
      exact ⟨h1, h2, e1, e2, Nat.eq_of_beq_eq_true a1, Nat.eq_of_beq_eq_true a2, Nat.le_of_ble_eq_true a3, a4⟩
    · cases h
  · cases h
