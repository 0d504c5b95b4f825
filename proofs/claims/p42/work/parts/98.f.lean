section
/-! The start: class and reference related. -/
theorem zRd_f {h : zH1} {ci k n r : Nat} {v : Int} (i : Int) (hr : r / 64 = ci) (hk : r % 64 = k) (hb : Nat.ble 2 (zW ci k % 4) = false) (e : zF0 h ci k n v = true) : zRd h r (n : Int) i = v := by
  unfold zRd
  rw [hr, hk, hb]
  unfold zF0 at e
  cases hh : h[zlO ci (n : Int)]? with
  | none => rw [hh] at e; cases e
  | some c =>
    obtain ⟨a, b, f⟩ := c
    rw [hh] at e
    exact of_decide_eq_true e
theorem zRd_r {h : zH1} {r n : Nat} {v i : Int} (hb : Nat.ble 2 (zW (r / 64) (r % 64) % 4) = true) (e : zR0 h r n v = true) (h0 : 0 ≤ i) (h1 : i < (n : Int)) : zRd h r 0 i = v := by
  unfold zRd
  rw [hb]
  unfold zR0 at e
  cases hh : h[zlA r 0]? with
  | none => rw [hh] at e; cases e
  | some c =>
    obtain ⟨a, b, f⟩ := c
    rw [hh] at e
    have := List.all_eq_true.mp e i.toNat (List.mem_range.mpr (by omega))
    exact of_decide_eq_true this
theorem zRd_k {h : zH1} {j : Int} (e : zK0 h = true) (h0 : 0 ≤ j) (h1 : j < 21) : zRd h 330 0 j = zPk 32 (kw j) := by
  unfold zRd
  rw [show Nat.ble 2 (zW (330 / 64) (330 % 64) % 4) = true from by decide +kernel]
  unfold zK0 at e
  cases hh : h[zlA 330 0]? with
  | none => rw [hh] at e; cases e
  | some c =>
    obtain ⟨a, b, f⟩ := c
    rw [hh] at e
    have := List.all_eq_true.mp e j.toNat (List.mem_range.mpr (by omega))
    have := of_decide_eq_true this
    rw [show ((j.toNat : Nat) : Int) = j from by omega] at this
    exact this
theorem st_RGx {hc : zHC} {hm : zHM} (c321 : hc 321 0 0 = 0) (c322 : hc 322 0 0 = 0) (c64 : hc 64 0 0 = 0) (c65 : hc 65 0 0 = 0) (c66 : hc 66 0 0 = 0) (c576 : hc 576 0 0 = 0) (c577 : hc 577 0 0 = 0) (c578 : hc 578 0 0 = 0) (c579 : hc 579 0 0 = 0) (c580 : hc 580 0 0 = 0) (c581 : hc 581 0 0 = 0) (c582 : hc 582 0 0 = 0) (c384 : hc 384 0 0 = 0) (c385 : hc 385 0 0 = 0) (c512 : hc 512 0 0 = 0) (c513 : hc 513 0 0 = 0) (c192a : hc 192 0 0 = 0) (c192b : hc 192 1 0 = 0) (c256 : hc 256 0 0 = 0) (c718 : hc 718 0 0 = 0) (c719 : hc 719 0 0 = -1) (c720 : hc 720 0 0 = -1) (n2 : hm 2 0 = 0) (n10 : hm 10 0 = 0) (n23 : hm 23 0 = 0) (n35 : hm 35 0 = 0) (n44 : hm 44 0 = 0) (n1 : ∀ i : Int, 0 ≤ i → i < 940 → hm 1 i = 0) (n14 : ∀ i : Int, 0 ≤ i → i < 2140 → hm 14 i = 0) (n22 : ∀ i : Int, 0 ≤ i → i < 2 → hm 22 i = 0) (n41 : ∀ i : Int, 0 ≤ i → i < 2 → hm 41 i = -1) (c320 : ∀ i : Int, 0 ≤ i → i < 940 → hc 320 0 i = 0) (c330 : ∀ j : Int, 0 ≤ j → j < 21 → hc 330 0 j = zPk 32 (kw j)) : RG hc hm := by
  refine ⟨?_, ⟨?_, ?_⟩, ?_, ?_, ?_, ?_, ?_, ?_, ?_⟩
  · refine ⟨c321.trans n2.symm, ?_, ?_, fun i h0 h1 => ⟨?_, ?_, ?_⟩, c322.trans n10.symm⟩
    · show 0 ≤ hm 2 0
      rw [n2]; decide
    · show hm 2 0 ≤ 940
      rw [n2]; decide
    · show hc 320 0 i = hm 1 i
      rw [n1 i h0 h1]
      exact c320 i h0 h1
    · show 0 ≤ hm 1 i
      rw [n1 i h0 h1]; decide
    · show hm 1 i ≤ 255
      rw [n1 i h0 h1]; decide
  · have e0 := n14 0 (by decide) (by decide)
    have e1 := n14 1 (by decide) (by decide)
    have e2 := n14 2 (by decide) (by decide)
    have e3 := n14 3 (by decide) (by decide)
    have e4 := n14 4 (by decide) (by decide)
    have e5 := n14 5 (by decide) (by decide)
    have e6 := n14 6 (by decide) (by decide)
    refine ⟨⟨c576.trans e0.symm, c577.trans e1.symm, c578.trans e2.symm, c579.trans e3.symm, c580.trans e4.symm, c581.trans e5.symm, c582.trans e6.symm⟩, fun c h0 h1 => by omega, fun c h0 h1 => by omega, fun c h0 h1 => by omega, fun x h0 h1 => ⟨fun q => ?_, fun ⟨k, q0, q1, _⟩ => by omega⟩, fun c h0 h1 => by omega, ⟨fun c h0 h1 => by omega, fun c h0 h1 => by omega⟩, ?_, fun c h0 h1 => by omega, fun c h0 h1 => by omega, fun c h0 h1 => by omega, fun c h0 h1 => by omega⟩
    · rw [n14 (97 + x) (by omega) (by omega)] at q
      omega
    · unfold WN
      omega
  · have e2 := n14 2 (by decide) (by decide)
    have e3 := n14 3 (by decide) (by decide)
    have e209 := n14 209 (by decide) (by decide)
    have e216 := n14 216 (by decide) (by decide)
    have e997 := n14 997 (by decide) (by decide)
    have d64 : hc 64 0 0 = 0 := c64
    have d65 : hc 65 0 0 = 0 := c65
    have d66 : hc 66 0 0 = 0 := c66
    refine ⟨⟨d64.trans e209.symm, by omega, by decide, by omega, by omega, fun p h0 h1 => by omega, fun k h0 h1 => by omega⟩, ⟨d66.trans e997.symm, fun j h0 h1 => by omega⟩, by omega, by omega, fun s h0 h1 => by omega, ⟨by omega, ?_⟩, fun j h0 h1 => by omega, fun s h0 h1 => by omega⟩
    rw [e997, e216]
    rfl
  · have d512 : hc 512 0 0 = 0 := c512
    have d513 : hc 513 0 0 = 0 := c513
    have d23 : hm 23 0 = 0 := n23
    exact ⟨d512.trans d23.symm, by omega, by omega, by omega, by omega, fun j h0 h1 => by omega⟩
  · intro k h0 h1
    have d22 : hm 22 k = 0 := n22 k h0 h1
    refine ⟨?_, Or.inl d22, fun q => by omega⟩
    rw [d22]
    rcases (show k = 0 ∨ k = 1 by omega) with rfl | rfl
    · exact c192a
    · exact c192b
  · have d384 : hc 384 0 0 = 0 := c384
    have d385 : hc 385 0 0 = 0 := c385
    exact ⟨by omega, ⟨fun _ => n14 1898 (by decide) (by decide), fun _ => d384⟩, by omega, by omega, fun q => absurd d384 q⟩
  · have d256 : hc 256 0 0 = 0 := c256
    have d35 : hm 35 0 = 0 := n35
    refine ⟨by omega, by omega, ?_, fun j h0 h1 => by omega⟩
    rw [d256, d35]
    rfl
  · exact ⟨c719.trans (n41 0 (by decide) (by decide)).symm, c720.trans (n41 1 (by decide) (by decide)).symm⟩
  · have d718 : hc 718 0 0 = 0 := c718
    have d44 : hm 44 0 = 0 := n44
    exact ⟨d718.trans d44.symm, by omega, by omega, fun j h0 h1 => by omega⟩
  · intro j h0 h1
    exact c330 j h0 h1
theorem st_RG {h : zH1} (hk : zChk h = true) : RG (zGs h).1 (zGs h).2.1 := by
  unfold zChk at hk
  simp only [Bool.and_eq_true] at hk
  obtain ⟨-, -, ⟨r320, r769, r782, r790, r809, kK⟩, ⟨f51, f52, f10, f11, f12, f90, f91, f92, f93, f94, f95, f96, f60, f61, f80, f81, f30, f31, f40, f1114, f1115, f1116⟩, m2, m10, m23, m35, m44⟩ := hk
  have c321 : zRd h 321 0 0 = 0 := zRd_f (n := 0) 0 rfl rfl (by decide +kernel) f51
  have c322 : zRd h 322 0 0 = 0 := zRd_f (n := 0) 0 rfl rfl (by decide +kernel) f52
  have c64 : zRd h 64 0 0 = 0 := zRd_f (n := 0) 0 rfl rfl (by decide +kernel) f10
  have c65 : zRd h 65 0 0 = 0 := zRd_f (n := 0) 0 rfl rfl (by decide +kernel) f11
  have c66 : zRd h 66 0 0 = 0 := zRd_f (n := 0) 0 rfl rfl (by decide +kernel) f12
  have c576 : zRd h 576 0 0 = 0 := zRd_f (n := 0) 0 rfl rfl (by decide +kernel) f90
  have c577 : zRd h 577 0 0 = 0 := zRd_f (n := 0) 0 rfl rfl (by decide +kernel) f91
  have c578 : zRd h 578 0 0 = 0 := zRd_f (n := 0) 0 rfl rfl (by decide +kernel) f92
  have c579 : zRd h 579 0 0 = 0 := zRd_f (n := 0) 0 rfl rfl (by decide +kernel) f93
  have c580 : zRd h 580 0 0 = 0 := zRd_f (n := 0) 0 rfl rfl (by decide +kernel) f94
  have c581 : zRd h 581 0 0 = 0 := zRd_f (n := 0) 0 rfl rfl (by decide +kernel) f95
  have c582 : zRd h 582 0 0 = 0 := zRd_f (n := 0) 0 rfl rfl (by decide +kernel) f96
  have c384 : zRd h 384 0 0 = 0 := zRd_f (n := 0) 0 rfl rfl (by decide +kernel) f60
  have c385 : zRd h 385 0 0 = 0 := zRd_f (n := 0) 0 rfl rfl (by decide +kernel) f61
  have c512 : zRd h 512 0 0 = 0 := zRd_f (n := 0) 0 rfl rfl (by decide +kernel) f80
  have c513 : zRd h 513 0 0 = 0 := zRd_f (n := 0) 0 rfl rfl (by decide +kernel) f81
  have c192a : zRd h 192 0 0 = 0 := zRd_f (n := 0) 0 rfl rfl (by decide +kernel) f30
  have c192b : zRd h 192 1 0 = 0 := zRd_f (n := 1) 0 rfl rfl (by decide +kernel) f31
  have c256 : zRd h 256 0 0 = 0 := zRd_f (n := 0) 0 rfl rfl (by decide +kernel) f40
  have c718 : zRd h 718 0 0 = 0 := zRd_f (n := 0) 0 rfl rfl (by decide +kernel) f1114
  have c719 : zRd h 719 0 0 = -1 := zRd_f (n := 0) 0 rfl rfl (by decide +kernel) f1115
  have c720 : zRd h 720 0 0 = -1 := zRd_f (n := 0) 0 rfl rfl (by decide +kernel) f1116
  have n2 : zRd h (768 + 2) 0 0 = 0 := zRd_f (n := 0) 0 rfl rfl (by decide +kernel) m2
  have n10 : zRd h (768 + 10) 0 0 = 0 := zRd_f (n := 0) 0 rfl rfl (by decide +kernel) m10
  have n23 : zRd h (768 + 23) 0 0 = 0 := zRd_f (n := 0) 0 rfl rfl (by decide +kernel) m23
  have n35 : zRd h (768 + 35) 0 0 = 0 := zRd_f (n := 0) 0 rfl rfl (by decide +kernel) m35
  have n44 : zRd h (768 + 44) 0 0 = 0 := zRd_f (n := 0) 0 rfl rfl (by decide +kernel) m44
  have n1 : ∀ i : Int, 0 ≤ i → i < 940 → zRd h (768 + 1) 0 i = 0 := fun i h0 h1 => zRd_r (r := 769) (n := 940) (by decide +kernel) r769 h0 h1
  have n14 : ∀ i : Int, 0 ≤ i → i < 2140 → zRd h (768 + 14) 0 i = 0 := fun i h0 h1 => zRd_r (r := 782) (n := 2140) (by decide +kernel) r782 h0 h1
  have n22 : ∀ i : Int, 0 ≤ i → i < 2 → zRd h (768 + 22) 0 i = 0 := fun i h0 h1 => zRd_r (r := 790) (n := 2) (by decide +kernel) r790 h0 h1
  have n41 : ∀ i : Int, 0 ≤ i → i < 2 → zRd h (768 + 41) 0 i = -1 := fun i h0 h1 => zRd_r (r := 809) (n := 2) (by decide +kernel) r809 h0 h1
  exact st_RGx c321 c322 c64 c65 c66 c576 c577 c578 c579 c580 c581 c582 c384 c385 c512 c513 c192a c192b c256 c718 c719 c720 n2 n10 n23 n35 n44 n1 n14 n22 n41 (fun i h0 h1 => zRd_r (r := 320) (n := 940) (by decide +kernel) r320 h0 h1) (fun j h0 h1 => zRd_k kK h0 h1)
theorem st_all : ∃ h1 h2 : zH1, zSta1 = some (none, h1) ∧ zSta2 h1 = some (none, h2) ∧ h1.length = 172 ∧ h2.length = 196 ∧ zSl h2 ≤ 100000 ∧ zChk (zSta3 h2) = true := by
  obtain ⟨h1, h2, e1, e2, h⟩ := zAllG_s zAll0_ok
  have h : (Nat.beq h1.length 172 && (Nat.beq h2.length 196 && (Nat.ble (zSl h2) 100000 && zChk (zSta3 h2)))) = true := h
  simp only [Bool.and_eq_true] at h
  obtain ⟨a1, a2, a3, a4⟩ := h
  exact ⟨h1, h2, e1, e2, Nat.eq_of_beq_eq_true a1, Nat.eq_of_beq_eq_true a2, Nat.le_of_ble_eq_true a3, a4⟩
end
section
/-! The start, run over the first heap: both constructors and the answer's row. -/
def spec1 : zRn zH1 := fun k args h r h' => k = 2 ∧ args = [] ∧ r = some (2, (h.length : Int)) ∧ h' = h ++ [((21, 21, kwf) : zCe)]
def zBy (Ls : Nat) (xs : Nat → Int) (d : Int) : List zRow → zCf zH1 → zRs zH1
  | [], c => some ([], c)
  | (pc, i, len, ax) :: b, c => match Nat.beq pc c.1 with
    | true => match zX (zHop1 Ls xs) i len ax d c with
      | some (gs, c1) => match zBy Ls xs d b c1 with
        | some (gs', c2) => some (gs ++ gs', c2)
        | none => none
      | none => none
    | false => none
def zTo1 (Ls : Nat) (xs : Nat → Int) (run : zRn zH1) (mi : Nat) (P : zCf zH1 → Prop) (c : zCf zH1) : Prop := ∃ (n : Nat) (c' : zCf zH1), zReach (zHop1 Ls xs) zRc1 run mi n c c' ∧ P c'
section ZY
variable {run : zRn zH1} {mi Ls : Nat} {xs : Nat → Int} {P : zCf zH1 → Prop}
theorem zY_0 {c : zCf zH1} (h : P c) : zTo1 Ls xs run mi P c := ⟨0, c, rfl, h⟩
theorem zY_1 {c c' : zCf zH1} (h1 : zStep (zHop1 Ls xs) zRc1 run mi c c') (h2 : zTo1 Ls xs run mi P c') : zTo1 Ls xs run mi P c := by
  obtain ⟨n, c2, h3, h4⟩ := h2
  exact ⟨n + 1, c2, ⟨c', h1, h3⟩, h4⟩
theorem zY_b {d : Int} {b : List zRow} {c c' : zCf zH1} {gs : List Prop} (hk : zRk mi b = true) (e : zBy Ls xs d b c = some (gs, c')) (hg : zAll gs) (h : zTo1 Ls xs run mi P c') : zTo1 Ls xs run mi P c := by
  induction b generalizing c gs with
  | nil => cases e; exact h
  | cons q b ih =>
    obtain ⟨pc, i, len, ax⟩ := q
    unfold zRk at hk
    rw [List.all_cons, Bool.and_eq_true] at hk
    obtain ⟨k1, k2⟩ := hk
    simp only [Bool.and_eq_true] at k1
    obtain ⟨k3, k4, k5, k6⟩ := k1
    unfold zBy at e
    split at e
    · rename_i e1
      have e1 := Nat.eq_of_beq_eq_true e1
      subst e1
      split at e
      · rename_i gs1 c1 e2
        split at e
        · rename_i gs2 c2 e3
          cases e
          obtain ⟨g1, g2⟩ := zAll_app.mp hg
          refine zY_1 (Or.inl ⟨i, len, ax, d, gs1, ?_, k4, k5, e2, g1⟩) (ih k2 e3 g2)
          split at k3
          · rename_i p e4
            rw [e4, of_decide_eq_true k3]
          · cases k3
        · cases e
      · cases e
    · cases e
theorem zY_sp {pc x k : Nat} {L : zLo} {args rest st st' : List zAv} {h h1 : zH1} {r : Option zAv} (hd : decode (zmCode mi) pc = .ok (.invokespecial x, 3)) (hax : zAxOk (zmC mi) (zIsI mi) (.invokespecial x) (k, 0, 0) = true) (hk : k < 295) (h14 : ¬ zmC k = 14) (hst : st = args.reverse ++ rest) (hlen : args.length = zNa (.invokespecial x) k) (ha : ∃ a, args[0]? = some a ∧ zGe2 a.1 = true) (hr : Nat.ble (zWt rest) 8 = true) (h5 : args.all (fun a => !Nat.beq a.1 5) = true) (hrun : run k args h r h1) (hst' : st' = r.toList ++ rest) (next : zTo1 Ls xs run mi P (pc + 3, L, st', h1)) : zTo1 Ls xs run mi P (pc, L, st, h) := by
  subst hst'
  exact zY_1 (Or.inr (Or.inl ⟨.invokespecial x, (k, 0, 0), args, rest, r, h1, hd, rfl, hax, hk, h14, hst, hlen, (fun _ hy => nomatch hy), fun _ _ => ha, hr, h5, hrun, rfl⟩)) next
end ZY
set_option maxRecDepth 100000 in
theorem st_run {Ls : Nat} {xs : Nat → Int} : ∃ h3 : zH1, zChk h3 = true ∧ h3.length = 197 ∧ zSl h3 ≤ 100001 ∧ zTo1 Ls xs (zRun (zHop1 0 (fun _ => 0)) zRc1 spec1 14) 295 (fun c => c = (23, [some (5, 0), some (2, 0), some (2, 172), some (2, 196), some (0, 0), none, none], [], h3)) (0, [some (5, 0), none, none, none, none, none, none], [], []) := by
  obtain ⟨h1, h2, e1, e2, l1, l2, s2, k3⟩ := st_all
  have hsp : ∀ h : zH1, spec1 2 [] h (some (2, (h.length : Int))) (h ++ [((21, 21, kwf) : zCe)]) := fun h => ⟨rfl, rfl, rfl, rfl⟩
  have r1 : zRun (zHop1 0 (fun _ => 0)) zRc1 spec1 14 0 [(2, 0)] [((11, zNf 11, zIni0 11) : zCe)] none h1 := zEm_s (spec := spec1) zRws_ok hsp 5 0 _ _ _ _ e1
  have r2 : zRun (zHop1 0 (fun _ => 0)) zRc1 spec1 14 168 [(2, (h1.length : Int))] (h1 ++ [((12, zNf 12, zIni0 12) : zCe)]) none h2 := zEm_s (spec := spec1) zRws_ok hsp 5 168 _ _ _ _ e2
  refine ⟨zSta3 h2, k3, ?_, ?_, ?_⟩
  · unfold zSta3
    rw [List.length_append, l2]
    rfl
  · unfold zSta3
    rw [zSl_app]
    show zSl h2 + 1 ≤ 100001
    omega
  · refine zY_b (d := 0) (b := [(0, .new 8, 3, (11, 0, 0)), (3, .dup, 1, (0, 0, 0))]) (gs := []) (c' := (4, [some (5, 0), none, none, none, none, none, none], [(2, 0), (2, 0)], [((11, zNf 11, zIni0 11) : zCe)])) (by decide +kernel) rfl trivial ?_
    refine zY_sp (k := 0) (x := 21) (args := [(2, 0)]) (rest := [(2, 0)]) (r := none) (st' := [(2, 0)]) (by decide +kernel) (by decide +kernel) (by decide) (by decide +kernel) rfl (by decide +kernel) ⟨_, rfl, rfl⟩ rfl rfl r1 rfl ?_
    refine zY_b (d := 0) (b := [(7, .astore_n 1, 1, (0, 0, 0)), (8, .new 22, 3, (12, 0, 0)), (11, .dup, 1, (0, 0, 0))]) (gs := []) (c' := (12, [some (5, 0), some (2, 0), none, none, none, none, none], [(2, (h1.length : Int)), (2, (h1.length : Int))], h1 ++ [((12, zNf 12, zIni0 12) : zCe)])) (by decide +kernel) rfl trivial ?_
    refine zY_sp (k := 168) (x := 24) (args := [(2, (h1.length : Int))]) (rest := [(2, (h1.length : Int))]) (r := none) (st' := [(2, (h1.length : Int))]) (by decide +kernel) (by decide +kernel) (by decide) (by decide +kernel) rfl (by rw [show zNa (.invokespecial 24) 168 = 1 from by decide +kernel]; rfl) ⟨_, rfl, rfl⟩ rfl rfl r2 rfl ?_
    refine zY_b (d := 0) (b := [(15, .astore_n 2, 1, (0, 0, 0)), (16, .iconst 1, 1, (0, 0, 0)), (17, .newarray .long, 2, (0, 0, 0)), (19, .astore_n 3, 1, (0, 0, 0)), (20, .iconst 0, 1, (0, 0, 0)), (21, .istore 4, 2, (0, 0, 0))]) (gs := [(0 : Int) ≤ 1 ∧ (1 : Int) ≤ 100000]) (c' := (23, [some (5, 0), some (2, 0), some (2, (h1.length : Int)), some (2, (h2.length : Int)), some (0, 0), none, none], [], zSta3 h2)) (by decide +kernel) rfl ⟨by decide, trivial⟩ ?_
    refine zY_0 ?_
    rw [l1, l2]
    rfl
end
section
/-! What runs over the second heap makes nothing new in the first. -/
def zNo (i : Instr) : Bool := match i with
  | .new _ => false
  | .newarray _ => false
  | .anewarray _ => false
  | _ => true
theorem zNo_s {Ls : Nat} {xs : Nat → Int} {i : Instr} {len : Nat} {ax : zAx} {d : Int} {c c' : zCf zH2} {gs : List Prop} (h : zX (zHop2 Ls xs) i len ax d c = some (gs, c')) : zNo i = true := by
  cases i
  case new x => cases h
  case newarray x => cases h
  case anewarray x => cases h
  all_goals rfl
theorem zX_same {Ls : Nat} {xs : Nat → Int} {i : Instr} {ax : zAx} {st st' : List zAv} {h h' : zH1} {gs : List Prop} (hno : zNo i = true) (hE : zHop1 Ls xs i ax st h = some (gs, st', h')) : h'.length = h.length ∧ zSl h' = zSl h := by
  have sA : ∀ {kd t : Nat} {g : Int → List Prop}, zStA kd t g st h = some (gs, st', h') → h'.length = h.length ∧ zSl h' = zSl h := by
    intro kd t g hE
    unfold zStA at hE
    split at hE
    · split at hE
      · rename_i e1
        split at hE
        · cases hE
          refine ⟨zl_set, ?_⟩
          exact zSl_set e1 rfl
        · cases hE
      · cases hE
    · cases hE
  have lA : ∀ {kd t : Nat} {b : Bool}, zLdA kd t b st h = some (gs, st', h') → h'.length = h.length ∧ zSl h' = zSl h := by
    intro kd t b hE
    unfold zLdA at hE
    split at hE
    · split at hE
      · split at hE
        · cases hE
          exact ⟨rfl, rfl⟩
        · cases hE
      · cases hE
    · cases hE
  cases i
  case getfield x =>
    simp only [zHop1] at hE
    repeat' split at hE
    all_goals first | (cases hE; exact ⟨rfl, rfl⟩) | cases hE
  case putfield x =>
    simp only [zHop1] at hE
    split at hE
    · split at hE
      · rename_i e1
        split at hE
        · cases hE
          refine ⟨zl_set, ?_⟩
          exact zSl_set e1 rfl
        · cases hE
      · cases hE
    · cases hE
  case iaload =>
    simp only [zHop1] at hE
    split at hE
    · split at hE
      · cases hE; exact ⟨rfl, rfl⟩
      · cases hE
    · exact lA hE
  case laload => exact lA (kd := 21) (t := 1) (b := false) hE
  case baload => exact lA (kd := 22) (t := 0) (b := false) hE
  case aaload =>
    simp only [zHop1] at hE
    split at hE
    · exact lA hE
    · cases hE
  case iastore => exact sA hE
  case lastore => exact sA hE
  case bastore => exact sA hE
  case aastore =>
    simp only [zHop1] at hE
    split at hE
    · split at hE
      · split at hE
        · exact sA hE
        · cases hE
      · cases hE
    · cases hE
  case arraylength =>
    simp only [zHop1] at hE
    repeat' split at hE
    all_goals first | (cases hE; exact ⟨rfl, rfl⟩) | cases hE
  case new x => cases hno
  case newarray ty => cases hno
  case anewarray x => cases hno
  case invokestatic x =>
    simp only [zHop1] at hE
    split at hE
    · split at hE
      · split at hE
        · rename_i e0 e1
          split at hE
          · cases hE
            refine ⟨zl_set, ?_⟩
            exact zSl_set e1 rfl
          · cases hE
        · cases hE
      · cases hE
    all_goals (repeat' split at hE)
    all_goals first | (cases hE; exact ⟨rfl, rfl⟩) | cases hE
  case invokespecial x =>
    simp only [zHop1] at hE
    repeat' split at hE
    all_goals first | (cases hE; exact ⟨rfl, rfl⟩) | cases hE
  all_goals (have q : (none : Option (List Prop × List zAv × zH1)) = some (gs, st', h') := hE; cases q)
def zLn2 (h h' : zH1) : Prop := h'.length = h.length ∧ zSl h' = zSl h
section ZVS
variable {lO lA : Nat → Int → Nat} {sc : Prop} {Ls : Nat} {xs : Nat → Int}
def zRRs (lO lA : Nat → Int → Nat) (run2 : zRn zH2) (run1 : zRn zH1) : Prop := ∀ k args2 args1 g r2 g' h, run2 k args2 g r2 g' → zSR lO lA False args2 args1 → zR2 lO lA g h → ∃ r1 h', run1 k args1 h r1 h' ∧ zOR lO lA r2 r1 ∧ zR2 lO lA g' h' ∧ zLn2 h h'
theorem z_par1s {run2 : zRn zH2} {run1 : zRn zH1} {mi : Nat} {c2 c2' : zCf zH2} {c1 : zCf zH1} (ap : zAp lO lA) (hrr : zRRs lO lA run2 run1) (h : zCR lO lA sc c2 c1) (hs : zS2 Ls xs run2 mi c2 c2') : ∃ c1', (zStep (zHop1 Ls xs) zRc1 run1 mi c1 c1' ∨ c1 = c1') ∧ zCR lO lA sc c2' c1' ∧ zLn2 c1.2.2.2 c1'.2.2.2 := by
  rcases hs with ⟨i, len, ax, d, gs, q1, q2, q3, q4, q5, q6⟩ | ⟨i, ax, as1, rest, r, g1, q1, q2, q3, q4, q5, q6, q7, q8, q8s, q9, q10, q11, rfl⟩ | ⟨q1, q2, q3⟩
  · obtain ⟨gs1, c1', k1, k2, k3⟩ := z_par ap q4 h gs c2' q5 q6
    refine ⟨c1', Or.inl (Or.inl ⟨i, len, ax, d, gs1, by rw [h.1]; exact q1, q2, q3, k1, k2⟩), k3, ?_⟩
    rcases zX_heap k1 with e | ⟨n, st', e, -⟩
    · rw [e]; exact ⟨rfl, rfl⟩
    · exact zX_same (zNo_s q5) e
  · obtain ⟨h1, h2, h3, h4⟩ := h
    rw [q6] at h3
    obtain ⟨a', b', e1, e2, e3⟩ := zSR_split h3
    have e4 := zSR_rev e2
    rw [List.reverse_reverse] at e4
    obtain ⟨e5, e6⟩ := zSR_no5 e4 q10
    obtain ⟨r1, h', k1, k2, k3, k4⟩ := hrr _ _ _ _ _ _ _ q11 e5 h4
    refine ⟨(c1.1 + 3, c1.2.1, r1.toList ++ b', h'), Or.inl (Or.inr (Or.inl ⟨i, ax, a'.reverse, b', r1, h', by rw [h1]; exact q1, q2, q3, q4, q5, by rw [List.reverse_reverse]; exact e1, by rw [zSR_len e4]; exact q7, fun x hx => ?_, fun x hx => ?_, by rw [zSR_wt e3]; exact q9, e6, k1, rfl⟩)), ⟨by rw [h1], h2, ?_, k3⟩, k4⟩
    · obtain ⟨a, p1, p2, p3⟩ := q8 x hx
      obtain ⟨y, p4, p5⟩ := zSR_get e4 p1
      obtain ⟨t, n⟩ := a
      simp only at p3
      subst p3
      obtain ⟨p6, p7, p8⟩ := zVR_obj p2 p5
      subst p8
      obtain ⟨f, p9, -⟩ := h4.1 _ n p2 p6 p7
      exact ⟨_, p4, p2, rfl, zNf (zmC ax.1), f, p9⟩
    · obtain ⟨a, p1, p2⟩ := q8s x hx
      obtain ⟨y, p4, p5⟩ := zSR_get e4 p1
      exact ⟨y, p4, by rw [(zVR_tag p5).2.2]; exact p2⟩
    · refine zSR_app ?_ e3
      cases r with
      | none =>
        cases r1 with
        | none => trivial
        | some y => exact k2.elim
      | some x =>
        cases r1 with
        | none => exact k2.elim
        | some y => exact ⟨zVR_sc k2, trivial⟩
  · obtain ⟨h1, h2, h3, h4⟩ := h
    refine ⟨c1, Or.inr rfl, ⟨?_, ⟨?_, ?_⟩, ?_, ?_⟩, rfl, rfl⟩
    · rw [q1]; exact h1
    · rw [q3.1]; exact h2.1
    · intro i a ha
      exact h2.2 i a (q3.2 i a ha)
    · rw [show c2'.2.2.1 = c2.2.2.1 from congrArg Prod.fst q2]; exact h3
    · rw [show c2'.2.2.2 = c2.2.2.2 from congrArg Prod.snd q2]; exact h4
theorem z_parNs {run2 : zRn zH2} {run1 : zRn zH1} {mi n : Nat} {c2 c2' : zCf zH2} {c1 : zCf zH1} (ap : zAp lO lA) (hrr : zRRs lO lA run2 run1) (h : zCR lO lA sc c2 c1) (hs : zRe2 Ls xs run2 mi n c2 c2') : ∃ n' c1', zReach (zHop1 Ls xs) zRc1 run1 mi n' c1 c1' ∧ zCR lO lA sc c2' c1' ∧ zLn2 c1.2.2.2 c1'.2.2.2 := by
  induction n generalizing c2 c1 with
  | zero => cases hs; exact ⟨0, c1, rfl, h, rfl, rfl⟩
  | succ n ih =>
    obtain ⟨c3, s1, s2⟩ := hs
    obtain ⟨c4, k1, k2, k5⟩ := z_par1s ap hrr h s1
    obtain ⟨n', c1', k3, k4, k6⟩ := ih k2 s2
    have k7 := (show zLn2 c1.2.2.2 c1'.2.2.2 from ⟨k6.1.trans k5.1, k6.2.trans k5.2⟩)
    rcases k1 with k1 | rfl
    · exact ⟨n' + 1, c1', ⟨c4, k1, k3⟩, k4, k7⟩
    · exact ⟨n', c1', k3, k4, k7⟩
theorem z_parRs {spec2 : zRn zH2} {spec1 : zRn zH1} (ap : zAp lO lA) (hsp : zRRs lO lA spec2 spec1) : ∀ d, zRRs lO lA (zRu2 spec2 d) (zRun (zHop1 0 (fun _ => 0)) zRc1 spec1 d) := by
  intro d
  induction d with
  | zero => intro k args2 args1 g r2 g' h q; exact q.elim
  | succ d ih =>
    intro k args2 args1 g r2 g' h q hS hR
    rcases q with ⟨q1, q2⟩ | ⟨hk, h14, hfl, n, pc, L, st, hre, hret⟩
    · obtain ⟨r1, h', k1, k2⟩ := hsp _ _ _ _ _ _ _ q2 hS hR
      exact ⟨r1, h', Or.inl ⟨q1, k1⟩, k2⟩
    · obtain ⟨f1, f2⟩ := zSR_fl hS
      have hC : zCR lO lA False (0, zEntry args2 (zmMax k), [], g) (0, zEntry args1 (zmMax k), [], h) := by
        refine ⟨rfl, ⟨?_, fun i a ha => ?_⟩, trivial, hR⟩
        · unfold zEntry
          simp only [List.length_append, List.length_replicate, f1]
        · unfold zEntry at ha ⊢
          rw [f1]
          exact f2 _ i a ha
      obtain ⟨n', c1', k1, k2, k9⟩ := z_parNs ap ih hC hre
      obtain ⟨pc1, L1, st1, h1⟩ := c1'
      obtain ⟨e1, e2, e3, e4⟩ := k2
      dsimp only at e1 e2 e3 e4
      subst e1
      rcases hret with ⟨w1, v, w2, w3, w4⟩ | ⟨w1, v, w2, w3, w4⟩ | ⟨w1, w2, w3, w4⟩
      · dsimp only at w1 w2
        subst w2
        subst w3
        obtain ⟨b0, s0, p0, p1, p2⟩ := zSR_cons e3
        have := zVR0 p1; subst this
        have := zSR_nil p2; subst this
        exact ⟨some (0, v), h1, Or.inr ⟨hk, h14, by rw [f1]; exact hfl, n', pc1, L1, st1, k1, Or.inl ⟨w1, v, p0, rfl, w4⟩⟩, zVR_i, e4, k9⟩
      · dsimp only at w1 w2
        subst w2
        subst w3
        obtain ⟨b0, s0, p0, p1, p2⟩ := zSR_cons e3
        have := zVR1 p1; subst this
        have := zSR_nil p2; subst this
        exact ⟨some (1, v), h1, Or.inr ⟨hk, h14, by rw [f1]; exact hfl, n', pc1, L1, st1, k1, Or.inr (Or.inl ⟨w1, v, p0, rfl, w4⟩)⟩, zVR_l, e4, k9⟩
      · dsimp only at w1 w2
        subst w2
        subst w3
        have := zSR_nil e3; subst this
        exact ⟨none, h1, Or.inr ⟨hk, h14, by rw [f1]; exact hfl, n', pc1, L1, [], k1, Or.inr (Or.inr ⟨w1, rfl, rfl, w4⟩)⟩, trivial, e4, k9⟩
end ZVS
end
section
/-! What holds at the law's entry: the words of the tables, and what is known of the old heap. -/
theorem tb_in {i : Nat} {w : Cond} (h : tables_1[i]? = some w) : w ∈ lw_tbl := List.mem_append_right _ (List.mem_of_getElem? h)
theorem kn_of {args : Array Value} {s : State} (hts : ∀ w ∈ lw_tbl, w.before args s = true) : zKnS s := by
  refine ⟨va_AO.of (hts _ (tb_in (i := 375) (w := .arrayOver (.object "EchoVale$Course")) (by decide +kernel))), va_AO.of (hts _ (tb_in (i := 389) (w := .arrayOver (.object "EchoVale$Image")) (by decide +kernel))), fun r hr => ?_, fun r hr => ?_⟩
  · have h5 := zMap zLSN_at r hr
    simp only [Prod.mk.injEq] at h5
    exact va_Nw.of rfl (hts _ (zT_mem h5.1))
  · have h5 := zMap zLPN_at r hr
    simp only [Prod.mk.injEq] at h5
    exact va_Nw.of rfl (hts _ (zT_mem h5.1))
theorem fl_in {i : Nat} {w : Cond} (h : st_f[i]? = some w) : w ∈ st_f := List.mem_of_getElem? h
theorem str_of {args : Array Value} {s : State} {own tx : String} {k i : Nat} (hf : ∀ w ∈ st_f, w.before args s = true) (h1 : (Cond.stringRef own k tx).before args s = true) (h2 : st_f[i]? = some (.exactly (.string own k) "java/lang/String")) : ∃ a : Nat, vk_R own k tx a s := by
  obtain ⟨a, c, cA, kA, q1, -⟩ := Cond.exactly_spec (args := args) (first := s) (o := none) (s := s) (idx := []) (t := .string own k) (cls := "java/lang/String") (hf _ (fl_in h2))
  exact ⟨a, vk_R.of h1 q1⟩
theorem KK_of {args : Array Value} {s : State} (hts : ∀ w ∈ lw_tbl, w.before args s = true) (hgv : (Jvm.Cond.and given_1 narrow_1).before args s = true) : ∃ (sk sv : Nat → Nat) (ac : Nat × Nat × Nat), KK s.heap.size sk sv ac s s.heap := by
  have hf : ∀ w ∈ st_f, w.before args s = true := flat_of_before _ hgv
  have hA : ∀ a : Nat, a < s.heap.size → ¬ s.heap.size ≤ a := fun a h => Nat.not_le.mpr h
  have i0 : ∀ i : Nat, i < 1 → i = 0 := fun i h => by omega
  obtain ⟨sk, sv, hS, hev⟩ := vk_Sof (args := args) (s := s) (N := 1) (tm := fun _ => st_t) (len := [105]) (byt := [st_b]) (A := fun q => s.heap.size ≤ q)
    (fun i hi => by rw [i0 i hi]; decide)
    (fun i hi => hf _ (fl_in (i := 54) (by decide +kernel)))
    (fun i hi => hf _ (fl_in (i := 55) (by decide +kernel)))
    (fun i hi => hf _ (fl_in (i := 56) (by decide +kernel)))
    (fun i hi => by rw [i0 i hi]; exact hf _ (fl_in (i := 57) (by decide +kernel)))
    (fun i hi j hj => by
      rw [i0 i hi] at hj ⊢
      exact hf _ (st_elm hj))
    (fun i j hi hj hij => absurd ((i0 i hi).trans (i0 j hj).symm) hij) hA
  obtain ⟨a1, r1⟩ := str_of (own := "EchoVale") (k := 145) (tx := "no such cliff") (i := 163) hf (hts _ (tb_in (i := 1196) (by decide +kernel))) (by decide +kernel)
  obtain ⟨a2, r2⟩ := str_of (own := "EchoVale") (k := 175) (tx := "no such person") (i := 181) hf (hts _ (tb_in (i := 1229) (by decide +kernel))) (by decide +kernel)
  obtain ⟨a3, r3⟩ := str_of (own := "EchoVale") (k := 194) (tx := "no such saying") (i := 201) hf (hts _ (tb_in (i := 1245) (by decide +kernel))) (by decide +kernel)
  refine ⟨sk, sv, (a1, a2, a3), ⟨hS, va_Zof (hts _ (tb_in (i := 53) (by decide +kernel))) (hts _ (tb_in (i := 3) (by decide +kernel))) (va_eqt (hf _ (fl_in (i := 4) (by decide +kernel)))) hA, va_Zqof (hts _ (tb_in (i := 69) (by decide +kernel))) (hts _ (tb_in (i := 5) (by decide +kernel))) (hf _ (fl_in (i := 5) (by decide +kernel))) hA⟩, vk_R.of (hts _ (tb_in (i := 43) (by decide +kernel))) (hev 0 (by decide)), r1, r2, r3, vx_Zqof (hts _ (tb_in (i := 1184) (by decide +kernel))) (hts _ (tb_in (i := 20) (by decide +kernel))) (hf _ (fl_in (i := 9) (by decide +kernel))) hA, vx_Zqof (hts _ (tb_in (i := 1186) (by decide +kernel))) (hts _ (tb_in (i := 20) (by decide +kernel))) (hf _ (fl_in (i := 10) (by decide +kernel))) hA, fun w hw => ?_⟩
  simp only [kNG, List.mem_cons, List.not_mem_nil, or_false] at hw
  rcases hw with rfl | rfl | rfl | rfl
  · exact va_Nw.of rfl (hts _ (tb_in (i := 1159) (by decide +kernel)))
  · exact va_Nw.of rfl (hts _ (tb_in (i := 1161) (by decide +kernel)))
  · exact va_Nw.of rfl (hts _ (tb_in (i := 1163) (by decide +kernel)))
  · exact va_Nw.of rfl (hts _ (tb_in (i := 1165) (by decide +kernel)))
end
section
/-! 'throw new NoSuchElementException(..)': its constructor links the one above at an index of its own. xt_ctor, xt_throwS follow the library's ctorThrowS and the kit's vx_throwS, the first link's index and bytes told. -/
def xt_own (own : String) (ic : Nat) (X : String) (ix : Nat) (rx : ByteArray) (Y : String) (r : List String) : List Cond :=
  Bundle.throwableAtoms ++ Bundle.throwableSAtoms ++ (Bundle.passSAtoms X Y ix rx ++ Bundle.chainSAtoms Y r) ++
  [.methodLink own ic (Bundle.initS X), .instantiable X 6, .castable X X, .selects X Bundle.tFill0 Bundle.tFill0, .selects X Bundle.tFill Bundle.tFill,
   .lays X Bundle.tN "cause" "Ljava/lang/Throwable;", .lays X Bundle.tN "stackTrace" Bundle.steD, .lays X Bundle.tN "suppressedExceptions" Bundle.listD, .lays X Bundle.tN "detailMessage" "Ljava/lang/String;",
   .isRef (.static Bundle.tN "UNASSIGNED_STACK" Bundle.steD), .isRef (.static Bundle.tN "SUPPRESSED_SENTINEL" Bundle.listD),
   .fieldLink Bundle.tN 198 Bundle.tN "backtrace" "Ljava/lang/Object;", .lays Bundle.tN Bundle.tN "backtrace" "Ljava/lang/Object;", .lays X Bundle.tN "backtrace" "Ljava/lang/Object;"]
def xt_at (own : String) (ic : Nat) (X : String) (ix : Nat) (rx : ByteArray) (Y : String) (r : List String) : List Cond := (xt_own own ic X ix rx Y r).filter vx_no
section XTC
variable {p : Program} {l : Launch} {e : Env} {R : Room} {s : State} {m₀ : MethodId} {args : Array Value} {below : List Frame} {meth : Method} {c : Code} {W : State} {locs : List Loc} {cells slots : Nat}
set_option maxHeartbeats 1000000 in
theorem xt_ctor (X : Stand p l e R s m₀ args below meth c W locs cells slots) (hexec : p.tables.exec = Jvm.exec) (htr : e.platform.stackTraces = false) {own cls Y9 : String} {r9 : List String} {ic ix : Nat} {rx : ByteArray} (x0 : decode rx 0 = .ok (.aload_n 0, 1)) (x1 : decode rx 1 = .ok (.aload_n 1, 1)) (x2 : decode rx 2 = .ok (.invokespecial ix, 3)) (x5 : decode rx 5 = .ok (.return_, 1))
    (hown : s.vm.findClass own = some m₀.cls) (hcls : Bundle.fit cls = true) (hY9 : Bundle.fit Y9 = true) (hr9 : ∀ n ∈ r9, Bundle.fit n = true)
    (h : ∀ a ∈ xt_own own ic cls ix rx Y9 r9, a.before args s = true)
    (hlocs : ∀ x ∈ locs, ∀ cell, s.heap[x.base]? = some cell → cell.vm.isStatics = false)
    {a : Addr} {cX : ClassId} {kX : Class} (hfoundX : s.vm.findClass cls = some cX) (hkX : s.vm.classes[cX]? = some kX) (hcell : W.heap[a]? = some (freshCell cX kX)) (hnew : s.heap.size ≤ a)
    {msg : Value} (hmsg : msg.isRef = true)
    {g : JFrame} (hg : g.method = m₀) (hsize : g.locals.size = c.maxLocals) (hlocked : g.locked = none) (hentered : g.entered = []) {rest : List Value} (hstack : g.stack = msg :: .ref a :: .ref a :: rest)
    (hd6 : decode c.code g.pc = .ok (.invokespecial ic, 3)) (hd9 : decode c.code (g.pc + 3) = .ok (.athrow, 1)) (hout : ∀ x ∈ c.exceptionTable.toList, covers x (g.pc + 3) = false)
    (hRframes : (r9.length + 1) + 3 < R.frames) (hRlocals : 2 * g.monitorRoom + ((Value.ref a :: rest).map fun v => v.category).sum + (13 * ((r9.length + 1) + 1) + 42) ≤ R.locals) (hlocks : meth.locks = false := by first | assumption | exact BodyLoose.notSynchronized (by assumption) | exact Body.notSynchronized (by assumption)) :
    ∃ U : State, Steps p.tables e below (W.setTop g) U ∧ U.status = .running ∧ Ended U below (.threw a) ∧ s.WarmedH U.vm ∧ s.sameButNew ({ U with vm := s.vm } : State) locs cells slots ∧
      ∃ ce : Cell, U.heap[a]? = some ce ∧ s.vm.findClass cls = some ce.cls ∧ ce.vm = .none := by
  have howns : e.platform.frameOwnsMonitors = true := by rw [X.admits.platform]
  have hfin : e.platform.finalization = false := by rw [X.admits.platform]
  have hpl : e.platform.magicAccessors = ({} : Platform).magicAccessors := by rw [X.admits.platform]
  have a' : ∀ x, x ∈ xt_own own ic cls ix rx Y9 r9 → x.holds args s none s [] = true := fun x hx => h x hx
  obtain ⟨T, Z0, L, -, Y⟩ := ThrowableC.of_atoms (args := args) howns hfin hpl (fun x hx => h x (by simp [xt_own, hx]))
  obtain ⟨Z, M, LZ, LM, hnZ⟩ := Init0T.ofS_atoms (args := args) hpl L Y (fun x hx => h x (by simp [xt_own, hx]))
  obtain ⟨P1, L1, hP1m, hs0⟩ := PassC.ofS_atoms (args := args) (s := s) hpl (X := cls) (Y := Y9) (Bundle.fit_spec hcls).1 (Bundle.fit_spec hY9).2 x0 x1 x2 x5 (fun x hx => h x (by simp [xt_own, hx]))
  obtain ⟨P', Ps', hlen', L', hL', hm', hsup, hpass⟩ := Bundle.chainS (args := args) hpl hnZ r9 Y9 hY9 hr9 (fun x hx => h x (by simp [xt_own, hx]))
  have hlen : (P' :: Ps').length = r9.length + 1 := by simp [hlen']
  have hL : ∀ P, P ∈ P' :: Ps' → P.LinksS e.platform s := fun P hP => by
    rcases List.mem_cons.mp hP with rfl | hP
    · exact L'
    · exact hL' P hP
  have hlink1 := Option.some.inj (hs0.symm.trans hm')
  have hfound : s.vm.findClass cls = some P1.m.cls := findClass_of_methodNamed hP1m
  cases Option.some.inj (hfoundX.symm.trans hfound)
  obtain ⟨c1, kX', hc1, hk, hord, -, -, hn6⟩ := Cond.instantiable_spec (a' (.instantiable cls 6) (by simp [xt_own]))
  cases Option.some.inj (hc1.symm.trans hfound)
  cases Option.some.inj (hkX.symm.trans hk)
  have hsel0 : selectMethod e.platform s.vm P1.m.cls T.fill0 = .method T.fill0 := by
    obtain ⟨c2, r2, m2, q1, q2, q3, q4, -⟩ := Cond.selects_spec (a' (.selects cls Bundle.tFill0 Bundle.tFill0) (by simp [xt_own]))
    cases Option.some.inj (q1.symm.trans hfound)
    cases Option.some.inj (q2.symm.trans (State.methodFound?_of_named Y.fill0 (by decide)))
    cases Option.some.inj (q3.symm.trans Y.fill0)
    rw [Launch.admits_selectMethod X.admits]; exact q4
  have hselF : selectMethod e.platform s.vm P1.m.cls T.fill = .method T.fill := by
    obtain ⟨c2, r2, m2, q1, q2, q3, q4, -⟩ := Cond.selects_spec (a' (.selects cls Bundle.tFill Bundle.tFill) (by simp [xt_own]))
    cases Option.some.inj (q1.symm.trans hfound)
    cases Option.some.inj (q2.symm.trans (State.methodFound?_of_named Y.fill (by decide)))
    cases Option.some.inj (q3.symm.trans Y.fill)
    rw [Launch.admits_selectMethod X.admits]; exact q4
  obtain ⟨cellS0, hcS0, hiss⟩ := Y.statics
  obtain ⟨u0, hu0⟩ := Cond.staticRefV Y.unassigned L.unassignedStatic L.statics hcS0 hiss (a' (.isRef (.static Bundle.tN "UNASSIGNED_STACK" Bundle.steD)) (by simp [xt_own]))
  obtain ⟨sen, hsen⟩ := Cond.staticRefV Y.sentinel L.sentinelStatic L.statics hcS0 hiss (a' (.isRef (.static Bundle.tN "SUPPRESSED_SENTINEL" Bundle.listD)) (by simp [xt_own]))
  obtain ⟨ci198, i198, fB, hk198, hg198, ha198, hsB, -, hnB, htB, hffB⟩ := Cond.ownField (t := .object "java/lang/Object") Y.found L.cls (by decide +kernel) (a' (.fieldLink Bundle.tN 198 Bundle.tN "backtrace" "Ljava/lang/Object;") (by simp [xt_own])) (a' (.lays Bundle.tN Bundle.tN "backtrace" "Ljava/lang/Object;") (by simp [xt_own])) e.platform hpl
  obtain ⟨cellS, hcS', heS, -, hkeep⟩ := X.same.2.2.2.2.2 T.aS cellS0 hcS0
  have hcellS : W.heap[T.aS]? = some cellS := hcS'
  have hout' : ∀ i, (⟨T.aS, i⟩ : Loc) ∉ locs := fun i hmem => by
    have := hlocs _ hmem cellS0 hcS0
    rw [hiss] at this; cases this
  have hknownS : cellS.vm ≠ .unknown := by
    rw [heS]; intro hu
    rw [show cellS0.vm = .unknown from hu] at hiss
    cases hiss
  have hneS : T.aS ≠ a := Nat.ne_of_lt (Nat.lt_of_lt_of_le (Array.getElem?_eq_some_iff.mp hcS0).1 hnew)
  obtain ⟨iM, hffM⟩ := Y.msg
  obtain ⟨tyC, dC, hdC, hdnC⟩ := Cond.laysAt hfound hk Y.cause (a' (.lays cls Bundle.tN "cause" "Ljava/lang/Throwable;") (by simp [xt_own]))
  obtain ⟨tyS, dS, hdS, hdnS⟩ := Cond.laysAt hfound hk Y.stack (a' (.lays cls Bundle.tN "stackTrace" Bundle.steD) (by simp [xt_own]))
  obtain ⟨tyP, dP, hdP, hdnP⟩ := Cond.laysAt hfound hk Y.supp (a' (.lays cls Bundle.tN "suppressedExceptions" Bundle.listD) (by simp [xt_own]))
  obtain ⟨tyM, dM, hdM, hdnM⟩ := Cond.laysAt hfound hk hffM (a' (.lays cls Bundle.tN "detailMessage" "Ljava/lang/String;") (by simp [xt_own]))
  obtain ⟨tyB, dB, hdB, hdnB⟩ := Cond.laysAt hfound hk hffB (a' (.lays cls Bundle.tN "backtrace" "Ljava/lang/Object;") (by simp [xt_own]))
  have bC := Cond.laysApart hdB hdC hdnB hdnC (by rw [hnB, Y.causeName]; decide)
  have bS := Cond.laysApart hdB hdS hdnB hdnS (by rw [hnB, Y.stackName]; decide)
  have bP := Cond.laysApart hdB hdP hdnB hdnP (by rw [hnB, Y.suppName]; decide)
  have hskip : SkipFacts T e.platform s (fun u => u) u0 ((preparedCellV T.toThrowableT (freshCell P1.m.cls kX) a u0 sen).withEntry W.cur) :=
    ⟨{ ci198 := ci198, i198 := i198, fBack := fB }, ⟨hk198, hg198, ha198, hsB⟩, by
      have := fresh_default (c := P1.m.cls) tyB
      rw [htB] at this
      simpa [preparedCellV, Cell.setSlot, Cell.withEntry, Array.getElem?_setIfInBounds, bC, bS, bP, bC.symm, bS.symm, bP.symm, defaultValue] using this, fun _ _ => rfl⟩
                                     
  obtain ⟨tm, methC, cdC, kC, vm₁, hnC, -, -, -, -, -, -, -, hW₁, st1⟩ := Steps.initColdS (tb := p.tables) (e := e) (below := below) (s := s) (U := W) X.here hexec X.warmed hpl hown (t := Bundle.initS cls) rfl rfl (Bundle.fit_spec hcls).2
    (a' (.methodLink own ic (Bundle.initS cls)) (by simp [xt_own])) (h (.instanceMethod (Bundle.initS cls)) (by simp [xt_own, Bundle.passSAtoms])) (bytes := rx) (maxL := 2) (h (.code (Bundle.initS cls) rx 2 none) (by simp [xt_own, Bundle.passSAtoms]))
    (f := g) hg (a := a) (msg := msg) (rest := .ref a :: rest) hstack hd6
  cases Option.some.inj (hnC.symm.trans hP1m)
  have X₁ := X.noted hW₁
                                 
  obtain ⟨vm₂, X₂, st2⟩ := X₁.ctorMessageOffV hexec (g := { g with stack := .ref a :: rest }) hg hsize T L Z LZ M LM (P1 :: P' :: Ps')
    (fun P hP => by rcases List.mem_cons.mp hP with rfl | hP; exact L1; exact hL P hP) ⟨hlink1, hsup, hpass⟩ (u0 := u0) (sen := sen) (self := a) hmsg (cell := freshCell P1.m.cls kX) (cellS := cellS)
    hcell (fun _ => by simp) (by simp) rfl rfl hsel0 hselF hcellS hneS hknownS (by rw [hkeep _ (hout' _)]; exact hu0) (by rw [hkeep _ (hout' _)]; exact hsen)
    (Takes.of_laid hk hord tyC (by rw [Y.causeType]; rfl)) (Takes.of_laid hk hord tyS (by rw [Y.stackType]; exact fits_refV_array _ u0)) (Takes.of_laid hk hord tyP (by rw [Y.suppType]; exact fits_refV_object _ sen))
    (Takes.of_laid hk hord tyM (by rw [Y.msgType]; exact fits_refV_object _ ⟨msg, hmsg⟩)) Y.objLocals hskip htr [] hd6
    (by simp only [List.length_cons] at hlen ⊢; omega) (by simp only [List.length_cons] at hlen ⊢; rw [hlen]; exact hRlocals)
                                    
  obtain ⟨hwalk, hrun, hended, hWU, hsame⟩ := X₂.athrowLeaves hexec (g := { g with stack := .ref a :: rest, pc := g.pc + 3 }) hg hlocked hentered hout (a := a) (rest := rest) rfl hd9
  obtain ⟨c3, c4, hc3, hc4, hasg⟩ := Cond.castable_spec (a' (.castable cls cls) (by simp [xt_own]))
  cases Option.some.inj (hc3.symm.trans hfound)
  cases Option.some.inj (hc4.symm.trans hfound)
  have hlt : a < ((W.setVm vm₁).setVm vm₂).heap.size := (Array.getElem?_eq_some_iff.mp hcell).1
  have hU := heapAt_setCell_self (s := (W.setVm vm₁).setVm vm₂) (plainBareV T.toThrowableT (freshCell P1.m.cls kX) a u0 sen msg) hlt
  refine ⟨_, st1 _ (fun acts => ?_), hrun, hended, hWU, hsame.weaken (fun y hy hlt' => ?_) (Nat.le_refl _) (Nat.le_refl _), _, hU, hfound, rfl⟩
  · rw [doInvoke_state]
    exact st2 _ hwalk
  · rcases List.mem_append.mp hy with h1 | h1
    · exact h1
    · exfalso
      have hb : y.base = a := by
        simp only [List.mem_cons, List.not_mem_nil, or_false] at h1
        rcases h1 with rfl | rfl | rfl | rfl | rfl <;> rfl
      rw [hb] at hlt'
      exact Nat.not_lt.mpr hnew hlt'
end XTC
section XTS
variable {p : Program} {l : Launch} {e : Env} {R : Room} {s : State} {m : MethodId} {args : Array Value} {below : List Frame} {meth : Method} {c : Code} {H : Heap} {locs : List Loc} {cells slots : Nat} {Q : State → Prop}
variable {free : Addr → Prop} {ls : Array Slot} {rest : List Value} {pc : Nat} {Qc : Array Value → State → Outcome → State → Prop} {XC : String → State → State → Prop} {H0 : Heap}
/-- 'throw new E("text")': new; dup; ldc; invokespecial; athrow -/
theorem xt_throwS {cc : ByteArray} {pc : Nat} (hexec : p.tables.exec = Jvm.exec) (hb : c.code = cc) (hl : l.stackTraces = false) {own cls text Y9 : String} {r9 : List String} {ik is ic mc ms sa ix : Nat} {rx : ByteArray} (x0 : decode rx 0 = .ok (.aload_n 0, 1)) (x1 : decode rx 1 = .ok (.aload_n 1, 1)) (x2 : decode rx 2 = .ok (.invokespecial ix, 3)) (x5 : decode rx 5 = .ok (.return_, 1)) {A : Nat → Prop}
    (hown : s.vm.findClass own = some m.cls) (hcls : Bundle.fit cls = true) (hY9 : Bundle.fit Y9 = true) (hr9 : ∀ n ∈ r9, Bundle.fit n = true)
    (hk : (Cond.classLink own ik cls).before args s = true) (hini : (Cond.initialized cls).before args s = true) (hstr : vk_R own is text sa s) (hat : ∀ w ∈ xt_at own ic cls ix rx Y9 r9, w.before args s = true)
    (hgood : ∀ w ∈ Cond.classLink own ik cls :: Cond.initialized cls :: xt_at own ic cls ix rx Y9 r9, vx_ot w = true)
    (hU : vx_Zq Bundle.tN "UNASSIGNED_STACK" Bundle.steD A s s.heap) (hN : vx_Zq Bundle.tN "SUPPRESSED_SENTINEL" Bundle.listD A s s.heap) (hS : va_S A s.heap H locs) (hsize : ls.size = c.maxLocals)
    (d0 : decode cc pc = .ok (.new ik, 3)) (d3 : decode cc (pc + 3) = .ok (.dup, 1)) (d4 : decode cc (pc + 4) = .ok (.ldc is, 2)) (d6 : decode cc (pc + 6) = .ok (.invokespecial ic, 3)) (d9 : decode cc (pc + 9) = .ok (.athrow, 1))
    (hout : ∀ x ∈ c.exceptionTable.toList, covers x (pc + 9) = false)
    (hRframes : (r9.length + 1) + 3 < R.frames) (hRlocals : (rest.map fun v => v.category).sum + (13 * ((r9.length + 1) + 1) + 43) ≤ R.locals) (hRcells : cells + 1 ≤ R.cells) (hRslots : slots + 6 ≤ R.slots) (hlocks : meth.locks = false)
    (hx : ∀ t : State, s.vm.Alike t.vm → H.size ≤ t.heap.size → (∀ q : Nat, q < H.size → t.heap[q]? = H[q]?) → XC cls s t)
    (hf : ∀ z ∈ locs, free z.base) (hc : cells + 1 ≤ mc) (hs : slots + 6 ≤ ms) :
    W p l e R s m args below meth c H locs cells slots (vx_MQ below Qc XC args s mc ms free) (F0 m pc ls rest) := by
  intro T hT X
  have htr : e.platform.stackTraces = false := (show e.platform.stackTraces = l.stackTraces by rw [X.admits.platform]).trans hl
  have Y := vx_rebase X (R' := { frames := R.frames, locals := R.locals, cells := 1, slots := 6 }) (Nat.le_refl _) (Nat.le_refl _) hRcells hRslots
  obtain ⟨s', hA⟩ : ∃ z, z = (T.setVm s.vm).setFrames (.invoking m args :: below) := ⟨_, rfl⟩
  rw [← hA] at Y
  have hvm : s'.vm = s.vm := by rw [hA]; rfl
  have hhp : s'.heap = H := by rw [hA]; exact hT
  have hW0 : s.WarmedH s'.vm := by rw [hvm]; exact State.WarmedH.refl s
  have hat' : ∀ w ∈ xt_at own ic cls ix rx Y9 r9, w.before args s' = true := fun w hw => vx_ot_at hW0 hvm.symm (hgood w (List.mem_cons_of_mem _ (List.mem_cons_of_mem _ hw))) (hat w hw)
  have hk' : (Cond.classLink own ik cls).before args s' = true := vx_ot_at hW0 hvm.symm (hgood _ List.mem_cons_self) hk
  have hini' : (Cond.initialized cls).before args s' = true := vx_ot_at hW0 hvm.symm (hgood _ (List.mem_cons_of_mem _ List.mem_cons_self)) hini
  have hU' : vx_Zq Bundle.tN "UNASSIGNED_STACK" Bundle.steD A s' s'.heap := by rw [hhp]; exact vx_Zq.moved hW0.alike (hU.kept hS.2.1)
  have hN' : vx_Zq Bundle.tN "SUPPRESSED_SENTINEL" Bundle.listD A s' s'.heap := by rw [hhp]; exact vx_Zq.moved hW0.alike (hN.kept hS.2.1)
  have h : ∀ w ∈ xt_own own ic cls ix rx Y9 r9, w.before args s' = true := vx_own hat' (vx_isRefq hU'.1) (vx_isRefq hN'.1) hU'.2.word hN'.2.word
  have hown' : s'.vm.findClass own = some m.cls := by rw [hvm]; exact hown
  have hins : (Cond.instantiable cls 6).before args s' = true := h _ (by simp [xt_own])
  obtain ⟨vm₁, cX, kX, hfX, hkX, -, -, X₁, st1⟩ := Y.newCold hexec (own := own) (C := cls) (index := ik) (n := 6) hown' hk' hins hini'
    (g := F0 m pc ls rest) rfl (by rw [hb]; exact d0) (Nat.le_refl _) (Nat.le_refl _)
  generalize hT1 : (T.setVm vm₁).pushCell { cls := cX, slots := kX.instanceTypes.map defaultValue, vm := .none } = T1 at X₁ st1
  have hcat : (Value.ref T.heap.size).category = 1 := rfl
  have hcellA : T1.heap[T.heap.size]? = some (freshCell cX kX) := by rw [← hT1]; exact State.heap_pushCell_size _ _
  have d3' : decode c.code (pc + 3) = .ok (.dup, 1) := by rw [hb]; exact d3
  have d4' : decode c.code (pc + 4) = .ok (.ldc is, 2) := by rw [hb]; exact d4
  have hstr' : vk_R own is text sa s' := vk_R.warm hW0 hstr
  obtain ⟨U, hsteps, hrun, hend, hW, hsame, ce, hce, hO1, hO2⟩ := xt_ctor X₁ hexec htr (own := own) (cls := cls) (ic := ic) x0 x1 x2 x5 hown' hcls hY9 hr9 h (fun x hx => nomatch hx) hfX hkX hcellA (by rw [hhp, hT]; exact Nat.le_refl _) (msg := .ref sa) rfl
    (g := { method := m, pc := pc + 6, locals := ls, stack := .ref sa :: .ref T.heap.size :: .ref T.heap.size :: rest, locked := none }) rfl hsize rfl rfl (rest := rest) rfl
    (by rw [hb]; exact d6) (by rw [hb]; exact d9) hout hRframes (by simp only [List.map_cons, List.sum_cons, hcat]; omega) hlocks
  obtain ⟨f1, f2⟩ := vx_frame hsame
  rw [hhp] at f1 f2
  have hWs : s.WarmedH U.vm := State.WarmedH.trans hW0 hW
  have hcl : s.vm.findClass cls = some ce.cls := by
    have h9 := hO1
    rw [hvm] at h9
    exact h9
  have hall : s.sameButNew ({ U with vm := s.vm } : State) locs mc ms := by
    subst hA
    obtain ⟨e1, e2⟩ := hsame
    rw [State.setFrames_setFrames] at e1
    have h2 : (T.setVm s.vm).sameButNew ({ U with vm := s.vm } : State) [] (0 + 1) (0 + 6) := ⟨e1, e2⟩
    have h3 := X.same.trans h2
    rw [List.append_nil] at h3
    exact h3.mono hc hs
  refine ⟨U, ?_, .threw T.heap.size, hrun, hend, Or.inr ⟨T.heap.size, rfl, cls, ce, locs, hx U hWs.alike f1 (fun q hq => f2 q hq (fun z hz => nomatch hz)), hce, hO2, hcl, hWs, hall, hf⟩⟩
  refine st1 _ ?_
  show Steps p.tables e below (T1.setTop { method := m, pc := pc + 3, locals := ls, stack := .ref T.heap.size :: rest, locked := none }) _
  jvm_step X₁.here [X₁.here.top, hexec, d3', Value.category]
  exact X₁.ldcString hexec (own := own) (text := text) (index := is) (a := sa) hown' hstr'.1 hstr'.2
    (g := { method := m, pc := pc + 4, locals := ls, stack := .ref T.heap.size :: .ref T.heap.size :: rest, locked := none }) rfl d4' _ hsteps
end XTS
end
section
/-! EchoVale's cliff, person, saying where they throw. -/
def xtL : List Cond := xt_at "EchoVale" 147 "java/util/NoSuchElementException" 13 prog_30_method_4_code "java/lang/RuntimeException" ["java/lang/Exception"]
def xtP : List Nat := [20, 1179, 1188, 1190, 1193, 1195, 1180, 1181, 32, 33, 1182, 1187, 1191, 1211, 1169, 1212, 1171, 1213, 1173, 1183, 1185, 1175, 1207, 1208, 1210, 1175, 1198, 1199, 1200, 1201, 1201, 1202, 1203, 1204, 1204, 1205, 1206, 1207, 1197, 1158, 1166, 1167, 1168, 1170, 1172, 1174, 1178, 1177, 1176]
theorem xtL_good : xtL.filter goodWord = xtP.map (fun i => tables_1.getD i .tt) := by decide +kernel
theorem xtP_lt : xtP.all (fun i => Nat.blt i tables_1.length) = true := by decide +kernel
theorem xtL_ng : xtL.filter (fun w => !goodWord w) = [.declares (Bundle.initS "java/lang/RuntimeException"), .declares (Bundle.initS "java/lang/Exception"), .declares (Bundle.initS Bundle.tN), .castable "java/util/NoSuchElementException" "java/util/NoSuchElementException"] := by decide +kernel
theorem xtL_ot : (Cond.classLink "EchoVale" 143 "java/util/NoSuchElementException" :: Cond.initialized "java/util/NoSuchElementException" :: xtL).all vx_ot = true := by decide +kernel
theorem kNG_ot : kNG.all Cond.onTables = true := by decide +kernel
theorem xtL_in : ∀ w ∈ xtL.filter goodWord, w ∈ zGW := by
  intro w hw
  have g := (List.mem_filter.mp hw).2
  rw [xtL_good] at hw
  obtain ⟨i, hi, rfl⟩ := List.mem_map.mp hw
  have hl : i < tables_1.length := Nat.le_of_ble_eq_true (List.all_eq_true.mp xtP_lt i hi)
  refine zGW_in (List.mem_append_right _ ?_) g
  rw [List.getD_eq_getElem?_getD, List.getElem?_eq_getElem hl]
  exact List.getElem_mem hl
theorem xtL_at {args : Array Value} {s : State} {bs : Nat} {sk sv : Nat → Nat} {ac : Nat × Nat × Nat} {H : Heap} (hts : ∀ w ∈ zGW, w.before args s = true) (hK : KK bs sk sv ac s H) : ∀ w ∈ xtL, w.before args s = true :=
  vx_hat (B := kNG) (fun w hw => hts w (xtL_in w hw)) (fun w hw => by
    rw [xtL_ng] at hw
    simp only [List.mem_cons, List.not_mem_nil, or_false, kNG] at hw ⊢
    rcases hw with rfl | rfl | rfl | rfl
    · exact Or.inr (Or.inl rfl)
    · exact Or.inr (Or.inr (Or.inl rfl))
    · exact Or.inr (Or.inr (Or.inr rfl))
    · exact Or.inl rfl) (fun w hw => va_Nw.use (List.all_eq_true.mp kNG_ot w hw) (hK.2.2.2.2.2.2.2 w hw))
theorem gw_1156 : Cond.classLink "EchoVale" 143 "java/util/NoSuchElementException" ∈ zGW := zG_at (i := 1157) (by decide +kernel) (by decide +kernel)
theorem gw_23 : Cond.initialized "java/util/NoSuchElementException" ∈ zGW := zG_at (i := 23) (by decide +kernel) (by decide +kernel)
theorem vS_up {A B : Nat → Prop} {H0 H : Heap} {locs : List Loc} (hAB : ∀ q, A q → B q) (h : va_S A H0 H locs) : va_S B H0 H locs := ⟨h.1, fun q h1 h2 => h.2.1 q h1 (fun z => h2 (hAB q z)), fun z hz => hAB _ (h.2.2 z hz)⟩
/-- what is so where one of them has thrown -/
def xX (D : va_G) (as : List Nat) (ca : Nat → ClassId) (h : zH1) (sz : Nat) (h' : zH1) : String → State → State → Prop := fun E st t =>
  E = "java/util/NoSuchElementException" ∧ (∃ (as' : List Nat) (ca' : Nat → ClassId), as <+: as' ∧ as'.length = h'.length ∧ zKnH D t ca' h' ∧ va_P D vwCl (zWs as' ca' h') t.heap ∧ va_D (va_A (zWs as ca h) sz) (zWs as' ca' h') ∧ ∀ (k : Nat) (c : zCe), h'[k]? = some c → wfc h'.length c) ∧ va_F (va_A (zWs as ca h) sz) st t
set_option maxHeartbeats 4000000 in
theorem x_thr {l : Launch} (hl0 : l.stackTraces = false) {bs : Nat} {sk sv : Nat → Nat} {ac : Nat × Nat × Nat} {d k is sa n t0 : Nat} {tx : String} {args : List zAv} {h h' : zH1} {L' : zLo} (hm : ∀ k args h r h', zRun (zHop1 0 (fun _ => 0)) zRc1 spec1 d k args h r h' → zMetK l bs (KK bs sk sv ac) d k args h r h') (hd : 7 ≤ d) (hk : k < 295) (h11 : zmC k = 11) (hfl : (zFl args).length ≤ zmMax k)
    (hS0 : zReach (zHop1 0 (fun _ => 0)) zRc1 (zRun (zHop1 0 (fun _ => 0)) zRc1 spec1 d) k n (0, zEntry args (zmMax k), [], h) (t0, L', [], h')) (eL : zLn2 h h') (d0 : decode (zmCode k) t0 = .ok (.new 143, 3)) (d3 : decode (zmCode k) (t0 + 3) = .ok (.dup, 1)) (d4 : decode (zmCode k) (t0 + 4) = .ok (.ldc is, 2)) (d6 : decode (zmCode k) (t0 + 6) = .ok (.invokespecial 147, 3)) (d9 : decode (zmCode k) (t0 + 9) = .ok (.athrow, 1))
    (hstr : ∀ U H, KK bs sk sv ac U H → vk_R "EchoVale" is tx sa U) (D : va_G) (b : Nat) (as : List Nat) (ca : Nat → ClassId) (sz : Nat) (hwa : ∀ a ∈ args, wfv h.length False a) :
    vx_Met l (zmY k) (zWd k) (zRm1 (d + 1) 1 6) (va_Pc (args.map (cv b as)) (fun U => U.heap.size = sz ∧ zPreK bs (KK bs sk sv ac) D as ca h U)) (fun _ _ _ _ => False) (xX D as ca h sz h') 1 6 (va_A (zWs as ca h) sz) := by
  have hkl : k < zMs.length := by rw [zMs_len]; exact hk
  have h14 : ¬ zmC k = 14 := by rw [h11]; decide
  obtain ⟨hpl, -, -⟩ := zm_plain hkl h14
  refine vx_ofW (cc := zmCode k) (maxL := zmMax k) (ret := zmRet k) hpl rfl ?_
  intro p e s m args1 below meth c s₁ B hml ht hv
  obtain ⟨rfl, hsz, ⟨a1, a2, a3, a4, a5, a6⟩, aK, aB, aS⟩ := hv
  have hx := B.exec
  have hb := B.bytes
  have hts0 := atoms_spec (ws := zWd k) B.pre
  have hts : ∀ w ∈ zGW, w.before ((args.map (cv b as)).toArray) s = true := fun w hw => hts0 w (List.mem_cons_of_mem _ hw)
  have hown : s.vm.findClass (zmY k).cls = some m.cls := findClass_of_methodNamed B.named
  rw [zm_cls hkl] at hown
  have hlocks := B.notSynchronized
  have hin : meth.name = (zmY k).name := (name_of_methodNamed B.named B.method).1
  subst hsz
  generalize hAe : va_A (zWs as ca h) s.heap.size = A
  have hA : ∀ q : Nat, s.heap.size ≤ q → A q := fun q h => by rw [← hAe]; exact Or.inr h
  have hAb : ∀ q, A q → bs ≤ q := fun q hq => by
    rw [← hAe] at hq
    rcases hq with ⟨k, ee, hk⟩ | hq
    · obtain ⟨q1, q2⟩ := zWs_inv hk
      rw [q2]
      exact aS k q1
    · exact Nat.le_trans aB hq
  have hD : va_D A (zWs as ca h) := by rw [← hAe]; exact a4.self
  have XK : KK bs sk sv ac s s.heap ∧ bs ≤ s.heap.size ∧ ∀ q, A q → bs ≤ q := ⟨aK, aB, hAb⟩
  have X : zCx p (headSpec (zWd k) (zRm1 (d + 1) 1 6)).room s m ((args.map (cv b as)).toArray) meth c A s.heap b 0 (fun _ => 0) k :=
    ⟨hx, hb, hml, hown, hts, a6, hA, hin, fun q => absurd q (zm_notlaw hkl), by show 1 ≤ d + 1; omega, by show 40 ≤ 60 * (d + 1); omega⟩
  have hl := lv_entry (args.map (cv b as)) (n := zmMax k) (by rw [zFl_len]; exact hfl)
  rw [lg_entry_eq]
  generalize (lg_sl (args.map (cv b as)) ++ List.replicate (zmMax k - (lg_sl (args.map (cv b as))).length) Slot.unset).toArray = ls at hl ⊢
  have hF : zFR b (zmC k = 16) as h.length (zEntry args (zmMax k)) [] ls (zmMax k) := by
    refine ⟨⟨hl.1, hl.2.1, fun i a ha => ?_⟩, by unfold zEntry; rw [List.length_append, List.length_replicate]; omega, fun i a ha => wfv_sc (hwa a (zEntry_mem _ _ _ ha)), fun a ha => by cases ha⟩
    have := zEntry_in (b := b) (as := as) args 0 i a ha
    rw [Nat.zero_add] at this
    exact hl.2.2 _ this
  have hH : zHR s D A s.heap as ca h s.heap [] := ⟨a1, a2, a3, hD, va_S.rf, a5⟩
  have key : zGoal p l e (headSpec (zWd k) (zRm1 (d + 1) 1 6)).room s m ((args.map (cv b as)).toArray) below meth c (vx_MQ below (fun _ _ _ _ => False) (xX D as ca h s.heap.size h') ((args.map (cv b as)).toArray) s 1 6 A) D A s.heap b k h.length (zSl h) as (0, zEntry args (zmMax k), [], h) := by
    refine z_reachK (bs := bs) (K := KK bs sk sv ac) (d := d) (n := n) (Nat.le_refl _) (by show 60 * d + 40 ≤ 60 * (d + 1); omega) KK_keep XK X hm (by simpa using hS0) (Nat.le_refl _) (Nat.le_refl _) (by show h'.length - h.length ≤ 1; rw [eL.1]; omega) (by show zSl h' - zSl h ≤ 6; rw [eL.2]; omega) ?_
    intro as' ca' ls' H' locs' hH' hF' hp'
    dsimp only at hH' hF' ⊢
    obtain ⟨b1, b2, b3, b4, b5, b6⟩ := hH'
    rw [eL.1, eL.2, Nat.sub_self, Nat.sub_self]
    rw [h11] at hown
    refine xt_throwS (A := fun q => bs ≤ q) (own := "EchoVale") (cls := "java/util/NoSuchElementException") (Y9 := "java/lang/RuntimeException") (r9 := ["java/lang/Exception"]) (ik := 143) (ic := 147) (ix := 13) (rx := prog_30_method_4_code) (is := is) (text := tx) (sa := sa) hx hb hl0 (by decide +kernel) (by decide +kernel) (by decide +kernel) (by decide +kernel) hown (by decide +kernel) (by decide +kernel) (by decide +kernel) (hts _ gw_1156) (hts _ gw_23) (hstr _ _ aK) (xtL_at hts aK) (fun w hw => List.all_eq_true.mp xtL_ot w hw) aK.2.2.2.2.2.1 aK.2.2.2.2.2.2.1 (vS_up hAb b5) (by rw [hml]; exact hF'.1.1) d0 d3 d4 d6 d9 (fun x hx => (ht x hx).elim) (by show 1 + 1 + 3 < d + 1; omega) (by show 0 + (13 * (1 + 1 + 1) + 43) ≤ 60 * (d + 1); omega) (by show 0 + 1 ≤ 1; omega) (by show 0 + 6 ≤ 6; omega) hlocks ?_ b5.2.2 (Nat.le_refl _) (Nat.le_refl _)
    intro t hal f1 f2
    refine ⟨rfl, ⟨as', ca', hp', b1, zKnH.moved hal b2, b3.kept (fun k x hx => f2 x.1 ((b3 k x hx).lt)), by rw [hAe]; exact b4, b6⟩, ?_⟩
    rw [hAe]
    exact ⟨Nat.le_trans b5.1 f1, fun q h1 h2 => (f2 q (Nat.lt_of_lt_of_le h1 b5.1)).trans (b5.2.1 q h1 h2)⟩
  have := key as ca ls s.heap [] hH hF (List.prefix_refl _)
  simp only [Nat.sub_self] at this
  exact this
end
section
/-! The way to the throw of cliff, person, saying over the second heap. -/
set_option maxRecDepth 100000 in
theorem xq_cliff {hc : zHC} {hm : zHM} {o : Int → Int} {c w b : Int} {d : Nat} (hd : 1 ≤ d) (e : hc 578 0 0 = b) (hn : ¬ ((0 ≤ c ∧ c < b) ∧ (0 ≤ w ∧ w ≤ 3))) : zTo 0 (fun _ => 0) (zRu2 (fun _ _ _ _ _ => False) d) 163 (fun cf => cf.1 = 17 ∧ cf.2.2.1 = [] ∧ cf.2.2.2 = (hc, hm, o)) (0, zEntry [(21, 0), (0, c), (0, w)] (zmMax 163), [], (hc, hm, o)) := by
  have hmx : zmMax 163 = 3 := by decide +kernel
  rw [hmx]
  refine zT_b (d := 0) (b := [(0, .aload_n 0, 1, (0, 0, 0)), (1, .iload_n 1, 1, (0, 0, 0))]) (gs := []) (c' := (2, [some (21, 0), some (0, c), some (0, w)], [(0, c), (21, 0)], (hc, hm, o))) (by decide +kernel) rfl trivial ?_
  have e9 := E59 (v := c) e
  by_cases q : 0 ≤ c ∧ c < b
  · rw [if_pos q] at e9
    refine zT_call (k := 59) (cl := 11) (n := 2) (i := .invokevirtual 139) (args := [(21, 0), (0, c)]) (rest := []) (g1 := (hc, hm, o)) (r1 := some (0, 1)) (by decide +kernel) rfl rfl rfl (st' := [(0, 1)]) rfl (S59 hd c hc _ e9) ?_
    refine zT_b (d := 0) (b := [(5, .ifCond .eq 12, 3, (0, 0, 0))]) (gs := [¬ (1 : Int) = 0]) (c' := (8, [some (21, 0), some (0, c), some (0, w)], [], (hc, hm, o))) (by decide +kernel) rfl ⟨by decide, trivial⟩ ?_
    by_cases q2 : w < 0
    · refine zT_b (d := 1) (b := [(8, .iload_n 2, 1, (0, 0, 0)), (9, .ifCond .lt 8, 3, (0, 0, 0))]) (gs := [w < 0]) (c' := (17, [some (21, 0), some (0, c), some (0, w)], [], (hc, hm, o))) (by decide +kernel) rfl ⟨q2, trivial⟩ ?_
      exact zT_0 ⟨rfl, rfl, rfl⟩
    · refine zT_b (d := 0) (b := [(8, .iload_n 2, 1, (0, 0, 0)), (9, .ifCond .lt 8, 3, (0, 0, 0))]) (gs := [¬ w < 0]) (c' := (12, [some (21, 0), some (0, c), some (0, w)], [], (hc, hm, o))) (by decide +kernel) rfl ⟨q2, trivial⟩ ?_
      refine zT_b (d := 0) (b := [(12, .iload_n 2, 1, (0, 0, 0)), (13, .iconst 3, 1, (0, 0, 0)), (14, .if_icmp .le 13, 3, (0, 0, 0))]) (gs := [¬ w ≤ 3]) (c' := (17, [some (21, 0), some (0, c), some (0, w)], [], (hc, hm, o))) (by decide +kernel) rfl ⟨by omega, trivial⟩ ?_
      exact zT_0 ⟨rfl, rfl, rfl⟩
  · rw [if_neg q] at e9
    refine zT_call (k := 59) (cl := 11) (n := 2) (i := .invokevirtual 139) (args := [(21, 0), (0, c)]) (rest := []) (g1 := (hc, hm, o)) (r1 := some (0, 0)) (by decide +kernel) rfl rfl rfl (st' := [(0, 0)]) rfl (S59 hd c hc _ e9) ?_
    refine zT_b (d := 1) (b := [(5, .ifCond .eq 12, 3, (0, 0, 0))]) (gs := [(0 : Int) = 0]) (c' := (17, [some (21, 0), some (0, c), some (0, w)], [], (hc, hm, o))) (by decide +kernel) rfl ⟨rfl, trivial⟩ ?_
    exact zT_0 ⟨rfl, rfl, rfl⟩
set_option maxRecDepth 100000 in
theorem xq_person {hc : zHC} {hm : zHM} {o : Int → Int} {c w b : Int} {d : Nat} (hd : 1 ≤ d) (e : hc 579 0 0 = b) (hn : ¬ ((0 ≤ c ∧ c < b) ∧ (0 ≤ w ∧ w ≤ 5))) : zTo 0 (fun _ => 0) (zRu2 (fun _ _ _ _ _ => False) d) 164 (fun cf => cf.1 = 17 ∧ cf.2.2.1 = [] ∧ cf.2.2.2 = (hc, hm, o)) (0, zEntry [(21, 0), (0, c), (0, w)] (zmMax 164), [], (hc, hm, o)) := by
  have hmx : zmMax 164 = 3 := by decide +kernel
  rw [hmx]
  refine zT_b (d := 0) (b := [(0, .aload_n 0, 1, (0, 0, 0)), (1, .iload_n 1, 1, (0, 0, 0))]) (gs := []) (c' := (2, [some (21, 0), some (0, c), some (0, w)], [(0, c), (21, 0)], (hc, hm, o))) (by decide +kernel) rfl trivial ?_
  have e9 := E61 (v := c) e
  by_cases q : 0 ≤ c ∧ c < b
  · rw [if_pos q] at e9
    refine zT_call (k := 61) (cl := 11) (n := 2) (i := .invokevirtual 172) (args := [(21, 0), (0, c)]) (rest := []) (g1 := (hc, hm, o)) (r1 := some (0, 1)) (by decide +kernel) rfl rfl rfl (st' := [(0, 1)]) rfl (S61 hd c hc _ e9) ?_
    refine zT_b (d := 0) (b := [(5, .ifCond .eq 12, 3, (0, 0, 0))]) (gs := [¬ (1 : Int) = 0]) (c' := (8, [some (21, 0), some (0, c), some (0, w)], [], (hc, hm, o))) (by decide +kernel) rfl ⟨by decide, trivial⟩ ?_
    by_cases q2 : w < 0
    · refine zT_b (d := 1) (b := [(8, .iload_n 2, 1, (0, 0, 0)), (9, .ifCond .lt 8, 3, (0, 0, 0))]) (gs := [w < 0]) (c' := (17, [some (21, 0), some (0, c), some (0, w)], [], (hc, hm, o))) (by decide +kernel) rfl ⟨q2, trivial⟩ ?_
      exact zT_0 ⟨rfl, rfl, rfl⟩
    · refine zT_b (d := 0) (b := [(8, .iload_n 2, 1, (0, 0, 0)), (9, .ifCond .lt 8, 3, (0, 0, 0))]) (gs := [¬ w < 0]) (c' := (12, [some (21, 0), some (0, c), some (0, w)], [], (hc, hm, o))) (by decide +kernel) rfl ⟨q2, trivial⟩ ?_
      refine zT_b (d := 0) (b := [(12, .iload_n 2, 1, (0, 0, 0)), (13, .iconst 5, 1, (0, 0, 0)), (14, .if_icmp .le 13, 3, (0, 0, 0))]) (gs := [¬ w ≤ 5]) (c' := (17, [some (21, 0), some (0, c), some (0, w)], [], (hc, hm, o))) (by decide +kernel) rfl ⟨by omega, trivial⟩ ?_
      exact zT_0 ⟨rfl, rfl, rfl⟩
  · rw [if_neg q] at e9
    refine zT_call (k := 61) (cl := 11) (n := 2) (i := .invokevirtual 172) (args := [(21, 0), (0, c)]) (rest := []) (g1 := (hc, hm, o)) (r1 := some (0, 0)) (by decide +kernel) rfl rfl rfl (st' := [(0, 0)]) rfl (S61 hd c hc _ e9) ?_
    refine zT_b (d := 1) (b := [(5, .ifCond .eq 12, 3, (0, 0, 0))]) (gs := [(0 : Int) = 0]) (c' := (17, [some (21, 0), some (0, c), some (0, w)], [], (hc, hm, o))) (by decide +kernel) rfl ⟨rfl, trivial⟩ ?_
    exact zT_0 ⟨rfl, rfl, rfl⟩
set_option maxRecDepth 100000 in
theorem xq_saying {hc : zHC} {hm : zHM} {o : Int → Int} {c w b : Int} {d : Nat} (hd : 1 ≤ d) (e : hc 65 0 0 = b) (hn : ¬ ((0 ≤ c ∧ c < b) ∧ (0 ≤ w ∧ w ≤ 7))) : zTo 0 (fun _ => 0) (zRu2 (fun _ _ _ _ _ => False) d) 167 (fun cf => cf.1 = 18 ∧ cf.2.2.1 = [] ∧ cf.2.2.2 = (hc, hm, o)) (0, zEntry [(21, 0), (0, c), (0, w)] (zmMax 167), [], (hc, hm, o)) := by
  have hmx : zmMax 167 = 3 := by decide +kernel
  rw [hmx]
  refine zT_b (d := 0) (b := [(0, .aload_n 0, 1, (0, 0, 0)), (1, .iload_n 1, 1, (0, 0, 0))]) (gs := []) (c' := (2, [some (21, 0), some (0, c), some (0, w)], [(0, c), (21, 0)], (hc, hm, o))) (by decide +kernel) rfl trivial ?_
  have e9 := E58 (v := c) e
  by_cases q : 0 ≤ c ∧ c < b
  · rw [if_pos q] at e9
    refine zT_call (k := 58) (cl := 11) (n := 2) (i := .invokevirtual 191) (args := [(21, 0), (0, c)]) (rest := []) (g1 := (hc, hm, o)) (r1 := some (0, 1)) (by decide +kernel) rfl rfl rfl (st' := [(0, 1)]) rfl (S58 hd c hc _ e9) ?_
    refine zT_b (d := 0) (b := [(5, .ifCond .eq 13, 3, (0, 0, 0))]) (gs := [¬ (1 : Int) = 0]) (c' := (8, [some (21, 0), some (0, c), some (0, w)], [], (hc, hm, o))) (by decide +kernel) rfl ⟨by decide, trivial⟩ ?_
    by_cases q2 : w < 0
    · refine zT_b (d := 1) (b := [(8, .iload_n 2, 1, (0, 0, 0)), (9, .ifCond .lt 9, 3, (0, 0, 0))]) (gs := [w < 0]) (c' := (18, [some (21, 0), some (0, c), some (0, w)], [], (hc, hm, o))) (by decide +kernel) rfl ⟨q2, trivial⟩ ?_
      exact zT_0 ⟨rfl, rfl, rfl⟩
    · refine zT_b (d := 0) (b := [(8, .iload_n 2, 1, (0, 0, 0)), (9, .ifCond .lt 9, 3, (0, 0, 0))]) (gs := [¬ w < 0]) (c' := (12, [some (21, 0), some (0, c), some (0, w)], [], (hc, hm, o))) (by decide +kernel) rfl ⟨q2, trivial⟩ ?_
      refine zT_b (d := 0) (b := [(12, .iload_n 2, 1, (0, 0, 0)), (13, .bipush 8, 2, (0, 0, 0)), (15, .if_icmp .lt 13, 3, (0, 0, 0))]) (gs := [¬ w < 8]) (c' := (18, [some (21, 0), some (0, c), some (0, w)], [], (hc, hm, o))) (by decide +kernel) rfl ⟨by omega, trivial⟩ ?_
      exact zT_0 ⟨rfl, rfl, rfl⟩
  · rw [if_neg q] at e9
    refine zT_call (k := 58) (cl := 11) (n := 2) (i := .invokevirtual 191) (args := [(21, 0), (0, c)]) (rest := []) (g1 := (hc, hm, o)) (r1 := some (0, 0)) (by decide +kernel) rfl rfl rfl (st' := [(0, 0)]) rfl (S58 hd c hc _ e9) ?_
    refine zT_b (d := 1) (b := [(5, .ifCond .eq 13, 3, (0, 0, 0))]) (gs := [(0 : Int) = 0]) (c' := (18, [some (21, 0), some (0, c), some (0, w)], [], (hc, hm, o))) (by decide +kernel) rfl ⟨rfl, trivial⟩ ?_
    exact zT_0 ⟨rfl, rfl, rfl⟩
theorem sp_rr {d : Nat} : zRRs zlO zlA (zRu2 (fun _ _ _ _ _ => False) d) (zRun (zHop1 0 (fun _ => 0)) zRc1 spec1 d) := z_parRs zAp_ok (fun _ _ _ _ _ _ _ q _ _ => q.elim) d
theorem xq_run {d k t0 : Nat} {c w : Int} {g : zH2} {h : zH1} (hR : zR2 zlO zlA g h) (ht : zTo 0 (fun _ => 0) (zRu2 (fun _ _ _ _ _ => False) d) k (fun cf => cf.1 = t0 ∧ cf.2.2.1 = [] ∧ cf.2.2.2 = g) (0, zEntry [(21, 0), (0, c), (0, w)] (zmMax k), [], g)) : ∃ (n : Nat) (L' : zLo) (h' : zH1), zReach (zHop1 0 (fun _ => 0)) zRc1 (zRun (zHop1 0 (fun _ => 0)) zRc1 spec1 d) k n (0, zEntry [(2, 0), (0, c), (0, w)] (zmMax k), [], h) (t0, L', [], h') ∧ zLn2 h h' ∧ zR2 zlO zlA g h' := by
  obtain ⟨n, c2, h1, h2, h3, h4⟩ := ht
  have hS : zSR zlO zlA False [(21, 0), (0, c), (0, w)] [(2, 0), (0, c), (0, w)] := ⟨Or.inr (Or.inr (Or.inr (Or.inr (Or.inl ⟨11, by decide, rfl, by decide, by decide, by decide⟩)))), Or.inl ⟨rfl, rfl⟩, Or.inl ⟨rfl, rfl⟩, trivial⟩
  obtain ⟨f1, f2⟩ := zSR_fl hS
  have hC : zCR zlO zlA False (0, zEntry [(21, 0), (0, c), (0, w)] (zmMax k), [], g) (0, zEntry [(2, 0), (0, c), (0, w)] (zmMax k), [], h) := by
    refine ⟨rfl, ⟨?_, fun i a ha => ?_⟩, trivial, hR⟩
    · unfold zEntry
      simp only [List.length_append, List.length_replicate, f1]
    · unfold zEntry at ha ⊢
      rw [f1]
      exact f2 _ i a ha
  obtain ⟨n', c1', k1, ⟨k2, k3, k4, k5⟩, k6⟩ := z_parNs zAp_ok sp_rr hC h1
  obtain ⟨pc1, L1, st1, h1'⟩ := c1'
  obtain ⟨pc2, L2, st2, g2⟩ := c2
  dsimp only at k2 k4 k5 k6 h2 h3 h4
  subst h2
  subst h3
  subst h4
  subst k2
  have := zSR_nil k4
  subst this
  exact ⟨n', L1, h1', k1, k6, k5⟩
end
section
/-! The law's own three methods, that catch. -/
section ZBW
variable {p : Program} {l : Launch} {e : Env} {R : Room} {s : State} {m : MethodId} {args : Array Value} {below : List Frame} {meth : Method} {c : Code} {Q : State → Prop}
variable {D : va_G} {A : Nat → Prop} {H0 : Heap} {b : Nat}
/-- behind a call, at any place -/
theorem z_backW {as : List Nat} {ca : Nat → ClassId} {h h1 : zH1} {H : Heap} {locs : List Loc} {ls : Array Slot} {pc mc ms k1 k2 : Nat} {st0 rest : List Value} {r : Option zAv} {a : Array Value}
    (hA : ∀ q, H0.size ≤ q → A q) (hH : zHR s D A H0 as ca h H locs) (hr : va_Run p l e R s m args below meth c H locs k1 k2 mc ms (F0 m pc ls st0) rest (zQc D b as ca h H.size r h1 a) (va_A (zWs as ca h) H.size))
    (kk : ∀ (as' : List Nat) (ca' : Nat → ClassId) (H' : Heap) (locs' : List Loc), zHR s D A H0 as' ca' h1 H' locs' → as <+: as' → (∀ x, r = some x → wfv h1.length False x) → W p l e R s m args below meth c H' locs' (k1 + mc) (k2 + ms) Q (F0 m (pc + 3) ls ((r.map (cv b as')).toList ++ rest))) : W p l e R s m args below meth c H locs k1 k2 Q (F0 m pc ls st0) := by
  obtain ⟨a1, -, -, hD, hS, -⟩ := id hH
  have hfr := zA_of hD hS hA
  intro T hT X
  obtain ⟨v, st₀, t, T', LL, h0, X', hL, e1, e2, ⟨⟨as', ca', hv, hpf, b1, b2, b3, b4, b5, b6⟩, hz, hk⟩, st⟩ := hr T hT X
  cases hv
  rw [h0] at hz hk
  have hS' : va_S A H0 T'.heap (locs ++ LL) := ⟨Nat.le_trans hS.1 (by rw [e1]; exact hz), fun q h1 h2 => by rw [e1, hk q (Nat.lt_of_lt_of_le h1 hS.1) (fun z => h2 (hfr q z))]; exact hS.2.1 q h1 h2, fun q hq => by
      rcases List.mem_append.mp hq with h | h
      · exact hS.2.2 q h
      · exact hfr _ (hL q h)⟩
  have hal : s.vm.Alike t.vm := by rw [← e2]; exact X'.warmed.alike
  have hH' : zHR s D A H0 as' ca' h1 T'.heap (locs ++ LL) := ⟨b1, zKnH.moved hal.symm b2, by rw [e1]; exact b3, ⟨b4.1, fun k q hq => hfr _ (b4.2 k q hq)⟩, hS', b5⟩
  obtain ⟨t2, a2, b2⟩ := kk as' ca' T'.heap (locs ++ LL) hH' hpf b6 T' rfl X'
  exact ⟨t2, st t2 a2, b2⟩
/-- behind a call that throws -/
theorem z_backX {as : List Nat} {ca : Nat → ClassId} {h h1 : zH1} {H : Heap} {locs : List Loc} {ls : Array Slot} {pc mc ms k1 k2 : Nat} {st0 rest : List Value}
    (hA : ∀ q, H0.size ≤ q → A q) (hH : zHR s D A H0 as ca h H locs) (hr : vx_Run p l e R s m args below meth c H locs k1 k2 mc ms (F0 m pc ls st0) rest (fun _ _ _ => False) (xX D as ca h H.size h1) (va_A (zWs as ca h) H.size))
    (kk : ∀ (q9 : Addr) (ce : Cell) (as' : List Nat) (ca' : Nat → ClassId) (H' : Heap) (locs' : List Loc), zHR s D A H0 as' ca' h1 H' locs' → as <+: as' → H'[q9]? = some ce → ce.vm = .none → s.vm.findClass "java/util/NoSuchElementException" = some ce.cls → vx_W p l e R s m args below meth c H' locs' (k1 + mc) (k2 + ms) Q (F0 m pc ls rest) q9) : W p l e R s m args below meth c H locs k1 k2 Q (F0 m pc ls st0) := by
  obtain ⟨a1, -, -, hD, hS, -⟩ := id hH
  have hfr := zA_of hD hS hA
  intro T hT X
  rcases hr T hT X with ⟨v, st₀, t, T', LL, h0, X', hL, e1, e2, hq, st⟩ | ⟨q, st₀, t, T', LL, E, ce, h0, X', hL, e1, e2, ⟨hE, ⟨as', ca', hpf, b1, b2, b3, b4, b5⟩, hz, hk⟩, hce, hcv, hcl, st⟩
  · exact hq.elim
  · subst hE
    rw [h0] at hz hk
    have hS' : va_S A H0 T'.heap (locs ++ LL) := ⟨Nat.le_trans hS.1 (by rw [e1]; exact hz), fun q h1 h2 => by rw [e1, hk q (Nat.lt_of_lt_of_le h1 hS.1) (fun z => h2 (hfr q z))]; exact hS.2.1 q h1 h2, fun q hq => by
        rcases List.mem_append.mp hq with h | h
        · exact hS.2.2 q h
        · exact hfr _ (hL q h)⟩
    have hal : s.vm.Alike t.vm := by rw [← e2]; exact X'.warmed.alike
    have hH' : zHR s D A H0 as' ca' h1 T'.heap (locs ++ LL) := ⟨b1, zKnH.moved hal.symm b2, by rw [e1]; exact b3, ⟨b4.1, fun k q hq => hfr _ (b4.2 k q hq)⟩, hS', b5⟩
    obtain ⟨t2, a2, b2⟩ := kk q ce as' ca' T'.heap (locs ++ LL) hH' hpf (by rw [e1]; exact hce) hcv hcl T' rfl X'
    exact ⟨t2, st.trans a2, b2⟩
end ZBW
def xl_dec (bL : ByteArray) (idx : Nat) : Prop := decode bL 0 = .ok (.aload_n 3, 1) ∧ decode bL 1 = .ok (.iconst 0, 1) ∧ decode bL 2 = .ok (.aload_n 0, 1) ∧ decode bL 3 = .ok (.iload_n 1, 1) ∧ decode bL 4 = .ok (.iload_n 2, 1) ∧ decode bL 5 = .ok (.invokevirtual idx, 3) ∧ decode bL 8 = .ok (.i2l, 1) ∧ decode bL 9 = .ok (.lastore, 1) ∧ decode bL 10 = .ok (.goto 7, 3) ∧ decode bL 13 = .ok (.astore 4, 2) ∧ decode bL 15 = .ok (.iconst 1, 1) ∧ decode bL 16 = .ok (.ireturn, 1) ∧ decode bL 17 = .ok (.iconst 0, 1) ∧ decode bL 18 = .ok (.ireturn, 1)
def xl_wds (k idx : Nat) : Prop := k < 295 ∧ zmC k = 11 ∧ zmN k = 2 ∧ Cond.methodLink "EchoValeLaw" idx (zmY k) ∈ zGW ∧ Cond.instanceMethod (zmY k) ∈ zGW ∧ Cond.selects (zmY k).cls (zmY k) (zmY k) ∈ zGW
theorem gw_1151 : Cond.classLink "EchoValeLaw" 13 "java/util/NoSuchElementException" ∈ zGW := zG_at (i := 1152) (by decide +kernel) (by decide +kernel)
abbrev xlh : List (Nat × Nat × Nat × Nat) := [(0, 10, 13, 13)]
section XLM
variable {l : Launch} {bs : Nat} {sk sv : Nat → Nat} {ac : Nat × Nat × Nat} {d k idx : Nat} {yL : MethodName} {bL : ByteArray} {h h1 : zH1} {c0 w0 r : Int}
set_option maxHeartbeats 4000000 in
theorem xl_ret (hm : ∀ k args h r h', zRun (zHop1 0 (fun _ => 0)) zRc1 spec1 d k args h r h' → zMetK l bs (KK bs sk sv ac) d k args h r h') (hy : plainName yL.cls = true) (hyc : yL.cls = "EchoValeLaw") (hdc : xl_dec bL idx) (hwd : xl_wds k idx)
    (hrun : zRun (zHop1 0 (fun _ => 0)) zRc1 spec1 d k [(2, 0), (0, c0), (0, w0)] h (some (0, r)) h1) (eL : zLn2 h h1) {f0 f1 : Nat → Int} (hc0 : h[0]? = some (11, zNf 11, f0)) (hc1 : h1[196]? = some (21, 1, f1)) (hln : 197 ≤ h.length) (rc : zR32 c0) (rw0 : zR32 w0) (D : va_G) (b : Nat) (as : List Nat) (ca : Nat → ClassId) (sz : Nat) :
    Met l yL (Cond.codeWith yL bL 5 (some .int) xlh :: zGW) (zRm1 (d + 2) 1 6) (va_Pc ([(2, 0), (0, c0), (0, w0), (2, 196)].map (cv b as)) (fun U => U.heap.size = sz ∧ zPreK bs (KK bs sk sv ac) D as ca h U)) (zQc D b as ca h sz (some (0, 0)) (h1.set 196 (21, 1, zUp f1 0 r))) 1 6 (va_A (zWs as ca h) sz) := by
  obtain ⟨d0, d1, d2, d3, d4, d5, d8, d9, d10, -, -, -, d17, d18⟩ := hdc
  obtain ⟨hk, h11, hN, w1, w2, w3⟩ := hwd
  have hkl : k < zMs.length := by rw [zMs_len]; exact hk
  have h14 : ¬ zmC k = 14 := by rw [h11]; decide
  obtain ⟨hpl, hc1', hc2'⟩ := zm_plain hkl h14
  obtain ⟨hpar, hmx, -⟩ := zm_par hkl
  refine va_MetW (cc := bL) (maxL := 5) (ret := some .int) (hh := xlh) hy rfl ?_
  intro p e s m args below meth c s₁ B hml hv
  obtain ⟨rfl, hsz, ⟨a1, a2, a3, a4, a5, a6⟩, aK, aB, aS⟩ := hv
  have hx := B.exec
  have hb := B.bytes
  have hr := B.returns
  have hts0 := atoms_spec (ws := Cond.codeWith yL bL 5 (some .int) xlh :: zGW) B.pre
  have hts : ∀ w ∈ zGW, w.before (([(2, 0), (0, c0), (0, w0), (2, 196)].map (cv b as)).toArray) s = true := fun w hw => hts0 w (List.mem_cons_of_mem _ hw)
  have hown : s.vm.findClass yL.cls = some m.cls := findClass_of_methodNamed B.named
  rw [hyc] at hown
  have hlocks := B.notSynchronized
  subst hsz
  generalize hAe : va_A (zWs as ca h) s.heap.size = A
  have hA : ∀ q : Nat, s.heap.size ≤ q → A q := fun q h => by rw [← hAe]; exact Or.inr h
  have hD : va_D A (zWs as ca h) := by rw [← hAe]; exact a4.self
  have hH : zHR s D A s.heap as ca h s.heap [] := ⟨a1, a2, a3, hD, va_S.rf, a5⟩
  have hl := lv_entry ([(2, 0), (0, c0), (0, w0), (2, 196)].map (cv b as)) (n := 5) (Nat.le_of_ble_eq_true rfl)
  rw [lg_entry_eq]
  generalize (lg_sl ([(2, 0), (0, c0), (0, w0), (2, 196)].map (cv b as)) ++ List.replicate (5 - (lg_sl ([(2, 0), (0, c0), (0, w0), (2, 196)].map (cv b as))).length) Slot.unset).toArray = ls at hl ⊢
  have hl : lv_has ls 5 [(0, .ref (as.getD 0 0)), (1, .int (Int32.ofInt c0)), (2, .int (Int32.ofInt w0)), (3, .ref (as.getD 196 0))] := hl
  refine lv_aload_n hx hb d0 rfl (lv_at hl 3 rfl) ?_
  refine lv_iconst (v := 0) hx hb d1 rfl ?_
  refine lv_aload_n hx hb d2 rfl (lv_at hl 0 rfl) ?_
  refine lv_iload_n hx hb d3 rfl (lv_at hl 1 rfl) ?_
  refine lv_iload_n hx hb d4 rfl (lv_at hl 2 rfl) ?_
  obtain ⟨z1, z2, hmet⟩ := hm _ _ _ _ _ hrun
  have hwa : ∀ a ∈ ([(2, 0), (0, c0), (0, w0)] : List zAv), wfv h.length False a := by
    intro a ha
    simp only [List.mem_cons, List.not_mem_nil, or_false] at ha
    rcases ha with rfl | rfl | rfl
    · exact (⟨by decide, by omega⟩ : (0 : Int) ≤ 0 ∧ (0 : Int) < (h.length : Int))
    · exact rc
    · exact rw0
  have hM := hmet D b as ca s.heap.size hwa
  rw [eL.1, eL.2, Nat.sub_self, Nat.sub_self] at hM
  obtain ⟨tys, t1, t2⟩ := a2
  have he := zWs_at (as := as) (ca := ca) hc0
  rw [zEnt_o (by decide)] at he
  have hrec := va_recv t1 a3 (zCl_at (ci := 11) (by decide)) he
  have hcls : (zmY k).cls = zOw 11 := by rw [zm_cls hkl, h11]
  have hpp : ∀ sig, parseMethodDescriptor (zmY k).desc = some sig → 2 = sig.parameters.length := by
    intro sig q
    rw [q] at hpar
    rw [← hN]
    exact (Option.some.inj hpar).symm
  have hcal : CallFix p m c bL 5 s (([(2, 0), (0, c0), (0, w0), (2, 196)].map (cv b as)).toArray) zGW "EchoValeLaw" := ⟨hx, hb, hml, hown, hts⟩
  have hrr := va_runV (p := p) (l := l) (e := e) (below := below) (meth := meth) (R := (headSpec (Cond.codeWith yL bL 5 (some .int) xlh :: zGW) (zRm1 (d + 2) 1 6)).room) (H := s.heap) (locs := []) (cells := 0) (slots := 0) (C := (zmY k).cls) (b := as.getD 0 0) (As := [.int (Int32.ofInt c0), .int (Int32.ofInt w0)]) (rest := [.int 0, .ref (as.getD 196 0)]) (g := F0 m 5 ls [.int (Int32.ofInt w0), .int (Int32.ofInt c0), .ref (as.getD 0 0), .int 0, .ref (as.getD 196 0)]) (n := 2) hcal hM
    ⟨⟨rfl, rfl, by show d + 1 ≤ d + 2; omega, by show 8 + (zmMax k + 11) + 60 * d ≤ 60 * (d + 2); omega, zWd_pay hk hts, List.mem_cons_self, hts _ (zm_code hkl), hts _ (zm_ini hkl), ⟨hc1', hc2'⟩, hpp, hts _ w1⟩, hts _ w2, hts _ w3⟩
    ⟨zBlindK KK_keep, by rw [hcls]; exact hrec, fun U hU hW => ⟨rfl, by rw [hU], ⟨a1, zKnH.moved hW.alike ⟨tys, t1, t2⟩, by rw [hU]; exact a3, a4, a5, zKnS_warm hW a6⟩, by rw [hU]; exact KK_keep s U s.heap s.heap hW aK (fun _ _ _ => rfl), by rw [hU]; exact aB, aS⟩⟩ rfl rfl hl.1 rfl (lv_room (Nat.le_of_ble_eq_true rfl)) d5 ⟨Nat.zero_le _, Nat.zero_le _⟩
  refine z_backW (b := b) (r := some (0, r)) (h1 := h1) hA hH hrr ?_
  intro as' ca' H' locs' hH' hp' hwr
  refine W.eq (g2 := F0 m 8 ls [.int (Int32.ofInt r), .int 0, .ref (as.getD 196 0)]) rfl ?_
  have rr : zR32 r := hwr _ rfl
  have r6 : zR64 r := ⟨by have := rr.1; omega, by have := rr.2; omega⟩
  refine lv_i2l (v := Int64.ofInt r) hx hb d8 (Int32.toInt64_ofInt (by show -2147483648 ≤ r; exact rr.1) (by show r ≤ 2147483647; have := rr.2; omega)) ?_
  obtain ⟨b1, ⟨tys', b2, b3⟩, b4, b5, b6, b7⟩ := id hH'
  have e196 : as'.getD 196 0 = as.getD 196 0 := by
    have := cv_pre (b := b) (sc := False) (a := (2, 196)) hp' (⟨by decide, by rw [a1]; omega⟩ : (0 : Int) ≤ 196 ∧ (196 : Int) < (as.length : Int))
    exact Value.ref.inj this
  obtain ⟨tt, htt⟩ := b3 196 _ hc1 (show 20 ≤ 21 by decide)
  have he1 := zWs_at (as := as') (ca := ca') hc1
  rw [zEnt_J, e196] at he1
  refine va_last (f := fun j => Int64.ofInt (f1 j)) hx hb b2 b4 b5 b6 196 tt he1 htt (i := 0) (x := Int64.ofInt r) (show ¬ ((0 : Int32) < 0 ∨ 1 ≤ (0 : Int32).toNatClampNeg) by decide) d9 (fun H2 locs2 g1 g2 g3 => ?_)
  rw [show ((0 : Int32)).toNatClampNeg = 0 from by decide, ← updL_of, ← zEnt_J (as := as'), ← e196, zWs_set] at g1 g2
  have hHs := hH'.set (cl' := (21, 1, zUp f1 0 r)) hc1 rfl (wfc_up1 (b7 _ _ hc1) (by decide) r6) g1 g2 g3
  refine lv_goto (tgt := 17) hx hb d10 rfl ?_
  refine lv_iconst (v := 0) hx hb d17 rfl ?_
  refine W.widen (k := 1) (n := 6) (by omega) (by omega) ?_
  obtain ⟨q1, q2, q3, q4, q5, q6⟩ := hHs
  refine W.iret (v := 0) hx hb hr (fun t ht hW => ⟨⟨as', ca', rfl, hp', q1, zKnH.moved hW.alike q2, by rw [ht]; exact q3, by rw [hAe]; exact q4, q6, fun a ha => ?_⟩, by rw [hAe]; exact q5.F ht⟩) q5.2.2 d18
  cases ha
  exact r32_0
set_option maxHeartbeats 4000000 in
theorem xl_thr (hl0 : l.stackTraces = false) {is sa n t0 : Nat} {tx : String} {L' : zLo} (hm : ∀ k args h r h', zRun (zHop1 0 (fun _ => 0)) zRc1 spec1 d k args h r h' → zMetK l bs (KK bs sk sv ac) d k args h r h') (hd : 7 ≤ d) (hy : plainName yL.cls = true) (hyc : yL.cls = "EchoValeLaw") (hdc : xl_dec bL idx) (hwd : xl_wds k idx)
    (hfl : 3 ≤ zmMax k) (hS0 : zReach (zHop1 0 (fun _ => 0)) zRc1 (zRun (zHop1 0 (fun _ => 0)) zRc1 spec1 d) k n (0, zEntry [(2, 0), (0, c0), (0, w0)] (zmMax k), [], h) (t0, L', [], h1)) (eL : zLn2 h h1) (g0 : decode (zmCode k) t0 = .ok (.new 143, 3)) (g3 : decode (zmCode k) (t0 + 3) = .ok (.dup, 1)) (g4 : decode (zmCode k) (t0 + 4) = .ok (.ldc is, 2)) (g6 : decode (zmCode k) (t0 + 6) = .ok (.invokespecial 147, 3)) (g9 : decode (zmCode k) (t0 + 9) = .ok (.athrow, 1))
    (hstr : ∀ U H, KK bs sk sv ac U H → vk_R "EchoVale" is tx sa U) {f0 : Nat → Int} (hc0 : h[0]? = some (11, zNf 11, f0)) (hln : 197 ≤ h.length) (rc : zR32 c0) (rw0 : zR32 w0) (D : va_G) (b : Nat) (as : List Nat) (ca : Nat → ClassId) (sz : Nat) :
    Met l yL (Cond.codeWith yL bL 5 (some .int) xlh :: zGW) (zRm1 (d + 2) 1 6) (va_Pc ([(2, 0), (0, c0), (0, w0), (2, 196)].map (cv b as)) (fun U => U.heap.size = sz ∧ zPreK bs (KK bs sk sv ac) D as ca h U)) (zQc D b as ca h sz (some (0, 1)) h1) 1 6 (va_A (zWs as ca h) sz) := by
  obtain ⟨d0, d1, d2, d3, d4, d5, -, -, -, d13, d15, d16, -, -⟩ := hdc
  obtain ⟨hk, h11, hN, w1, w2, w3⟩ := hwd
  have hkl : k < zMs.length := by rw [zMs_len]; exact hk
  have h14 : ¬ zmC k = 14 := by rw [h11]; decide
  obtain ⟨hpl, hc1', hc2'⟩ := zm_plain hkl h14
  obtain ⟨hpar, hmx, -⟩ := zm_par hkl
  refine va_MetW (cc := bL) (maxL := 5) (ret := some .int) (hh := xlh) hy rfl ?_
  intro p e s m args below meth c s₁ B hml hv
  obtain ⟨rfl, hsz, ⟨a1, a2, a3, a4, a5, a6⟩, aK, aB, aS⟩ := hv
  have hx := B.exec
  have hb := B.bytes
  have hr := B.returns
  have hts0 := atoms_spec (ws := Cond.codeWith yL bL 5 (some .int) xlh :: zGW) B.pre
  have hts : ∀ w ∈ zGW, w.before (([(2, 0), (0, c0), (0, w0), (2, 196)].map (cv b as)).toArray) s = true := fun w hw => hts0 w (List.mem_cons_of_mem _ hw)
  have htab : c.exceptionTable.toList = tableOf xlh := vx_table (x := yL) B (hts0 _ List.mem_cons_self)
  have hown : s.vm.findClass yL.cls = some m.cls := findClass_of_methodNamed B.named
  rw [hyc] at hown
  have hlocks := B.notSynchronized
  subst hsz
  generalize hAe : va_A (zWs as ca h) s.heap.size = A
  have hA : ∀ q : Nat, s.heap.size ≤ q → A q := fun q h => by rw [← hAe]; exact Or.inr h
  have hD : va_D A (zWs as ca h) := by rw [← hAe]; exact a4.self
  have hH : zHR s D A s.heap as ca h s.heap [] := ⟨a1, a2, a3, hD, va_S.rf, a5⟩
  have hl := lv_entry ([(2, 0), (0, c0), (0, w0), (2, 196)].map (cv b as)) (n := 5) (Nat.le_of_ble_eq_true rfl)
  rw [lg_entry_eq]
  generalize (lg_sl ([(2, 0), (0, c0), (0, w0), (2, 196)].map (cv b as)) ++ List.replicate (5 - (lg_sl ([(2, 0), (0, c0), (0, w0), (2, 196)].map (cv b as))).length) Slot.unset).toArray = ls at hl ⊢
  have hl : lv_has ls 5 [(0, .ref (as.getD 0 0)), (1, .int (Int32.ofInt c0)), (2, .int (Int32.ofInt w0)), (3, .ref (as.getD 196 0))] := hl
  refine lv_aload_n hx hb d0 rfl (lv_at hl 3 rfl) ?_
  refine lv_iconst (v := 0) hx hb d1 rfl ?_
  refine lv_aload_n hx hb d2 rfl (lv_at hl 0 rfl) ?_
  refine lv_iload_n hx hb d3 rfl (lv_at hl 1 rfl) ?_
  refine lv_iload_n hx hb d4 rfl (lv_at hl 2 rfl) ?_
  have hwa : ∀ a ∈ ([(2, 0), (0, c0), (0, w0)] : List zAv), wfv h.length False a := by
    intro a ha
    simp only [List.mem_cons, List.not_mem_nil, or_false] at ha
    rcases ha with rfl | rfl | rfl
    · exact (⟨by decide, by omega⟩ : (0 : Int) ≤ 0 ∧ (0 : Int) < (h.length : Int))
    · exact rc
    · exact rw0
  have hM := x_thr (l := l) hl0 (h := h) (h' := h1) (args := [(2, 0), (0, c0), (0, w0)]) hm hd hk h11 hfl hS0 eL g0 g3 g4 g6 g9 hstr D b as ca s.heap.size hwa
  obtain ⟨tys, t1, t2⟩ := a2
  have he := zWs_at (as := as) (ca := ca) hc0
  rw [zEnt_o (by decide)] at he
  have hrec := va_recv t1 a3 (zCl_at (ci := 11) (by decide)) he
  have hcls : (zmY k).cls = zOw 11 := by rw [zm_cls hkl, h11]
  have hpp : ∀ sig, parseMethodDescriptor (zmY k).desc = some sig → 2 = sig.parameters.length := by
    intro sig q
    rw [q] at hpar
    rw [← hN]
    exact (Option.some.inj hpar).symm
  have hcal : CallFix p m c bL 5 s (([(2, 0), (0, c0), (0, w0), (2, 196)].map (cv b as)).toArray) zGW "EchoValeLaw" := ⟨hx, hb, hml, hown, hts⟩
  have hrr := vx_runV (p := p) (l := l) (e := e) (below := below) (meth := meth) (R := (headSpec (Cond.codeWith yL bL 5 (some .int) xlh :: zGW) (zRm1 (d + 2) 1 6)).room) (H := s.heap) (locs := []) (cells := 0) (slots := 0) (C := (zmY k).cls) (b := as.getD 0 0) (As := [.int (Int32.ofInt c0), .int (Int32.ofInt w0)]) (rest := [.int 0, .ref (as.getD 196 0)]) (g := F0 m 5 ls [.int (Int32.ofInt w0), .int (Int32.ofInt c0), .ref (as.getD 0 0), .int 0, .ref (as.getD 196 0)]) (n := 2) hcal hM
    ⟨⟨rfl, rfl, by show d + 1 + 1 ≤ d + 2; omega, by show 8 + (zmMax k + 11) + 60 * (d + 1) ≤ 60 * (d + 2); omega, zWd_pay hk hts, List.mem_cons_self, hts _ (zm_code hkl), hts _ (zm_ini hkl), ⟨hc1', hc2'⟩, hpp, hts _ w1⟩, hts _ w2, hts _ w3⟩
    ⟨zBlindK KK_keep, by rw [hcls]; exact hrec, fun U hU hW => ⟨rfl, by rw [hU], ⟨a1, zKnH.moved hW.alike ⟨tys, t1, t2⟩, by rw [hU]; exact a3, a4, a5, zKnS_warm hW a6⟩, by rw [hU]; exact KK_keep s U s.heap s.heap hW aK (fun _ _ _ => rfl), by rw [hU]; exact aB, aS⟩⟩ rfl rfl hl.1 rfl (lv_room (Nat.le_of_ble_eq_true rfl)) d5 ⟨by show 0 + 1 ≤ 1; omega, by show 0 + 6 ≤ 6; omega⟩
  refine z_backX (h1 := h1) hA hH hrr ?_
  intro q9 ce as' ca' H' locs' hH' hp' hce hcv hcl
  refine vx_catch (own := "EchoValeLaw") (name := "java/util/NoSuchElementException") (E := "java/util/NoSuchElementException") hown [] ⟨0, 10, 13, 13⟩ [] htab (fun z hz => nomatch hz) rfl (by decide) (hts _ gw_1151) (va_Nw.use rfl (aK.2.2.2.2.2.2.2 _ List.mem_cons_self)) hce hcv hcl ?_
  refine W.eq (g2 := F0 m 13 ls [.ref q9]) rfl ?_
  refine lv_astore (lv' := [(4, .ref q9), (0, .ref (as.getD 0 0)), (1, .int (Int32.ofInt c0)), (2, .int (Int32.ofInt w0)), (3, .ref (as.getD 196 0))]) hx hb d13 hl (by decide) rfl (fun ls1 hl1 => ?_)
  refine lv_iconst (v := 1) hx hb d15 rfl ?_
  obtain ⟨q1, q2, q3, q4, q5, q6⟩ := hH'
  refine W.iret (v := 1) hx hb hr (fun t ht hW => ⟨⟨as', ca', rfl, hp', q1, zKnH.moved hW.alike q2, by rw [ht]; exact q3, by rw [hAe]; exact q4, q6, fun a ha => ?_⟩, by rw [hAe]; exact q5.F ht⟩) q5.2.2 d16
  cases ha
  exact (⟨by decide, by decide⟩ : zR32 1)
end XLM
end
