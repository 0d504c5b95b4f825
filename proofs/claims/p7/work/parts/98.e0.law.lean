/-! The law's own places: the rules of part 22 with the script. -/
def zBx (Ls : Nat) (xs : Nat → Int) (d : Int) : List zRow → zCf zH2 → zRs zH2
  | [], c => some ([], c)
  | (pc, i, len, ax) :: b, c => match Nat.beq pc c.1 with
    | true => match zX (zHop2 Ls xs) i len ax d c with
      | some (gs, c1) => match zBx Ls xs d b c1 with
        | some (gs', c2) => some (gs ++ gs', c2)
        | none => none
      | none => none
    | false => none
def zTo (Ls : Nat) (xs : Nat → Int) (run : zRn zH2) (mi : Nat) (P : zCf zH2 → Prop) (c : zCf zH2) : Prop := ∃ (n : Nat) (c' : zCf zH2), zRe2 Ls xs run mi n c c' ∧ P c'
section ZT
variable {run : zRn zH2} {mi Ls : Nat} {xs : Nat → Int} {P : zCf zH2 → Prop}
theorem zT_0 {c : zCf zH2} (h : P c) : zTo Ls xs run mi P c := ⟨0, c, rfl, h⟩
theorem zT_1 {c c' : zCf zH2} (h1 : zS2 Ls xs run mi c c') (h2 : zTo Ls xs run mi P c') : zTo Ls xs run mi P c := by
  obtain ⟨n, c2, h3, h4⟩ := h2
  exact ⟨n + 1, c2, ⟨c', h1, h3⟩, h4⟩
theorem zT_b {d : Int} {b : List zRow} {c c' : zCf zH2} {gs : List Prop} (hk : zRk mi b = true) (e : zBx Ls xs d b c = some (gs, c')) (hg : zAll gs) (h : zTo Ls xs run mi P c') : zTo Ls xs run mi P c := by
  induction b generalizing c gs with
  | nil => cases e; exact h
  | cons q b ih =>
    obtain ⟨pc, i, len, ax⟩ := q
    unfold zRk at hk
    rw [List.all_cons, Bool.and_eq_true] at hk
    obtain ⟨k1, k2⟩ := hk
    simp only [Bool.and_eq_true] at k1
    obtain ⟨k3, k4, k5, k6⟩ := k1
    unfold zBx at e
    split at e
    · rename_i e1
      have e1 := Nat.eq_of_beq_eq_true e1
      subst e1
      split at e
      · rename_i gs1 c1 e2
        split at e
        · rename_i gs2 c2 e3
          cases e
          obtain ⟨g1, g2⟩ := zAll_app.mp hg
          refine zT_1 (Or.inl ⟨i, len, ax, d, gs1, ?_, k4, k5, k6, e2, g1⟩) (ih k2 e3 g2)
          split at k3
          · rename_i p e4
            rw [e4, of_decide_eq_true k3]
          · cases k3
        · cases e
      · cases e
    · cases e
theorem zT_blk {m : List Bool} {d : Int} {b : List zRow} {c c' : zCf zH2} {gs : List Prop} (hk : zRk mi b = true) (e : zBm m (zBx Ls xs d b c) = some (gs, c')) (hg : zAll gs) (h : zTo Ls xs run mi P c') : zTo Ls xs run mi P c := by
  cases e1 : zBx Ls xs d b c with
  | none => rw [e1] at e; cases e
  | some q =>
    obtain ⟨gs1, c1⟩ := q
    rw [e1] at e
    cases e
    exact zT_b hk e1 hg (zT_1 (c := c1) (c' := (c1.1, zMk m c1.2.1, c1.2.2.1, c1.2.2.2)) (Or.inr (Or.inr ⟨rfl, rfl, zMk_sub⟩)) h)
theorem zT_call {pc k cl n : Nat} {i : Instr} {L : zLo} {args rest st st' : List zAv} {g g1 : zH2} {r1 : Option zAv} (hk : zCk1 mi pc i k cl n = true) (h2 : zCk2 i cl args rest = true) (hn : args.length = n) (hs : st = args.reverse ++ rest) (hs' : st' = r1.toList ++ rest) (hr : run k args g r1 g1) (h : zTo Ls xs run mi P (pc + 3, L, st', g1)) : zTo Ls xs run mi P (pc, L, st, g) := by
  unfold zCk1 at hk
  simp only [Bool.and_eq_true] at hk
  obtain ⟨k1, k2, k3, k4, k5, k6, k7⟩ := hk
  unfold zCk2 at h2
  simp only [Bool.and_eq_true] at h2
  obtain ⟨j1, j2, j3⟩ := h2
  have k6 := Nat.eq_of_beq_eq_true k6
  have k7 := Nat.eq_of_beq_eq_true k7
  have k5 : ¬ zmC k = 14 := by
    intro q
    rw [q] at k5
    cases k5
  subst hs'
  refine zT_1 (Or.inr (Or.inl ⟨i, (k, 0, 0), args, rest, r1, g1, ?_, k2, k3, Nat.le_of_ble_eq_true k4, k5, hs, by rw [hn]; exact k7, fun x hx => ?_, fun x hx => ?_, j2, j3, hr, rfl⟩)) h
  · split at k1
    · rename_i p e4
      rw [e4, of_decide_eq_true k1]
    · cases k1
  · subst hx
    cases args with
    | nil => cases j1
    | cons a as =>
      simp only [Bool.and_eq_true] at j1
      have j4 := Nat.le_of_ble_eq_true j1.1
      have j5 := Nat.eq_of_beq_eq_true j1.2
      refine ⟨a, rfl, ?_⟩
      unfold zRc2
      dsimp only
      rw [k6]
      exact ⟨j4, j5⟩
  · subst hx
    cases args with
    | nil => cases j1
    | cons a as => exact ⟨a, rfl, j1⟩
theorem zT_tr {P' : zCf zH2 → Prop} {c : zCf zH2} (h1 : zTo Ls xs run mi P c) (h2 : ∀ c', P c' → zTo Ls xs run mi P' c') : zTo Ls xs run mi P' c := by
  obtain ⟨n, c', h3, h4⟩ := h1
  induction n generalizing c with
  | zero => cases h3; exact h2 _ h4
  | succ n ih =>
    obtain ⟨c1, g1, g2⟩ := h3
    exact zT_1 g1 (ih g2)
end ZT
abbrev Lh (i : Int) : zLo := [some (5, 0), some (21, 0), some (22, 0), some (6, 0), some (0, i), none, none]
def LN (i : Int) (o : Int → Int) : zCf zH2 → Prop := fun c => ∃ (hc : zHC) (hm : zHM), RG hc hm ∧ c = (23, Lh (wadd i 6), [], (hc, hm, o))
theorem gd {Ls : Nat} {i j : Int} (h : 0 ≤ i ∧ i + 6 ≤ (Ls : Int) ∧ Ls ≤ 3072) (h0 : 0 ≤ j) (h1 : j ≤ 5) : 0 ≤ wadd i j ∧ wadd i j < (Ls : Int) := by
  obtain ⟨a, b, c⟩ := h
  rw [wadd_eq (by omega) (by omega)]
  omega
noncomputable def LBh : List zRow := [(23, .iload 4, 2, (0, 0, 0)), (25, .aload_n 0, 1, (0, 0, 0)), (26, .arraylength, 1, (1, 0, 0)), (27, .bipush 6, 2, (0, 0, 0)), (29, .isub, 1, (0, 0, 0)), (30, .if_icmp .gt 1618, 3, (0, 0, 0))]
theorem LBh_ok : zRk 295 LBh = true := zRw_ok (by decide +kernel)
noncomputable def LBs : List zRow := [(33, .aload_n 0, 1, (0, 0, 0)), (34, .iload 4, 2, (0, 0, 0)), (36, .iaload, 1, (1, 0, 0)), (37, .bipush 63, 2, (0, 0, 0)), (39, .iand, 1, (0, 0, 0)), (40, .tableswitch 1602 0 40 #[180, 253, 278, 291, 304, 344, 412, 452, 501, 538, 575, 612, 661, 686, 699, 736, 785, 834, 871, 944, 981, 1006, 1043, 1092, 1141, 1178, 1191, 1216, 1229, 1266, 1291, 1340, 1365, 1402, 1439, 1464, 1489, 1502, 1527, 1552, 1577], 180, (0, 0, 0))]
theorem LBs_ok : zRk 295 LBs = true := by decide +kernel
noncomputable def LBe : List zRow := [(1642, .iinc 4 6, 3, (0, 0, 0)), (1645, .goto (-1622), 3, (0, 0, 0))]
theorem LBe_ok : zRk 295 LBe = true := zRw_ok (by decide +kernel)
noncomputable def LBr : List zRow := [(1648, .iconst 1, 1, (0, 0, 0))]
theorem LBr_ok : zRk 295 LBr = true := zRw_ok (by decide +kernel)
set_option maxRecDepth 100000 in
theorem LE {Ls : Nat} {xs : Nat → Int} {run : zRn zH2} {i : Int} {hc : zHC} {hm : zHM} {o : Int → Int} (h : RG hc hm) : zTo Ls xs run 295 (LN i o) (1642, Lh i, [], (hc, hm, o)) := by
  refine zT_b (d := 0) (b := LBe) (gs := []) (c' := (23, Lh (wadd i 6), [], (hc, hm, o))) LBe_ok rfl trivial ?_
  exact zT_0 ⟨hc, hm, h, rfl⟩
set_option maxRecDepth 100000 in
theorem LH_in {Ls : Nat} {xs : Nat → Int} {run : zRn zH2} {i : Int} {g : zH2} {P : zCf zH2 → Prop} (hi : 0 ≤ i ∧ i + 6 ≤ (Ls : Int) ∧ Ls ≤ 3072) (k : zTo Ls xs run 295 P (33, Lh i, [], g)) : zTo Ls xs run 295 P (23, Lh i, [], g) := by
  refine zT_b (d := 0) (b := LBh) (gs := [¬ wsub (Ls : Int) 6 < i]) (c' := (33, Lh i, [], g)) LBh_ok rfl ⟨?_, trivial⟩ k
  rw [wsub_eq (by omega) (by omega)]
  omega
set_option maxRecDepth 100000 in
theorem LH_out {Ls : Nat} {xs : Nat → Int} {run : zRn zH2} {i : Int} {g : zH2} (hL : Ls ≤ 3072) (hi : (Ls : Int) < i + 6) : zTo Ls xs run 295 (fun c => c = (1649, Lh i, [(0, 1)], g)) (23, Lh i, [], g) := by
  refine zT_b (d := 1) (b := LBh) (gs := [wsub (Ls : Int) 6 < i]) (c' := (1648, Lh i, [], g)) LBh_ok rfl ⟨?_, trivial⟩ ?_
  · rw [wsub_eq (by omega) (by omega)]
    omega
  · refine zT_b (d := 0) (b := LBr) (gs := []) (c' := (1649, Lh i, [(0, 1)], g)) LBr_ok rfl trivial ?_
    exact zT_0 rfl
set_option maxRecDepth 100000 in
theorem LH_def {Ls : Nat} {xs : Nat → Int} {spec : zRn zH2} {i : Int} {hc : zHC} {hm : zHM} {o : Int → Int} (hi : 0 ≤ i ∧ i + 6 ≤ (Ls : Int) ∧ Ls ≤ 3072) (h : RG hc hm) (hw : wand (xs i.toNat) 63 < 0 ∨ 40 < wand (xs i.toNat) 63) : zTo Ls xs (zRu2 spec 600) 295 (LN i o) (33, Lh i, [], (hc, hm, o)) := by
  refine zT_b (d := 41) (b := LBs) (gs := [0 ≤ i ∧ i < (Ls : Int), wand (xs i.toNat) 63 < 0 ∨ 40 < wand (xs i.toNat) 63]) (c' := (1642, Lh i, [], (hc, hm, o))) LBs_ok rfl ⟨by omega, hw, trivial⟩ ?_
  exact LE h
