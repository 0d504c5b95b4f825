section
/-! The law's own places: the rules of part 22 with the script. -/
def zBx (Ls : Nat) (xs : Nat → Int) (d : Int) : List zRow → zCf zH2 → zRs zH2
  | [], c => some ([], c)
  | (pc, i, len, ax) :: b, c => match Nat.beq pc c.1 with
    | true => match zX (zHop2 Ls xs) i len ax d c with
      | some (gs, c1) => match zBx Ls xs d b c1 with
        | some (gs', c2) => some (gs ++ gs', c2)
        | none => none
      | none => none
    | false => none
def zTo (Ls : Nat) (xs : Nat → Int) (run : zRn zH2) (mi : Nat) (P : zCf zH2 → Prop) (c : zCf zH2) : Prop := ∃ (n : Nat) (c' : zCf zH2), zRe2 Ls xs run mi n c c' ∧ P c'
section ZT
variable {run : zRn zH2} {mi Ls : Nat} {xs : Nat → Int} {P : zCf zH2 → Prop}
theorem zT_0 {c : zCf zH2} (h : P c) : zTo Ls xs run mi P c := ⟨0, c, rfl, h⟩
theorem zT_1 {c c' : zCf zH2} (h1 : zS2 Ls xs run mi c c') (h2 : zTo Ls xs run mi P c') : zTo Ls xs run mi P c := by
  obtain ⟨n, c2, h3, h4⟩ := h2
  exact ⟨n + 1, c2, ⟨c', h1, h3⟩, h4⟩
theorem zT_b {d : Int} {b : List zRow} {c c' : zCf zH2} {gs : List Prop} (hk : zRk mi b = true) (e : zBx Ls xs d b c = some (gs, c')) (hg : zAll gs) (h : zTo Ls xs run mi P c') : zTo Ls xs run mi P c := by
  induction b generalizing c gs with
  | nil => cases e; exact h
  | cons q b ih =>
    obtain ⟨pc, i, len, ax⟩ := q
    unfold zRk at hk
    rw [List.all_cons, Bool.and_eq_true] at hk
    obtain ⟨k1, k2⟩ := hk
    simp only [Bool.and_eq_true] at k1
    obtain ⟨k3, k4, k5, k6⟩ := k1
    unfold zBx at e
    split at e
    · rename_i e1
      have e1 := Nat.eq_of_beq_eq_true e1
      subst e1
      split at e
      · rename_i gs1 c1 e2
        split at e
        · rename_i gs2 c2 e3
          cases e
          obtain ⟨g1, g2⟩ := zAll_app.mp hg
          refine zT_1 (Or.inl ⟨i, len, ax, d, gs1, ?_, k4, k5, k6, e2, g1⟩) (ih k2 e3 g2)
          split at k3
          · rename_i p e4
            rw [e4, of_decide_eq_true k3]
          · cases k3
        · cases e
      · cases e
    · cases e
theorem zT_blk {m : List Bool} {d : Int} {b : List zRow} {c c' : zCf zH2} {gs : List Prop} (hk : zRk mi b = true) (e : zBm m (zBx Ls xs d b c) = some (gs, c')) (hg : zAll gs) (h : zTo Ls xs run mi P c') : zTo Ls xs run mi P c := by
  cases e1 : zBx Ls xs d b c with
  | none => rw [e1] at e; cases e
  | some q =>
    obtain ⟨gs1, c1⟩ := q
    rw [e1] at e
    cases e
    exact zT_b hk e1 hg (zT_1 (c := c1) (c' := (c1.1, zMk m c1.2.1, c1.2.2.1, c1.2.2.2)) (Or.inr (Or.inr ⟨rfl, rfl, zMk_sub⟩)) h)
theorem zT_call {pc k cl n : Nat} {i : Instr} {L : zLo} {args rest st st' : List zAv} {g g1 : zH2} {r1 : Option zAv} (hk : zCk1 mi pc i k cl n = true) (h2 : zCk2 i cl args rest = true) (hn : args.length = n) (hs : st = args.reverse ++ rest) (hs' : st' = r1.toList ++ rest) (hr : run k args g r1 g1) (h : zTo Ls xs run mi P (pc + 3, L, st', g1)) : zTo Ls xs run mi P (pc, L, st, g) := by
  unfold zCk1 at hk
  simp only [Bool.and_eq_true] at hk
  obtain ⟨k1, k2, k3, k4, k5, k6, k7⟩ := hk
  unfold zCk2 at h2
  simp only [Bool.and_eq_true] at h2
  obtain ⟨j1, j2, j3⟩ := h2
  have k6 := Nat.eq_of_beq_eq_true k6
  have k7 := Nat.eq_of_beq_eq_true k7
  have k5 : ¬ zmC k = 14 := by
    intro q
    rw [q] at k5
    cases k5
  subst hs'
  refine zT_1 (Or.inr (Or.inl ⟨i, (k, 0, 0), args, rest, r1, g1, ?_, k2, k3, Nat.le_of_ble_eq_true k4, k5, hs, by rw [hn]; exact k7, fun x hx => ?_, fun x hx => ?_, j2, j3, hr, rfl⟩)) h
  · split at k1
    · rename_i p e4
      rw [e4, of_decide_eq_true k1]
    · cases k1
  · subst hx
    cases args with
    | nil => cases j1
    | cons a as =>
      simp only [Bool.and_eq_true] at j1
      have j4 := Nat.le_of_ble_eq_true j1.1
      have j5 := Nat.eq_of_beq_eq_true j1.2
      refine ⟨a, rfl, ?_⟩
      unfold zRc2
      dsimp only
      rw [k6]
      exact ⟨j4, j5⟩
  · subst hx
    cases args with
    | nil => cases j1
    | cons a as => exact ⟨a, rfl, j1⟩
theorem zT_tr {P' : zCf zH2 → Prop} {c : zCf zH2} (h1 : zTo Ls xs run mi P c) (h2 : ∀ c', P c' → zTo Ls xs run mi P' c') : zTo Ls xs run mi P' c := by
  obtain ⟨n, c', h3, h4⟩ := h1
  induction n generalizing c with
  | zero => cases h3; exact h2 _ h4
  | succ n ih =>
    obtain ⟨c1, g1, g2⟩ := h3
    exact zT_1 g1 (ih g2)
end ZT
abbrev Lh (i : Int) : zLo := [some (5, 0), some (21, 0), some (22, 0), some (6, 0), some (0, i), none, none]
def LN (i : Int) (o : Int → Int) : zCf zH2 → Prop := fun c => ∃ (hc : zHC) (hm : zHM), RG hc hm ∧ c = (23, Lh (wadd i 6), [], (hc, hm, o))
theorem gd {Ls : Nat} {i j : Int} (h : 0 ≤ i ∧ i + 6 ≤ (Ls : Int) ∧ Ls ≤ 6) (h0 : 0 ≤ j) (h1 : j ≤ 5) : 0 ≤ wadd i j ∧ wadd i j < (Ls : Int) := by
  obtain ⟨a, b, c⟩ := h
  rw [wadd_eq (by omega) (by omega)]
  omega
def LBh : List zRow := [(23, .iload 4, 2, (0, 0, 0)), (25, .aload_n 0, 1, (0, 0, 0)), (26, .arraylength, 1, (1, 0, 0)), (27, .bipush 6, 2, (0, 0, 0)), (29, .isub, 1, (0, 0, 0)), (30, .if_icmp .gt 1674, 3, (0, 0, 0))]
theorem LBh_ok : zRk 295 LBh = true := by decide +kernel
def LBs : List zRow := [(33, .aload_n 0, 1, (0, 0, 0)), (34, .iload 4, 2, (0, 0, 0)), (36, .iaload, 1, (1, 0, 0)), (37, .bipush 63, 2, (0, 0, 0)), (39, .iand, 1, (0, 0, 0)), (40, .tableswitch 1658 0 40 #[180, 253, 278, 291, 304, 372, 440, 508, 557, 594, 631, 668, 717, 742, 755, 792, 841, 890, 927, 1000, 1037, 1062, 1099, 1148, 1197, 1234, 1247, 1272, 1285, 1322, 1347, 1396, 1421, 1458, 1495, 1520, 1545, 1558, 1583, 1608, 1633], 180, (0, 0, 0))]
theorem LBs_ok : zRk 295 LBs = true := by decide +kernel
def LBe : List zRow := [(1698, .iinc 4 6, 3, (0, 0, 0)), (1701, .goto (-1678), 3, (0, 0, 0))]
theorem LBe_ok : zRk 295 LBe = true := by decide +kernel
def LBr : List zRow := [(1704, .iconst 1, 1, (0, 0, 0))]
theorem LBr_ok : zRk 295 LBr = true := by decide +kernel
set_option maxRecDepth 100000 in
theorem LE {Ls : Nat} {xs : Nat → Int} {run : zRn zH2} {i : Int} {hc : zHC} {hm : zHM} {o : Int → Int} (h : RG hc hm) : zTo Ls xs run 295 (LN i o) (1698, Lh i, [], (hc, hm, o)) := by
  refine zT_b (d := 0) (b := LBe) (gs := []) (c' := (23, Lh (wadd i 6), [], (hc, hm, o))) LBe_ok rfl trivial ?_
  exact zT_0 ⟨hc, hm, h, rfl⟩
set_option maxRecDepth 100000 in
theorem LH_in {Ls : Nat} {xs : Nat → Int} {run : zRn zH2} {i : Int} {g : zH2} {P : zCf zH2 → Prop} (hi : 0 ≤ i ∧ i + 6 ≤ (Ls : Int) ∧ Ls ≤ 6) (k : zTo Ls xs run 295 P (33, Lh i, [], g)) : zTo Ls xs run 295 P (23, Lh i, [], g) := by
  refine zT_b (d := 0) (b := LBh) (gs := [¬ wsub (Ls : Int) 6 < i]) (c' := (33, Lh i, [], g)) LBh_ok rfl ⟨?_, trivial⟩ k
  rw [wsub_eq (by omega) (by omega)]
  omega
set_option maxRecDepth 100000 in
theorem LH_out {Ls : Nat} {xs : Nat → Int} {run : zRn zH2} {i : Int} {g : zH2} (hL : Ls ≤ 6) (hi : (Ls : Int) < i + 6) : zTo Ls xs run 295 (fun c => c = (1705, Lh i, [(0, 1)], g)) (23, Lh i, [], g) := by
  refine zT_b (d := 1) (b := LBh) (gs := [wsub (Ls : Int) 6 < i]) (c' := (1704, Lh i, [], g)) LBh_ok rfl ⟨?_, trivial⟩ ?_
  · rw [wsub_eq (by omega) (by omega)]
    omega
  · refine zT_b (d := 0) (b := LBr) (gs := []) (c' := (1705, Lh i, [(0, 1)], g)) LBr_ok rfl trivial ?_
    exact zT_0 rfl
set_option maxRecDepth 100000 in
theorem LH_def {Ls : Nat} {xs : Nat → Int} {spec : zRn zH2} {i : Int} {hc : zHC} {hm : zHM} {o : Int → Int} (hi : 0 ≤ i ∧ i + 6 ≤ (Ls : Int) ∧ Ls ≤ 6) (h : RG hc hm) (hw : wand (xs i.toNat) 63 < 0 ∨ 40 < wand (xs i.toNat) 63) : zTo Ls xs (zRu2 spec 600) 295 (LN i o) (33, Lh i, [], (hc, hm, o)) := by
  refine zT_b (d := 41) (b := LBs) (gs := [0 ≤ i ∧ i < (Ls : Int), wand (xs i.toNat) 63 < 0 ∨ 40 < wand (xs i.toNat) 63]) (c' := (1698, Lh i, [], (hc, hm, o))) LBs_ok rfl ⟨by omega, hw, trivial⟩ ?_
  exact LE h
end
section
/-! The law's cases, 0 to 12. -/
set_option maxRecDepth 100000 in
theorem LC_0 {Ls : Nat} {xs : Nat → Int} {spec : zRn zH2} {i : Int} {hc : zHC} {hm : zHM} {o : Int → Int} (hi : 0 ≤ i ∧ i + 6 ≤ (Ls : Int) ∧ Ls ≤ 6) (hxs : ∀ j, zR32 (xs j)) (h : RG hc hm) (hw : wand (xs i.toNat) 63 = 0) : zTo Ls xs (zRu2 spec 600) 295 (LN i o) (33, Lh i, [], (hc, hm, o)) := by
  obtain ⟨r, hc', hm', q1, q2, h'⟩ := C_feed (a := xs (wadd i 1).toNat) (b := xs (wadd i 2).toNat) (c := xs (wadd i 3).toNat) (d := xs (wadd i 4).toNat) (e := xs (wadd i 5).toNat) h
  refine zT_b (d := 0) (b := LBs) (gs := [0 ≤ i ∧ i < (Ls : Int), wand (xs i.toNat) 63 = 0]) (c' := (220, Lh i, [], (hc, hm, o))) LBs_ok rfl ⟨by omega, hw, trivial⟩ ?_
  refine zT_b (d := 0) (b := [(220, .aload_n 1, 1, (0, 0, 0)), (221, .aload_n 0, 1, (0, 0, 0)), (222, .iload 4, 2, (0, 0, 0)), (224, .iconst 1, 1, (0, 0, 0)), (225, .iadd, 1, (0, 0, 0)), (226, .iaload, 1, (1, 0, 0)), (227, .aload_n 0, 1, (0, 0, 0)), (228, .iload 4, 2, (0, 0, 0)), (230, .iconst 2, 1, (0, 0, 0)), (231, .iadd, 1, (0, 0, 0)), (232, .iaload, 1, (1, 0, 0)), (233, .aload_n 0, 1, (0, 0, 0)), (234, .iload 4, 2, (0, 0, 0)), (236, .iconst 3, 1, (0, 0, 0)), (237, .iadd, 1, (0, 0, 0)), (238, .iaload, 1, (1, 0, 0)), (239, .aload_n 0, 1, (0, 0, 0)), (240, .iload 4, 2, (0, 0, 0)), (242, .iconst 4, 1, (0, 0, 0)), (243, .iadd, 1, (0, 0, 0)), (244, .iaload, 1, (1, 0, 0)), (245, .aload_n 0, 1, (0, 0, 0)), (246, .iload 4, 2, (0, 0, 0)), (248, .iconst 5, 1, (0, 0, 0)), (249, .iadd, 1, (0, 0, 0)), (250, .iaload, 1, (1, 0, 0))]) (gs := [0 ≤ wadd i 1 ∧ wadd i 1 < (Ls : Int), 0 ≤ wadd i 2 ∧ wadd i 2 < (Ls : Int), 0 ≤ wadd i 3 ∧ wadd i 3 < (Ls : Int), 0 ≤ wadd i 4 ∧ wadd i 4 < (Ls : Int), 0 ≤ wadd i 5 ∧ wadd i 5 < (Ls : Int)]) (c' := (251, Lh i, [(0, xs (wadd i 5).toNat), (0, xs (wadd i 4).toNat), (0, xs (wadd i 3).toNat), (0, xs (wadd i 2).toNat), (0, xs (wadd i 1).toNat), (21, 0)], (hc, hm, o))) (by decide +kernel) rfl ⟨gd hi (by decide) (by decide), gd hi (by decide) (by decide), gd hi (by decide) (by decide), gd hi (by decide) (by decide), gd hi (by decide) (by decide), trivial⟩ ?_
  refine zT_call (k := 14) (cl := 11) (n := 6) (i := .invokevirtual 25) (args := [(21, 0), (0, xs (wadd i 1).toNat), (0, xs (wadd i 2).toNat), (0, xs (wadd i 3).toNat), (0, xs (wadd i 4).toNat), (0, xs (wadd i 5).toNat)]) (rest := []) (g1 := (hc', hm, o)) (r1 := some (0, r)) (by decide +kernel) rfl rfl rfl (st' := [(0, r)]) rfl (S14 (Nat.le_of_ble_eq_true rfl) _ _ _ _ _ hc _ q1) ?_
  refine zT_b (d := 0) (b := [(254, .aload_n 2, 1, (0, 0, 0)), (255, .aload_n 0, 1, (0, 0, 0)), (256, .iload 4, 2, (0, 0, 0)), (258, .iconst 1, 1, (0, 0, 0)), (259, .iadd, 1, (0, 0, 0)), (260, .iaload, 1, (1, 0, 0)), (261, .aload_n 0, 1, (0, 0, 0)), (262, .iload 4, 2, (0, 0, 0)), (264, .iconst 2, 1, (0, 0, 0)), (265, .iadd, 1, (0, 0, 0)), (266, .iaload, 1, (1, 0, 0)), (267, .aload_n 0, 1, (0, 0, 0)), (268, .iload 4, 2, (0, 0, 0)), (270, .iconst 3, 1, (0, 0, 0)), (271, .iadd, 1, (0, 0, 0)), (272, .iaload, 1, (1, 0, 0)), (273, .aload_n 0, 1, (0, 0, 0)), (274, .iload 4, 2, (0, 0, 0)), (276, .iconst 4, 1, (0, 0, 0)), (277, .iadd, 1, (0, 0, 0)), (278, .iaload, 1, (1, 0, 0)), (279, .aload_n 0, 1, (0, 0, 0)), (280, .iload 4, 2, (0, 0, 0)), (282, .iconst 5, 1, (0, 0, 0)), (283, .iadd, 1, (0, 0, 0)), (284, .iaload, 1, (1, 0, 0))]) (gs := [0 ≤ wadd i 1 ∧ wadd i 1 < (Ls : Int), 0 ≤ wadd i 2 ∧ wadd i 2 < (Ls : Int), 0 ≤ wadd i 3 ∧ wadd i 3 < (Ls : Int), 0 ≤ wadd i 4 ∧ wadd i 4 < (Ls : Int), 0 ≤ wadd i 5 ∧ wadd i 5 < (Ls : Int)]) (c' := (285, Lh i, [(0, xs (wadd i 5).toNat), (0, xs (wadd i 4).toNat), (0, xs (wadd i 3).toNat), (0, xs (wadd i 2).toNat), (0, xs (wadd i 1).toNat), (22, 0), (0, r)], (hc', hm, o))) (by decide +kernel) rfl ⟨gd hi (by decide) (by decide), gd hi (by decide) (by decide), gd hi (by decide) (by decide), gd hi (by decide) (by decide), gd hi (by decide) (by decide), trivial⟩ ?_
  refine zT_call (k := 170) (cl := 12) (n := 6) (i := .invokevirtual 29) (args := [(22, 0), (0, xs (wadd i 1).toNat), (0, xs (wadd i 2).toNat), (0, xs (wadd i 3).toNat), (0, xs (wadd i 4).toNat), (0, xs (wadd i 5).toNat)]) (rest := [(0, r)]) (g1 := (hc', hm', o)) (r1 := some (0, r)) (by decide +kernel) rfl rfl rfl (st' := [(0, r), (0, r)]) rfl (S170 (Nat.le_of_ble_eq_true rfl) _ _ _ _ _ hm _ q2) ?_
  refine zT_b (d := 1) (b := [(288, .if_icmp .eq 1410, 3, (0, 0, 0))]) (gs := [r = r]) (c' := (1698, Lh i, [], (hc', hm', o))) (by decide +kernel) rfl ⟨rfl, trivial⟩ ?_
  exact LE h'
set_option maxRecDepth 100000 in
theorem LC_1 {Ls : Nat} {xs : Nat → Int} {spec : zRn zH2} {i : Int} {hc : zHC} {hm : zHM} {o : Int → Int} (hi : 0 ≤ i ∧ i + 6 ≤ (Ls : Int) ∧ Ls ≤ 6) (hxs : ∀ j, zR32 (xs j)) (h : RG hc hm) (hw : wand (xs i.toNat) 63 = 1) : zTo Ls xs (zRu2 spec 600) 295 (LN i o) (33, Lh i, [], (hc, hm, o)) := by
  obtain ⟨r, hc', hm', q1, q2, h'⟩ := C_end (n := xs (wadd i 1).toNat) h
  refine zT_b (d := 1) (b := LBs) (gs := [0 ≤ i ∧ i < (Ls : Int), wand (xs i.toNat) 63 = 1]) (c' := (293, Lh i, [], (hc, hm, o))) LBs_ok rfl ⟨by omega, hw, trivial⟩ ?_
  refine zT_b (d := 0) (b := [(293, .aload_n 1, 1, (0, 0, 0)), (294, .aload_n 0, 1, (0, 0, 0)), (295, .iload 4, 2, (0, 0, 0)), (297, .iconst 1, 1, (0, 0, 0)), (298, .iadd, 1, (0, 0, 0)), (299, .iaload, 1, (1, 0, 0))]) (gs := [0 ≤ wadd i 1 ∧ wadd i 1 < (Ls : Int)]) (c' := (300, Lh i, [(0, xs (wadd i 1).toNat), (21, 0)], (hc, hm, o))) (by decide +kernel) rfl ⟨gd hi (by decide) (by decide), trivial⟩ ?_
  refine zT_call (k := 16) (cl := 11) (n := 2) (i := .invokevirtual 30) (args := [(21, 0), (0, xs (wadd i 1).toNat)]) (rest := []) (g1 := (hc', hm, o)) (r1 := some (0, r)) (by decide +kernel) rfl rfl rfl (st' := [(0, r)]) rfl (S16 (Nat.le_of_ble_eq_true rfl) _ hc _ q1) ?_
  refine zT_b (d := 0) (b := [(303, .aload_n 2, 1, (0, 0, 0)), (304, .aload_n 0, 1, (0, 0, 0)), (305, .iload 4, 2, (0, 0, 0)), (307, .iconst 1, 1, (0, 0, 0)), (308, .iadd, 1, (0, 0, 0)), (309, .iaload, 1, (1, 0, 0))]) (gs := [0 ≤ wadd i 1 ∧ wadd i 1 < (Ls : Int)]) (c' := (310, Lh i, [(0, xs (wadd i 1).toNat), (22, 0), (0, r)], (hc', hm, o))) (by decide +kernel) rfl ⟨gd hi (by decide) (by decide), trivial⟩ ?_
  refine zT_call (k := 172) (cl := 12) (n := 2) (i := .invokevirtual 34) (args := [(22, 0), (0, xs (wadd i 1).toNat)]) (rest := [(0, r)]) (g1 := (hc', hm', o)) (r1 := some (0, r)) (by decide +kernel) rfl rfl rfl (st' := [(0, r), (0, r)]) rfl (S172 (Nat.le_of_ble_eq_true rfl) _ hm _ q2) ?_
  refine zT_b (d := 1) (b := [(313, .if_icmp .eq 1385, 3, (0, 0, 0))]) (gs := [r = r]) (c' := (1698, Lh i, [], (hc', hm', o))) (by decide +kernel) rfl ⟨rfl, trivial⟩ ?_
  exact LE h'
set_option maxRecDepth 100000 in
theorem LC_2 {Ls : Nat} {xs : Nat → Int} {spec : zRn zH2} {i : Int} {hc : zHC} {hm : zHM} {o : Int → Int} (hi : 0 ≤ i ∧ i + 6 ≤ (Ls : Int) ∧ Ls ≤ 6) (hxs : ∀ j, zR32 (xs j)) (h : RG hc hm) (hw : wand (xs i.toNat) 63 = 2) : zTo Ls xs (zRu2 spec 600) 295 (LN i o) (33, Lh i, [], (hc, hm, o)) := by
  obtain ⟨r, hc', hm', q1, q2, h'⟩ := C_valley  h
  refine zT_b (d := 2) (b := LBs) (gs := [0 ≤ i ∧ i < (Ls : Int), wand (xs i.toNat) 63 = 2]) (c' := (318, Lh i, [], (hc, hm, o))) LBs_ok rfl ⟨by omega, hw, trivial⟩ ?_
  refine zT_b (d := 0) (b := [(318, .aload_n 1, 1, (0, 0, 0))]) (gs := []) (c' := (319, Lh i, [(21, 0)], (hc, hm, o))) (by decide +kernel) rfl trivial ?_
  refine zT_call (k := 17) (cl := 11) (n := 1) (i := .invokevirtual 35) (args := [(21, 0)]) (rest := []) (g1 := (hc', hm, o)) (r1 := some (0, r)) (by decide +kernel) rfl rfl rfl (st' := [(0, r)]) rfl (S17 (Nat.le_of_ble_eq_true rfl) hc _ q1) ?_
  refine zT_b (d := 0) (b := [(322, .aload_n 2, 1, (0, 0, 0))]) (gs := []) (c' := (323, Lh i, [(22, 0), (0, r)], (hc', hm, o))) (by decide +kernel) rfl trivial ?_
  refine zT_call (k := 173) (cl := 12) (n := 1) (i := .invokevirtual 39) (args := [(22, 0)]) (rest := [(0, r)]) (g1 := (hc', hm', o)) (r1 := some (0, r)) (by decide +kernel) rfl rfl rfl (st' := [(0, r), (0, r)]) rfl (S173 (Nat.le_of_ble_eq_true rfl) hm _ q2) ?_
  refine zT_b (d := 1) (b := [(326, .if_icmp .eq 1372, 3, (0, 0, 0))]) (gs := [r = r]) (c' := (1698, Lh i, [], (hc', hm', o))) (by decide +kernel) rfl ⟨rfl, trivial⟩ ?_
  exact LE h'
set_option maxRecDepth 100000 in
theorem LC_3 {Ls : Nat} {xs : Nat → Int} {spec : zRn zH2} {i : Int} {hc : zHC} {hm : zHM} {o : Int → Int} (hi : 0 ≤ i ∧ i + 6 ≤ (Ls : Int) ∧ Ls ≤ 6) (hxs : ∀ j, zR32 (xs j)) (h : RG hc hm) (hw : wand (xs i.toNat) 63 = 3) : zTo Ls xs (zRu2 spec 600) 295 (LN i o) (33, Lh i, [], (hc, hm, o)) := by
  obtain ⟨r, hm', q1, q2, h'⟩ := C_fault  h
  refine zT_b (d := 3) (b := LBs) (gs := [0 ≤ i ∧ i < (Ls : Int), wand (xs i.toNat) 63 = 3]) (c' := (331, Lh i, [], (hc, hm, o))) LBs_ok rfl ⟨by omega, hw, trivial⟩ ?_
  refine zT_b (d := 0) (b := [(331, .aload_n 1, 1, (0, 0, 0))]) (gs := []) (c' := (332, Lh i, [(21, 0)], (hc, hm, o))) (by decide +kernel) rfl trivial ?_
  refine zT_call (k := 56) (cl := 11) (n := 1) (i := .invokevirtual 40) (args := [(21, 0)]) (rest := []) (g1 := (hc, hm, o)) (r1 := some (0, r)) (by decide +kernel) rfl rfl rfl (st' := [(0, r)]) rfl (S56 (Nat.le_of_ble_eq_true rfl) hc _ q1) ?_
  refine zT_b (d := 0) (b := [(335, .aload_n 2, 1, (0, 0, 0))]) (gs := []) (c' := (336, Lh i, [(22, 0), (0, r)], (hc, hm, o))) (by decide +kernel) rfl trivial ?_
  refine zT_call (k := 203) (cl := 12) (n := 1) (i := .invokevirtual 43) (args := [(22, 0)]) (rest := [(0, r)]) (g1 := (hc, hm', o)) (r1 := some (0, r)) (by decide +kernel) rfl rfl rfl (st' := [(0, r), (0, r)]) rfl (S203 (Nat.le_of_ble_eq_true rfl) hm _ q2) ?_
  refine zT_b (d := 1) (b := [(339, .if_icmp .eq 1359, 3, (0, 0, 0))]) (gs := [r = r]) (c' := (1698, Lh i, [], (hc, hm', o))) (by decide +kernel) rfl ⟨rfl, trivial⟩ ?_
  exact LE h'
set_option maxRecDepth 100000 in
theorem LC_7 {Ls : Nat} {xs : Nat → Int} {spec : zRn zH2} {i : Int} {hc : zHC} {hm : zHM} {o : Int → Int} (hi : 0 ≤ i ∧ i + 6 ≤ (Ls : Int) ∧ Ls ≤ 6) (hxs : ∀ j, zR32 (xs j)) (h : RG hc hm) (hw : wand (xs i.toNat) 63 = 7) : zTo Ls xs (zRu2 spec 600) 295 (LN i o) (33, Lh i, [], (hc, hm, o)) := by
  obtain ⟨r, hm', q1, q2, h'⟩ := C_comes (s := xs (wadd i 1).toNat) (c := xs (wadd i 2).toNat) (w := xs (wadd i 3).toNat) h
  refine zT_b (d := 7) (b := LBs) (gs := [0 ≤ i ∧ i < (Ls : Int), wand (xs i.toNat) 63 = 7]) (c' := (548, Lh i, [], (hc, hm, o))) LBs_ok rfl ⟨by omega, hw, trivial⟩ ?_
  refine zT_b (d := 0) (b := [(548, .aload_n 1, 1, (0, 0, 0)), (549, .aload_n 0, 1, (0, 0, 0)), (550, .iload 4, 2, (0, 0, 0)), (552, .iconst 1, 1, (0, 0, 0)), (553, .iadd, 1, (0, 0, 0)), (554, .iaload, 1, (1, 0, 0)), (555, .aload_n 0, 1, (0, 0, 0)), (556, .iload 4, 2, (0, 0, 0)), (558, .iconst 2, 1, (0, 0, 0)), (559, .iadd, 1, (0, 0, 0)), (560, .iaload, 1, (1, 0, 0)), (561, .aload_n 0, 1, (0, 0, 0)), (562, .iload 4, 2, (0, 0, 0)), (564, .iconst 3, 1, (0, 0, 0)), (565, .iadd, 1, (0, 0, 0)), (566, .iaload, 1, (1, 0, 0))]) (gs := [0 ≤ wadd i 1 ∧ wadd i 1 < (Ls : Int), 0 ≤ wadd i 2 ∧ wadd i 2 < (Ls : Int), 0 ≤ wadd i 3 ∧ wadd i 3 < (Ls : Int)]) (c' := (567, Lh i, [(0, xs (wadd i 3).toNat), (0, xs (wadd i 2).toNat), (0, xs (wadd i 1).toNat), (21, 0)], (hc, hm, o))) (by decide +kernel) rfl ⟨gd hi (by decide) (by decide), gd hi (by decide) (by decide), gd hi (by decide) (by decide), trivial⟩ ?_
  refine zT_call (k := 57) (cl := 11) (n := 4) (i := .invokevirtual 59) (args := [(21, 0), (0, xs (wadd i 1).toNat), (0, xs (wadd i 2).toNat), (0, xs (wadd i 3).toNat)]) (rest := []) (g1 := (hc, hm, o)) (r1 := some (0, r)) (by decide +kernel) rfl rfl rfl (st' := [(0, r)]) rfl (S57 (Nat.le_of_ble_eq_true rfl) _ _ _ hc _ q1) ?_
  refine zT_b (d := 0) (b := [(570, .aload_n 2, 1, (0, 0, 0)), (571, .aload_n 0, 1, (0, 0, 0)), (572, .iload 4, 2, (0, 0, 0)), (574, .iconst 1, 1, (0, 0, 0)), (575, .iadd, 1, (0, 0, 0)), (576, .iaload, 1, (1, 0, 0)), (577, .aload_n 0, 1, (0, 0, 0)), (578, .iload 4, 2, (0, 0, 0)), (580, .iconst 2, 1, (0, 0, 0)), (581, .iadd, 1, (0, 0, 0)), (582, .iaload, 1, (1, 0, 0)), (583, .aload_n 0, 1, (0, 0, 0)), (584, .iload 4, 2, (0, 0, 0)), (586, .iconst 3, 1, (0, 0, 0)), (587, .iadd, 1, (0, 0, 0)), (588, .iaload, 1, (1, 0, 0))]) (gs := [0 ≤ wadd i 1 ∧ wadd i 1 < (Ls : Int), 0 ≤ wadd i 2 ∧ wadd i 2 < (Ls : Int), 0 ≤ wadd i 3 ∧ wadd i 3 < (Ls : Int)]) (c' := (589, Lh i, [(0, xs (wadd i 3).toNat), (0, xs (wadd i 2).toNat), (0, xs (wadd i 1).toNat), (22, 0), (0, r)], (hc, hm, o))) (by decide +kernel) rfl ⟨gd hi (by decide) (by decide), gd hi (by decide) (by decide), gd hi (by decide) (by decide), trivial⟩ ?_
  refine zT_call (k := 218) (cl := 12) (n := 4) (i := .invokevirtual 63) (args := [(22, 0), (0, xs (wadd i 1).toNat), (0, xs (wadd i 2).toNat), (0, xs (wadd i 3).toNat)]) (rest := [(0, r)]) (g1 := (hc, hm', o)) (r1 := some (0, r)) (by decide +kernel) rfl rfl rfl (st' := [(0, r), (0, r)]) rfl (S218 (Nat.le_of_ble_eq_true rfl) _ _ _ hm _ q2) ?_
  refine zT_b (d := 1) (b := [(592, .if_icmp .eq 1106, 3, (0, 0, 0))]) (gs := [r = r]) (c' := (1698, Lh i, [], (hc, hm', o))) (by decide +kernel) rfl ⟨rfl, trivial⟩ ?_
  exact LE h'
set_option maxRecDepth 100000 in
theorem LC_8 {Ls : Nat} {xs : Nat → Int} {spec : zRn zH2} {i : Int} {hc : zHC} {hm : zHM} {o : Int → Int} (hi : 0 ≤ i ∧ i + 6 ≤ (Ls : Int) ∧ Ls ≤ 6) (hxs : ∀ j, zR32 (xs j)) (h : RG hc hm) (hw : wand (xs i.toNat) 63 = 8) : zTo Ls xs (zRu2 spec 600) 295 (LN i o) (33, Lh i, [], (hc, hm, o)) := by
  obtain ⟨r, hm', q1, q2, h'⟩ := C_share (p := xs (wadd i 1).toNat) (s := xs (wadd i 2).toNat) h
  refine zT_b (d := 8) (b := LBs) (gs := [0 ≤ i ∧ i < (Ls : Int), wand (xs i.toNat) 63 = 8]) (c' := (597, Lh i, [], (hc, hm, o))) LBs_ok rfl ⟨by omega, hw, trivial⟩ ?_
  refine zT_b (d := 0) (b := [(597, .aload_n 1, 1, (0, 0, 0)), (598, .aload_n 0, 1, (0, 0, 0)), (599, .iload 4, 2, (0, 0, 0)), (601, .iconst 1, 1, (0, 0, 0)), (602, .iadd, 1, (0, 0, 0)), (603, .iaload, 1, (1, 0, 0)), (604, .aload_n 0, 1, (0, 0, 0)), (605, .iload 4, 2, (0, 0, 0)), (607, .iconst 2, 1, (0, 0, 0)), (608, .iadd, 1, (0, 0, 0)), (609, .iaload, 1, (1, 0, 0))]) (gs := [0 ≤ wadd i 1 ∧ wadd i 1 < (Ls : Int), 0 ≤ wadd i 2 ∧ wadd i 2 < (Ls : Int)]) (c' := (610, Lh i, [(0, xs (wadd i 2).toNat), (0, xs (wadd i 1).toNat), (21, 0)], (hc, hm, o))) (by decide +kernel) rfl ⟨gd hi (by decide) (by decide), gd hi (by decide) (by decide), trivial⟩ ?_
  refine zT_call (k := 60) (cl := 11) (n := 3) (i := .invokevirtual 64) (args := [(21, 0), (0, xs (wadd i 1).toNat), (0, xs (wadd i 2).toNat)]) (rest := []) (g1 := (hc, hm, o)) (r1 := some (0, r)) (by decide +kernel) rfl rfl rfl (st' := [(0, r)]) rfl (S60 (Nat.le_of_ble_eq_true rfl) _ _ hc _ q1) ?_
  refine zT_b (d := 0) (b := [(613, .aload_n 2, 1, (0, 0, 0)), (614, .aload_n 0, 1, (0, 0, 0)), (615, .iload 4, 2, (0, 0, 0)), (617, .iconst 1, 1, (0, 0, 0)), (618, .iadd, 1, (0, 0, 0)), (619, .iaload, 1, (1, 0, 0)), (620, .aload_n 0, 1, (0, 0, 0)), (621, .iload 4, 2, (0, 0, 0)), (623, .iconst 2, 1, (0, 0, 0)), (624, .iadd, 1, (0, 0, 0)), (625, .iaload, 1, (1, 0, 0))]) (gs := [0 ≤ wadd i 1 ∧ wadd i 1 < (Ls : Int), 0 ≤ wadd i 2 ∧ wadd i 2 < (Ls : Int)]) (c' := (626, Lh i, [(0, xs (wadd i 2).toNat), (0, xs (wadd i 1).toNat), (22, 0), (0, r)], (hc, hm, o))) (by decide +kernel) rfl ⟨gd hi (by decide) (by decide), gd hi (by decide) (by decide), trivial⟩ ?_
  refine zT_call (k := 220) (cl := 12) (n := 3) (i := .invokevirtual 67) (args := [(22, 0), (0, xs (wadd i 1).toNat), (0, xs (wadd i 2).toNat)]) (rest := [(0, r)]) (g1 := (hc, hm', o)) (r1 := some (0, r)) (by decide +kernel) rfl rfl rfl (st' := [(0, r), (0, r)]) rfl (S220 (Nat.le_of_ble_eq_true rfl) _ _ hm _ q2) ?_
  refine zT_b (d := 1) (b := [(629, .if_icmp .eq 1069, 3, (0, 0, 0))]) (gs := [r = r]) (c' := (1698, Lh i, [], (hc, hm', o))) (by decide +kernel) rfl ⟨rfl, trivial⟩ ?_
  exact LE h'
set_option maxRecDepth 100000 in
theorem LC_9 {Ls : Nat} {xs : Nat → Int} {spec : zRn zH2} {i : Int} {hc : zHC} {hm : zHM} {o : Int → Int} (hi : 0 ≤ i ∧ i + 6 ≤ (Ls : Int) ∧ Ls ≤ 6) (hxs : ∀ j, zR32 (xs j)) (h : RG hc hm) (hw : wand (xs i.toNat) 63 = 9) : zTo Ls xs (zRu2 spec 600) 295 (LN i o) (33, Lh i, [], (hc, hm, o)) := by
  obtain ⟨r, hm', q1, q2, h'⟩ := C_sounded (k := xs (wadd i 1).toNat) (w := xs (wadd i 2).toNat) h
  refine zT_b (d := 9) (b := LBs) (gs := [0 ≤ i ∧ i < (Ls : Int), wand (xs i.toNat) 63 = 9]) (c' := (634, Lh i, [], (hc, hm, o))) LBs_ok rfl ⟨by omega, hw, trivial⟩ ?_
  refine zT_b (d := 0) (b := [(634, .aload_n 1, 1, (0, 0, 0)), (635, .aload_n 0, 1, (0, 0, 0)), (636, .iload 4, 2, (0, 0, 0)), (638, .iconst 1, 1, (0, 0, 0)), (639, .iadd, 1, (0, 0, 0)), (640, .iaload, 1, (1, 0, 0)), (641, .aload_n 0, 1, (0, 0, 0)), (642, .iload 4, 2, (0, 0, 0)), (644, .iconst 2, 1, (0, 0, 0)), (645, .iadd, 1, (0, 0, 0)), (646, .iaload, 1, (1, 0, 0))]) (gs := [0 ≤ wadd i 1 ∧ wadd i 1 < (Ls : Int), 0 ≤ wadd i 2 ∧ wadd i 2 < (Ls : Int)]) (c' := (647, Lh i, [(0, xs (wadd i 2).toNat), (0, xs (wadd i 1).toNat), (21, 0)], (hc, hm, o))) (by decide +kernel) rfl ⟨gd hi (by decide) (by decide), gd hi (by decide) (by decide), trivial⟩ ?_
  refine zT_call (k := 66) (cl := 11) (n := 3) (i := .invokevirtual 68) (args := [(21, 0), (0, xs (wadd i 1).toNat), (0, xs (wadd i 2).toNat)]) (rest := []) (g1 := (hc, hm, o)) (r1 := some (0, r)) (by decide +kernel) rfl rfl rfl (st' := [(0, r)]) rfl (S66 (Nat.le_of_ble_eq_true rfl) _ _ hc _ q1) ?_
  refine zT_b (d := 0) (b := [(650, .aload_n 2, 1, (0, 0, 0)), (651, .aload_n 0, 1, (0, 0, 0)), (652, .iload 4, 2, (0, 0, 0)), (654, .iconst 1, 1, (0, 0, 0)), (655, .iadd, 1, (0, 0, 0)), (656, .iaload, 1, (1, 0, 0)), (657, .aload_n 0, 1, (0, 0, 0)), (658, .iload 4, 2, (0, 0, 0)), (660, .iconst 2, 1, (0, 0, 0)), (661, .iadd, 1, (0, 0, 0)), (662, .iaload, 1, (1, 0, 0))]) (gs := [0 ≤ wadd i 1 ∧ wadd i 1 < (Ls : Int), 0 ≤ wadd i 2 ∧ wadd i 2 < (Ls : Int)]) (c' := (663, Lh i, [(0, xs (wadd i 2).toNat), (0, xs (wadd i 1).toNat), (22, 0), (0, r)], (hc, hm, o))) (by decide +kernel) rfl ⟨gd hi (by decide) (by decide), gd hi (by decide) (by decide), trivial⟩ ?_
  refine zT_call (k := 221) (cl := 12) (n := 3) (i := .invokevirtual 71) (args := [(22, 0), (0, xs (wadd i 1).toNat), (0, xs (wadd i 2).toNat)]) (rest := [(0, r)]) (g1 := (hc, hm', o)) (r1 := some (0, r)) (by decide +kernel) rfl rfl rfl (st' := [(0, r), (0, r)]) rfl (S221 (Nat.le_of_ble_eq_true rfl) _ _ hm _ q2) ?_
  refine zT_b (d := 1) (b := [(666, .if_icmp .eq 1032, 3, (0, 0, 0))]) (gs := [r = r]) (c' := (1698, Lh i, [], (hc, hm', o))) (by decide +kernel) rfl ⟨rfl, trivial⟩ ?_
  exact LE h'
set_option maxRecDepth 100000 in
theorem LC_10 {Ls : Nat} {xs : Nat → Int} {spec : zRn zH2} {i : Int} {hc : zHC} {hm : zHM} {o : Int → Int} (hi : 0 ≤ i ∧ i + 6 ≤ (Ls : Int) ∧ Ls ≤ 6) (hxs : ∀ j, zR32 (xs j)) (h : RG hc hm) (hw : wand (xs i.toNat) 63 = 10) : zTo Ls xs (zRu2 spec 600) 295 (LN i o) (33, Lh i, [], (hc, hm, o)) := by
  obtain ⟨r, hc', hm', q1, q2, h'⟩ := C_goes (p := xs (wadd i 1).toNat) (x := xs (wadd i 2).toNat) h (hxs _)
  refine zT_b (d := 10) (b := LBs) (gs := [0 ≤ i ∧ i < (Ls : Int), wand (xs i.toNat) 63 = 10]) (c' := (671, Lh i, [], (hc, hm, o))) LBs_ok rfl ⟨by omega, hw, trivial⟩ ?_
  refine zT_b (d := 0) (b := [(671, .aload_n 1, 1, (0, 0, 0)), (672, .aload_n 0, 1, (0, 0, 0)), (673, .iload 4, 2, (0, 0, 0)), (675, .iconst 1, 1, (0, 0, 0)), (676, .iadd, 1, (0, 0, 0)), (677, .iaload, 1, (1, 0, 0)), (678, .aload_n 0, 1, (0, 0, 0)), (679, .iload 4, 2, (0, 0, 0)), (681, .iconst 2, 1, (0, 0, 0)), (682, .iadd, 1, (0, 0, 0)), (683, .iaload, 1, (1, 0, 0))]) (gs := [0 ≤ wadd i 1 ∧ wadd i 1 < (Ls : Int), 0 ≤ wadd i 2 ∧ wadd i 2 < (Ls : Int)]) (c' := (684, Lh i, [(0, xs (wadd i 2).toNat), (0, xs (wadd i 1).toNat), (21, 0)], (hc, hm, o))) (by decide +kernel) rfl ⟨gd hi (by decide) (by decide), gd hi (by decide) (by decide), trivial⟩ ?_
  refine zT_call (k := 68) (cl := 11) (n := 3) (i := .invokevirtual 72) (args := [(21, 0), (0, xs (wadd i 1).toNat), (0, xs (wadd i 2).toNat)]) (rest := []) (g1 := (hc', hm, o)) (r1 := some (0, r)) (by decide +kernel) rfl rfl rfl (st' := [(0, r)]) rfl (S68 (Nat.le_of_ble_eq_true rfl) _ _ hc _ q1) ?_
  refine zT_b (d := 0) (b := [(687, .aload_n 2, 1, (0, 0, 0)), (688, .aload_n 0, 1, (0, 0, 0)), (689, .iload 4, 2, (0, 0, 0)), (691, .iconst 1, 1, (0, 0, 0)), (692, .iadd, 1, (0, 0, 0)), (693, .iaload, 1, (1, 0, 0)), (694, .aload_n 0, 1, (0, 0, 0)), (695, .iload 4, 2, (0, 0, 0)), (697, .iconst 2, 1, (0, 0, 0)), (698, .iadd, 1, (0, 0, 0)), (699, .iaload, 1, (1, 0, 0))]) (gs := [0 ≤ wadd i 1 ∧ wadd i 1 < (Ls : Int), 0 ≤ wadd i 2 ∧ wadd i 2 < (Ls : Int)]) (c' := (700, Lh i, [(0, xs (wadd i 2).toNat), (0, xs (wadd i 1).toNat), (22, 0), (0, r)], (hc', hm, o))) (by decide +kernel) rfl ⟨gd hi (by decide) (by decide), gd hi (by decide) (by decide), trivial⟩ ?_
  refine zT_call (k := 223) (cl := 12) (n := 3) (i := .invokevirtual 76) (args := [(22, 0), (0, xs (wadd i 1).toNat), (0, xs (wadd i 2).toNat)]) (rest := [(0, r)]) (g1 := (hc', hm', o)) (r1 := some (0, r)) (by decide +kernel) rfl rfl rfl (st' := [(0, r), (0, r)]) rfl (S223 (Nat.le_of_ble_eq_true rfl) _ _ hm _ q2) ?_
  refine zT_b (d := 1) (b := [(703, .if_icmp .eq 995, 3, (0, 0, 0))]) (gs := [r = r]) (c' := (1698, Lh i, [], (hc', hm', o))) (by decide +kernel) rfl ⟨rfl, trivial⟩ ?_
  exact LE h'
set_option maxRecDepth 100000 in
theorem LC_11 {Ls : Nat} {xs : Nat → Int} {spec : zRn zH2} {i : Int} {hc : zHC} {hm : zHM} {o : Int → Int} (hi : 0 ≤ i ∧ i + 6 ≤ (Ls : Int) ∧ Ls ≤ 6) (hxs : ∀ j, zR32 (xs j)) (h : RG hc hm) (hw : wand (xs i.toNat) 63 = 11) : zTo Ls xs (zRu2 spec 600) 295 (LN i o) (33, Lh i, [], (hc, hm, o)) := by
  obtain ⟨r, hc', hm', q1, q2, h'⟩ := C_says (p := xs (wadd i 1).toNat) (w := xs (wadd i 2).toNat) (l := xs (wadd i 3).toNat) h
  refine zT_b (d := 11) (b := LBs) (gs := [0 ≤ i ∧ i < (Ls : Int), wand (xs i.toNat) 63 = 11]) (c' := (708, Lh i, [], (hc, hm, o))) LBs_ok rfl ⟨by omega, hw, trivial⟩ ?_
  refine zT_b (d := 0) (b := [(708, .aload_n 1, 1, (0, 0, 0)), (709, .aload_n 0, 1, (0, 0, 0)), (710, .iload 4, 2, (0, 0, 0)), (712, .iconst 1, 1, (0, 0, 0)), (713, .iadd, 1, (0, 0, 0)), (714, .iaload, 1, (1, 0, 0)), (715, .aload_n 0, 1, (0, 0, 0)), (716, .iload 4, 2, (0, 0, 0)), (718, .iconst 2, 1, (0, 0, 0)), (719, .iadd, 1, (0, 0, 0)), (720, .iaload, 1, (1, 0, 0)), (721, .aload_n 0, 1, (0, 0, 0)), (722, .iload 4, 2, (0, 0, 0)), (724, .iconst 3, 1, (0, 0, 0)), (725, .iadd, 1, (0, 0, 0)), (726, .iaload, 1, (1, 0, 0))]) (gs := [0 ≤ wadd i 1 ∧ wadd i 1 < (Ls : Int), 0 ≤ wadd i 2 ∧ wadd i 2 < (Ls : Int), 0 ≤ wadd i 3 ∧ wadd i 3 < (Ls : Int)]) (c' := (727, Lh i, [(0, xs (wadd i 3).toNat), (0, xs (wadd i 2).toNat), (0, xs (wadd i 1).toNat), (21, 0)], (hc, hm, o))) (by decide +kernel) rfl ⟨gd hi (by decide) (by decide), gd hi (by decide) (by decide), gd hi (by decide) (by decide), trivial⟩ ?_
  refine zT_call (k := 73) (cl := 11) (n := 4) (i := .invokevirtual 77) (args := [(21, 0), (0, xs (wadd i 1).toNat), (0, xs (wadd i 2).toNat), (0, xs (wadd i 3).toNat)]) (rest := []) (g1 := (hc', hm, o)) (r1 := some (0, r)) (by decide +kernel) rfl rfl rfl (st' := [(0, r)]) rfl (S73 (Nat.le_of_ble_eq_true rfl) _ _ _ hc _ q1) ?_
  refine zT_b (d := 0) (b := [(730, .aload_n 2, 1, (0, 0, 0)), (731, .aload_n 0, 1, (0, 0, 0)), (732, .iload 4, 2, (0, 0, 0)), (734, .iconst 1, 1, (0, 0, 0)), (735, .iadd, 1, (0, 0, 0)), (736, .iaload, 1, (1, 0, 0)), (737, .aload_n 0, 1, (0, 0, 0)), (738, .iload 4, 2, (0, 0, 0)), (740, .iconst 2, 1, (0, 0, 0)), (741, .iadd, 1, (0, 0, 0)), (742, .iaload, 1, (1, 0, 0)), (743, .aload_n 0, 1, (0, 0, 0)), (744, .iload 4, 2, (0, 0, 0)), (746, .iconst 3, 1, (0, 0, 0)), (747, .iadd, 1, (0, 0, 0)), (748, .iaload, 1, (1, 0, 0))]) (gs := [0 ≤ wadd i 1 ∧ wadd i 1 < (Ls : Int), 0 ≤ wadd i 2 ∧ wadd i 2 < (Ls : Int), 0 ≤ wadd i 3 ∧ wadd i 3 < (Ls : Int)]) (c' := (749, Lh i, [(0, xs (wadd i 3).toNat), (0, xs (wadd i 2).toNat), (0, xs (wadd i 1).toNat), (22, 0), (0, r)], (hc', hm, o))) (by decide +kernel) rfl ⟨gd hi (by decide) (by decide), gd hi (by decide) (by decide), gd hi (by decide) (by decide), trivial⟩ ?_
  refine zT_call (k := 226) (cl := 12) (n := 4) (i := .invokevirtual 80) (args := [(22, 0), (0, xs (wadd i 1).toNat), (0, xs (wadd i 2).toNat), (0, xs (wadd i 3).toNat)]) (rest := [(0, r)]) (g1 := (hc', hm', o)) (r1 := some (0, r)) (by decide +kernel) rfl rfl rfl (st' := [(0, r), (0, r)]) rfl (S226 (Nat.le_of_ble_eq_true rfl) _ _ _ hm _ q2) ?_
  refine zT_b (d := 1) (b := [(752, .if_icmp .eq 946, 3, (0, 0, 0))]) (gs := [r = r]) (c' := (1698, Lh i, [], (hc', hm', o))) (by decide +kernel) rfl ⟨rfl, trivial⟩ ?_
  exact LE h'
set_option maxRecDepth 100000 in
theorem LC_12 {Ls : Nat} {xs : Nat → Int} {spec : zRn zH2} {i : Int} {hc : zHC} {hm : zHM} {o : Int → Int} (hi : 0 ≤ i ∧ i + 6 ≤ (Ls : Int) ∧ Ls ≤ 6) (hxs : ∀ j, zR32 (xs j)) (h : RG hc hm) (hw : wand (xs i.toNat) 63 = 12) : zTo Ls xs (zRu2 spec 600) 295 (LN i o) (33, Lh i, [], (hc, hm, o)) := by
  obtain ⟨r, hc', hm', q1, q2, h'⟩ := C_on (n := xs (wadd i 1).toNat) h
  refine zT_b (d := 12) (b := LBs) (gs := [0 ≤ i ∧ i < (Ls : Int), wand (xs i.toNat) 63 = 12]) (c' := (757, Lh i, [], (hc, hm, o))) LBs_ok rfl ⟨by omega, hw, trivial⟩ ?_
  refine zT_b (d := 0) (b := [(757, .aload_n 1, 1, (0, 0, 0)), (758, .aload_n 0, 1, (0, 0, 0)), (759, .iload 4, 2, (0, 0, 0)), (761, .iconst 1, 1, (0, 0, 0)), (762, .iadd, 1, (0, 0, 0)), (763, .iaload, 1, (1, 0, 0))]) (gs := [0 ≤ wadd i 1 ∧ wadd i 1 < (Ls : Int)]) (c' := (764, Lh i, [(0, xs (wadd i 1).toNat), (21, 0)], (hc, hm, o))) (by decide +kernel) rfl ⟨gd hi (by decide) (by decide), trivial⟩ ?_
  refine zT_call (k := 87) (cl := 11) (n := 2) (i := .invokevirtual 81) (args := [(21, 0), (0, xs (wadd i 1).toNat)]) (rest := []) (g1 := (hc', hm, o)) (r1 := some (0, r)) (by decide +kernel) rfl rfl rfl (st' := [(0, r)]) rfl (S87 (Nat.le_of_ble_eq_true rfl) _ hc _ q1) ?_
  refine zT_b (d := 0) (b := [(767, .aload_n 2, 1, (0, 0, 0)), (768, .aload_n 0, 1, (0, 0, 0)), (769, .iload 4, 2, (0, 0, 0)), (771, .iconst 1, 1, (0, 0, 0)), (772, .iadd, 1, (0, 0, 0)), (773, .iaload, 1, (1, 0, 0))]) (gs := [0 ≤ wadd i 1 ∧ wadd i 1 < (Ls : Int)]) (c' := (774, Lh i, [(0, xs (wadd i 1).toNat), (22, 0), (0, r)], (hc', hm, o))) (by decide +kernel) rfl ⟨gd hi (by decide) (by decide), trivial⟩ ?_
  refine zT_call (k := 234) (cl := 12) (n := 2) (i := .invokevirtual 85) (args := [(22, 0), (0, xs (wadd i 1).toNat)]) (rest := [(0, r)]) (g1 := (hc', hm', o)) (r1 := some (0, r)) (by decide +kernel) rfl rfl rfl (st' := [(0, r), (0, r)]) rfl (S234 (Nat.le_of_ble_eq_true rfl) _ hm _ q2) ?_
  refine zT_b (d := 1) (b := [(777, .if_icmp .eq 921, 3, (0, 0, 0))]) (gs := [r = r]) (c' := (1698, Lh i, [], (hc', hm', o))) (by decide +kernel) rfl ⟨rfl, trivial⟩ ?_
  exact LE h'
end
section
/-! The law's cases, 13 to 22. -/
set_option maxRecDepth 100000 in
theorem LC_13 {Ls : Nat} {xs : Nat → Int} {spec : zRn zH2} {i : Int} {hc : zHC} {hm : zHM} {o : Int → Int} (hi : 0 ≤ i ∧ i + 6 ≤ (Ls : Int) ∧ Ls ≤ 6) (hxs : ∀ j, zR32 (xs j)) (h : RG hc hm) (hw : wand (xs i.toNat) 63 = 13) : zTo Ls xs (zRu2 spec 600) 295 (LN i o) (33, Lh i, [], (hc, hm, o)) := by
  obtain ⟨r, hc', hm', q1, q2, h'⟩ := C_undo  h
  refine zT_b (d := 13) (b := LBs) (gs := [0 ≤ i ∧ i < (Ls : Int), wand (xs i.toNat) 63 = 13]) (c' := (782, Lh i, [], (hc, hm, o))) LBs_ok rfl ⟨by omega, hw, trivial⟩ ?_
  refine zT_b (d := 0) (b := [(782, .aload_n 1, 1, (0, 0, 0))]) (gs := []) (c' := (783, Lh i, [(21, 0)], (hc, hm, o))) (by decide +kernel) rfl trivial ?_
  refine zT_call (k := 96) (cl := 11) (n := 1) (i := .invokevirtual 86) (args := [(21, 0)]) (rest := []) (g1 := (hc', hm, o)) (r1 := some (0, r)) (by decide +kernel) rfl rfl rfl (st' := [(0, r)]) rfl (S96 (Nat.le_of_ble_eq_true rfl) hc _ q1) ?_
  refine zT_b (d := 0) (b := [(786, .aload_n 2, 1, (0, 0, 0))]) (gs := []) (c' := (787, Lh i, [(22, 0), (0, r)], (hc', hm, o))) (by decide +kernel) rfl trivial ?_
  refine zT_call (k := 222) (cl := 12) (n := 1) (i := .invokevirtual 89) (args := [(22, 0)]) (rest := [(0, r)]) (g1 := (hc', hm', o)) (r1 := some (0, r)) (by decide +kernel) rfl rfl rfl (st' := [(0, r), (0, r)]) rfl (S222 (Nat.le_of_ble_eq_true rfl) hm _ q2) ?_
  refine zT_b (d := 1) (b := [(790, .if_icmp .eq 908, 3, (0, 0, 0))]) (gs := [r = r]) (c' := (1698, Lh i, [], (hc', hm', o))) (by decide +kernel) rfl ⟨rfl, trivial⟩ ?_
  exact LE h'
set_option maxRecDepth 100000 in
theorem LC_14 {Ls : Nat} {xs : Nat → Int} {spec : zRn zH2} {i : Int} {hc : zHC} {hm : zHM} {o : Int → Int} (hi : 0 ≤ i ∧ i + 6 ≤ (Ls : Int) ∧ Ls ≤ 6) (hxs : ∀ j, zR32 (xs j)) (h : RG hc hm) (hw : wand (xs i.toNat) 63 = 14) : zTo Ls xs (zRu2 spec 600) 295 (LN i o) (33, Lh i, [], (hc, hm, o)) := by
  obtain ⟨r, hc', hm', q1, q2, h'⟩ := C_camp (p := xs (wadd i 1).toNat) (n := xs (wadd i 2).toNat) h
  refine zT_b (d := 14) (b := LBs) (gs := [0 ≤ i ∧ i < (Ls : Int), wand (xs i.toNat) 63 = 14]) (c' := (795, Lh i, [], (hc, hm, o))) LBs_ok rfl ⟨by omega, hw, trivial⟩ ?_
  refine zT_b (d := 0) (b := [(795, .aload_n 1, 1, (0, 0, 0)), (796, .aload_n 0, 1, (0, 0, 0)), (797, .iload 4, 2, (0, 0, 0)), (799, .iconst 1, 1, (0, 0, 0)), (800, .iadd, 1, (0, 0, 0)), (801, .iaload, 1, (1, 0, 0)), (802, .aload_n 0, 1, (0, 0, 0)), (803, .iload 4, 2, (0, 0, 0)), (805, .iconst 2, 1, (0, 0, 0)), (806, .iadd, 1, (0, 0, 0)), (807, .iaload, 1, (1, 0, 0))]) (gs := [0 ≤ wadd i 1 ∧ wadd i 1 < (Ls : Int), 0 ≤ wadd i 2 ∧ wadd i 2 < (Ls : Int)]) (c' := (808, Lh i, [(0, xs (wadd i 2).toNat), (0, xs (wadd i 1).toNat), (21, 0)], (hc, hm, o))) (by decide +kernel) rfl ⟨gd hi (by decide) (by decide), gd hi (by decide) (by decide), trivial⟩ ?_
  refine zT_call (k := 98) (cl := 11) (n := 3) (i := .invokevirtual 90) (args := [(21, 0), (0, xs (wadd i 1).toNat), (0, xs (wadd i 2).toNat)]) (rest := []) (g1 := (hc', hm, o)) (r1 := some (0, r)) (by decide +kernel) rfl rfl rfl (st' := [(0, r)]) rfl (S98 (Nat.le_of_ble_eq_true rfl) _ _ hc _ q1) ?_
  refine zT_b (d := 0) (b := [(811, .aload_n 2, 1, (0, 0, 0)), (812, .aload_n 0, 1, (0, 0, 0)), (813, .iload 4, 2, (0, 0, 0)), (815, .iconst 1, 1, (0, 0, 0)), (816, .iadd, 1, (0, 0, 0)), (817, .iaload, 1, (1, 0, 0)), (818, .aload_n 0, 1, (0, 0, 0)), (819, .iload 4, 2, (0, 0, 0)), (821, .iconst 2, 1, (0, 0, 0)), (822, .iadd, 1, (0, 0, 0)), (823, .iaload, 1, (1, 0, 0))]) (gs := [0 ≤ wadd i 1 ∧ wadd i 1 < (Ls : Int), 0 ≤ wadd i 2 ∧ wadd i 2 < (Ls : Int)]) (c' := (824, Lh i, [(0, xs (wadd i 2).toNat), (0, xs (wadd i 1).toNat), (22, 0), (0, r)], (hc', hm, o))) (by decide +kernel) rfl ⟨gd hi (by decide) (by decide), gd hi (by decide) (by decide), trivial⟩ ?_
  refine zT_call (k := 241) (cl := 12) (n := 3) (i := .invokevirtual 93) (args := [(22, 0), (0, xs (wadd i 1).toNat), (0, xs (wadd i 2).toNat)]) (rest := [(0, r)]) (g1 := (hc', hm', o)) (r1 := some (0, r)) (by decide +kernel) rfl rfl rfl (st' := [(0, r), (0, r)]) rfl (S241 (Nat.le_of_ble_eq_true rfl) _ _ hm _ q2) ?_
  refine zT_b (d := 1) (b := [(827, .if_icmp .eq 871, 3, (0, 0, 0))]) (gs := [r = r]) (c' := (1698, Lh i, [], (hc', hm', o))) (by decide +kernel) rfl ⟨rfl, trivial⟩ ?_
  exact LE h'
set_option maxRecDepth 100000 in
theorem LC_15 {Ls : Nat} {xs : Nat → Int} {spec : zRn zH2} {i : Int} {hc : zHC} {hm : zHM} {o : Int → Int} (hi : 0 ≤ i ∧ i + 6 ≤ (Ls : Int) ∧ Ls ≤ 6) (hxs : ∀ j, zR32 (xs j)) (h : RG hc hm) (hw : wand (xs i.toNat) 63 = 15) : zTo Ls xs (zRu2 spec 600) 295 (LN i o) (33, Lh i, [], (hc, hm, o)) := by
  obtain ⟨r, hc', hm', q1, q2, h'⟩ := C_camping (p := xs (wadd i 1).toNat) (x := xs (wadd i 2).toNat) (n := xs (wadd i 3).toNat) h (hxs _)
  refine zT_b (d := 15) (b := LBs) (gs := [0 ≤ i ∧ i < (Ls : Int), wand (xs i.toNat) 63 = 15]) (c' := (832, Lh i, [], (hc, hm, o))) LBs_ok rfl ⟨by omega, hw, trivial⟩ ?_
  refine zT_b (d := 0) (b := [(832, .aload_n 1, 1, (0, 0, 0)), (833, .aload_n 0, 1, (0, 0, 0)), (834, .iload 4, 2, (0, 0, 0)), (836, .iconst 1, 1, (0, 0, 0)), (837, .iadd, 1, (0, 0, 0)), (838, .iaload, 1, (1, 0, 0)), (839, .aload_n 0, 1, (0, 0, 0)), (840, .iload 4, 2, (0, 0, 0)), (842, .iconst 2, 1, (0, 0, 0)), (843, .iadd, 1, (0, 0, 0)), (844, .iaload, 1, (1, 0, 0)), (845, .aload_n 0, 1, (0, 0, 0)), (846, .iload 4, 2, (0, 0, 0)), (848, .iconst 3, 1, (0, 0, 0)), (849, .iadd, 1, (0, 0, 0)), (850, .iaload, 1, (1, 0, 0))]) (gs := [0 ≤ wadd i 1 ∧ wadd i 1 < (Ls : Int), 0 ≤ wadd i 2 ∧ wadd i 2 < (Ls : Int), 0 ≤ wadd i 3 ∧ wadd i 3 < (Ls : Int)]) (c' := (851, Lh i, [(0, xs (wadd i 3).toNat), (0, xs (wadd i 2).toNat), (0, xs (wadd i 1).toNat), (21, 0)], (hc, hm, o))) (by decide +kernel) rfl ⟨gd hi (by decide) (by decide), gd hi (by decide) (by decide), gd hi (by decide) (by decide), trivial⟩ ?_
  refine zT_call (k := 102) (cl := 11) (n := 4) (i := .invokevirtual 94) (args := [(21, 0), (0, xs (wadd i 1).toNat), (0, xs (wadd i 2).toNat), (0, xs (wadd i 3).toNat)]) (rest := []) (g1 := (hc', hm, o)) (r1 := some (0, r)) (by decide +kernel) rfl rfl rfl (st' := [(0, r)]) rfl (S102 (Nat.le_of_ble_eq_true rfl) _ _ _ hc _ q1) ?_
  refine zT_b (d := 0) (b := [(854, .aload_n 2, 1, (0, 0, 0)), (855, .aload_n 0, 1, (0, 0, 0)), (856, .iload 4, 2, (0, 0, 0)), (858, .iconst 1, 1, (0, 0, 0)), (859, .iadd, 1, (0, 0, 0)), (860, .iaload, 1, (1, 0, 0)), (861, .aload_n 0, 1, (0, 0, 0)), (862, .iload 4, 2, (0, 0, 0)), (864, .iconst 2, 1, (0, 0, 0)), (865, .iadd, 1, (0, 0, 0)), (866, .iaload, 1, (1, 0, 0)), (867, .aload_n 0, 1, (0, 0, 0)), (868, .iload 4, 2, (0, 0, 0)), (870, .iconst 3, 1, (0, 0, 0)), (871, .iadd, 1, (0, 0, 0)), (872, .iaload, 1, (1, 0, 0))]) (gs := [0 ≤ wadd i 1 ∧ wadd i 1 < (Ls : Int), 0 ≤ wadd i 2 ∧ wadd i 2 < (Ls : Int), 0 ≤ wadd i 3 ∧ wadd i 3 < (Ls : Int)]) (c' := (873, Lh i, [(0, xs (wadd i 3).toNat), (0, xs (wadd i 2).toNat), (0, xs (wadd i 1).toNat), (22, 0), (0, r)], (hc', hm, o))) (by decide +kernel) rfl ⟨gd hi (by decide) (by decide), gd hi (by decide) (by decide), gd hi (by decide) (by decide), trivial⟩ ?_
  refine zT_call (k := 246) (cl := 12) (n := 4) (i := .invokevirtual 97) (args := [(22, 0), (0, xs (wadd i 1).toNat), (0, xs (wadd i 2).toNat), (0, xs (wadd i 3).toNat)]) (rest := [(0, r)]) (g1 := (hc', hm', o)) (r1 := some (0, r)) (by decide +kernel) rfl rfl rfl (st' := [(0, r), (0, r)]) rfl (S246 (Nat.le_of_ble_eq_true rfl) _ _ _ hm _ q2) ?_
  refine zT_b (d := 1) (b := [(876, .if_icmp .eq 822, 3, (0, 0, 0))]) (gs := [r = r]) (c' := (1698, Lh i, [], (hc', hm', o))) (by decide +kernel) rfl ⟨rfl, trivial⟩ ?_
  exact LE h'
set_option maxRecDepth 100000 in
theorem LC_16 {Ls : Nat} {xs : Nat → Int} {spec : zRn zH2} {i : Int} {hc : zHC} {hm : zHM} {o : Int → Int} (hi : 0 ≤ i ∧ i + 6 ≤ (Ls : Int) ∧ Ls ≤ 6) (hxs : ∀ j, zR32 (xs j)) (h : RG hc hm) (hw : wand (xs i.toNat) 63 = 16) : zTo Ls xs (zRu2 spec 600) 295 (LN i o) (33, Lh i, [], (hc, hm, o)) := by
  obtain ⟨r, hc', hm', q1, q2, h'⟩ := C_has (p := xs (wadd i 1).toNat) (x := xs (wadd i 2).toNat) (n := xs (wadd i 3).toNat) h (hxs _)
  refine zT_b (d := 16) (b := LBs) (gs := [0 ≤ i ∧ i < (Ls : Int), wand (xs i.toNat) 63 = 16]) (c' := (881, Lh i, [], (hc, hm, o))) LBs_ok rfl ⟨by omega, hw, trivial⟩ ?_
  refine zT_b (d := 0) (b := [(881, .aload_n 1, 1, (0, 0, 0)), (882, .aload_n 0, 1, (0, 0, 0)), (883, .iload 4, 2, (0, 0, 0)), (885, .iconst 1, 1, (0, 0, 0)), (886, .iadd, 1, (0, 0, 0)), (887, .iaload, 1, (1, 0, 0)), (888, .aload_n 0, 1, (0, 0, 0)), (889, .iload 4, 2, (0, 0, 0)), (891, .iconst 2, 1, (0, 0, 0)), (892, .iadd, 1, (0, 0, 0)), (893, .iaload, 1, (1, 0, 0)), (894, .aload_n 0, 1, (0, 0, 0)), (895, .iload 4, 2, (0, 0, 0)), (897, .iconst 3, 1, (0, 0, 0)), (898, .iadd, 1, (0, 0, 0)), (899, .iaload, 1, (1, 0, 0))]) (gs := [0 ≤ wadd i 1 ∧ wadd i 1 < (Ls : Int), 0 ≤ wadd i 2 ∧ wadd i 2 < (Ls : Int), 0 ≤ wadd i 3 ∧ wadd i 3 < (Ls : Int)]) (c' := (900, Lh i, [(0, xs (wadd i 3).toNat), (0, xs (wadd i 2).toNat), (0, xs (wadd i 1).toNat), (21, 0)], (hc, hm, o))) (by decide +kernel) rfl ⟨gd hi (by decide) (by decide), gd hi (by decide) (by decide), gd hi (by decide) (by decide), trivial⟩ ?_
  refine zT_call (k := 103) (cl := 11) (n := 4) (i := .invokevirtual 98) (args := [(21, 0), (0, xs (wadd i 1).toNat), (0, xs (wadd i 2).toNat), (0, xs (wadd i 3).toNat)]) (rest := []) (g1 := (hc', hm, o)) (r1 := some (0, r)) (by decide +kernel) rfl rfl rfl (st' := [(0, r)]) rfl (S103 (Nat.le_of_ble_eq_true rfl) _ _ _ hc _ q1) ?_
  refine zT_b (d := 0) (b := [(903, .aload_n 2, 1, (0, 0, 0)), (904, .aload_n 0, 1, (0, 0, 0)), (905, .iload 4, 2, (0, 0, 0)), (907, .iconst 1, 1, (0, 0, 0)), (908, .iadd, 1, (0, 0, 0)), (909, .iaload, 1, (1, 0, 0)), (910, .aload_n 0, 1, (0, 0, 0)), (911, .iload 4, 2, (0, 0, 0)), (913, .iconst 2, 1, (0, 0, 0)), (914, .iadd, 1, (0, 0, 0)), (915, .iaload, 1, (1, 0, 0)), (916, .aload_n 0, 1, (0, 0, 0)), (917, .iload 4, 2, (0, 0, 0)), (919, .iconst 3, 1, (0, 0, 0)), (920, .iadd, 1, (0, 0, 0)), (921, .iaload, 1, (1, 0, 0))]) (gs := [0 ≤ wadd i 1 ∧ wadd i 1 < (Ls : Int), 0 ≤ wadd i 2 ∧ wadd i 2 < (Ls : Int), 0 ≤ wadd i 3 ∧ wadd i 3 < (Ls : Int)]) (c' := (922, Lh i, [(0, xs (wadd i 3).toNat), (0, xs (wadd i 2).toNat), (0, xs (wadd i 1).toNat), (22, 0), (0, r)], (hc', hm, o))) (by decide +kernel) rfl ⟨gd hi (by decide) (by decide), gd hi (by decide) (by decide), gd hi (by decide) (by decide), trivial⟩ ?_
  refine zT_call (k := 247) (cl := 12) (n := 4) (i := .invokevirtual 101) (args := [(22, 0), (0, xs (wadd i 1).toNat), (0, xs (wadd i 2).toNat), (0, xs (wadd i 3).toNat)]) (rest := [(0, r)]) (g1 := (hc', hm', o)) (r1 := some (0, r)) (by decide +kernel) rfl rfl rfl (st' := [(0, r), (0, r)]) rfl (S247 (Nat.le_of_ble_eq_true rfl) _ _ _ hm _ q2) ?_
  refine zT_b (d := 1) (b := [(925, .if_icmp .eq 773, 3, (0, 0, 0))]) (gs := [r = r]) (c' := (1698, Lh i, [], (hc', hm', o))) (by decide +kernel) rfl ⟨rfl, trivial⟩ ?_
  exact LE h'
set_option maxRecDepth 100000 in
theorem LC_17 {Ls : Nat} {xs : Nat → Int} {spec : zRn zH2} {i : Int} {hc : zHC} {hm : zHM} {o : Int → Int} (hi : 0 ≤ i ∧ i + 6 ≤ (Ls : Int) ∧ Ls ≤ 6) (hxs : ∀ j, zR32 (xs j)) (h : RG hc hm) (hw : wand (xs i.toNat) 63 = 17) : zTo Ls xs (zRu2 spec 600) 295 (LN i o) (33, Lh i, [], (hc, hm, o)) := by
  obtain ⟨r, hc', hm', q1, q2, h'⟩ := C_rests (n := xs (wadd i 1).toNat) (k := xs (wadd i 2).toNat) h
  refine zT_b (d := 17) (b := LBs) (gs := [0 ≤ i ∧ i < (Ls : Int), wand (xs i.toNat) 63 = 17]) (c' := (930, Lh i, [], (hc, hm, o))) LBs_ok rfl ⟨by omega, hw, trivial⟩ ?_
  refine zT_b (d := 0) (b := [(930, .aload_n 1, 1, (0, 0, 0)), (931, .aload_n 0, 1, (0, 0, 0)), (932, .iload 4, 2, (0, 0, 0)), (934, .iconst 1, 1, (0, 0, 0)), (935, .iadd, 1, (0, 0, 0)), (936, .iaload, 1, (1, 0, 0)), (937, .aload_n 0, 1, (0, 0, 0)), (938, .iload 4, 2, (0, 0, 0)), (940, .iconst 2, 1, (0, 0, 0)), (941, .iadd, 1, (0, 0, 0)), (942, .iaload, 1, (1, 0, 0))]) (gs := [0 ≤ wadd i 1 ∧ wadd i 1 < (Ls : Int), 0 ≤ wadd i 2 ∧ wadd i 2 < (Ls : Int)]) (c' := (943, Lh i, [(0, xs (wadd i 2).toNat), (0, xs (wadd i 1).toNat), (21, 0)], (hc, hm, o))) (by decide +kernel) rfl ⟨gd hi (by decide) (by decide), gd hi (by decide) (by decide), trivial⟩ ?_
  refine zT_call (k := 107) (cl := 11) (n := 3) (i := .invokevirtual 102) (args := [(21, 0), (0, xs (wadd i 1).toNat), (0, xs (wadd i 2).toNat)]) (rest := []) (g1 := (hc', hm, o)) (r1 := some (0, r)) (by decide +kernel) rfl rfl rfl (st' := [(0, r)]) rfl (S107 (Nat.le_of_ble_eq_true rfl) _ _ hc _ q1) ?_
  refine zT_b (d := 0) (b := [(946, .aload_n 2, 1, (0, 0, 0)), (947, .aload_n 0, 1, (0, 0, 0)), (948, .iload 4, 2, (0, 0, 0)), (950, .iconst 1, 1, (0, 0, 0)), (951, .iadd, 1, (0, 0, 0)), (952, .iaload, 1, (1, 0, 0)), (953, .aload_n 0, 1, (0, 0, 0)), (954, .iload 4, 2, (0, 0, 0)), (956, .iconst 2, 1, (0, 0, 0)), (957, .iadd, 1, (0, 0, 0)), (958, .iaload, 1, (1, 0, 0))]) (gs := [0 ≤ wadd i 1 ∧ wadd i 1 < (Ls : Int), 0 ≤ wadd i 2 ∧ wadd i 2 < (Ls : Int)]) (c' := (959, Lh i, [(0, xs (wadd i 2).toNat), (0, xs (wadd i 1).toNat), (22, 0), (0, r)], (hc', hm, o))) (by decide +kernel) rfl ⟨gd hi (by decide) (by decide), gd hi (by decide) (by decide), trivial⟩ ?_
  refine zT_call (k := 250) (cl := 12) (n := 3) (i := .invokevirtual 105) (args := [(22, 0), (0, xs (wadd i 1).toNat), (0, xs (wadd i 2).toNat)]) (rest := [(0, r)]) (g1 := (hc', hm', o)) (r1 := some (0, r)) (by decide +kernel) rfl rfl rfl (st' := [(0, r), (0, r)]) rfl (S250 (Nat.le_of_ble_eq_true rfl) _ _ hm _ q2) ?_
  refine zT_b (d := 1) (b := [(962, .if_icmp .eq 736, 3, (0, 0, 0))]) (gs := [r = r]) (c' := (1698, Lh i, [], (hc', hm', o))) (by decide +kernel) rfl ⟨rfl, trivial⟩ ?_
  exact LE h'
set_option maxRecDepth 100000 in
theorem LC_18 {Ls : Nat} {xs : Nat → Int} {spec : zRn zH2} {i : Int} {hc : zHC} {hm : zHM} {o : Int → Int} (hi : 0 ≤ i ∧ i + 6 ≤ (Ls : Int) ∧ Ls ≤ 6) (hxs : ∀ j, zR32 (xs j)) (h : RG hc hm) (hw : wand (xs i.toNat) 63 = 18) : zTo Ls xs (zRu2 spec 600) 295 (LN i o) (33, Lh i, [], (hc, hm, o)) := by
  obtain ⟨r, hc', hm', q1, q2, h'⟩ := C_tells (p := xs (wadd i 1).toNat) (q := xs (wadd i 2).toNat) (l := xs (wadd i 3).toNat) (n := xs (wadd i 4).toNat) (k := xs (wadd i 5).toNat) h
  refine zT_b (d := 18) (b := LBs) (gs := [0 ≤ i ∧ i < (Ls : Int), wand (xs i.toNat) 63 = 18]) (c' := (967, Lh i, [], (hc, hm, o))) LBs_ok rfl ⟨by omega, hw, trivial⟩ ?_
  refine zT_b (d := 0) (b := [(967, .aload_n 1, 1, (0, 0, 0)), (968, .aload_n 0, 1, (0, 0, 0)), (969, .iload 4, 2, (0, 0, 0)), (971, .iconst 1, 1, (0, 0, 0)), (972, .iadd, 1, (0, 0, 0)), (973, .iaload, 1, (1, 0, 0)), (974, .aload_n 0, 1, (0, 0, 0)), (975, .iload 4, 2, (0, 0, 0)), (977, .iconst 2, 1, (0, 0, 0)), (978, .iadd, 1, (0, 0, 0)), (979, .iaload, 1, (1, 0, 0)), (980, .aload_n 0, 1, (0, 0, 0)), (981, .iload 4, 2, (0, 0, 0)), (983, .iconst 3, 1, (0, 0, 0)), (984, .iadd, 1, (0, 0, 0)), (985, .iaload, 1, (1, 0, 0)), (986, .aload_n 0, 1, (0, 0, 0)), (987, .iload 4, 2, (0, 0, 0)), (989, .iconst 4, 1, (0, 0, 0)), (990, .iadd, 1, (0, 0, 0)), (991, .iaload, 1, (1, 0, 0)), (992, .aload_n 0, 1, (0, 0, 0)), (993, .iload 4, 2, (0, 0, 0)), (995, .iconst 5, 1, (0, 0, 0)), (996, .iadd, 1, (0, 0, 0)), (997, .iaload, 1, (1, 0, 0))]) (gs := [0 ≤ wadd i 1 ∧ wadd i 1 < (Ls : Int), 0 ≤ wadd i 2 ∧ wadd i 2 < (Ls : Int), 0 ≤ wadd i 3 ∧ wadd i 3 < (Ls : Int), 0 ≤ wadd i 4 ∧ wadd i 4 < (Ls : Int), 0 ≤ wadd i 5 ∧ wadd i 5 < (Ls : Int)]) (c' := (998, Lh i, [(0, xs (wadd i 5).toNat), (0, xs (wadd i 4).toNat), (0, xs (wadd i 3).toNat), (0, xs (wadd i 2).toNat), (0, xs (wadd i 1).toNat), (21, 0)], (hc, hm, o))) (by decide +kernel) rfl ⟨gd hi (by decide) (by decide), gd hi (by decide) (by decide), gd hi (by decide) (by decide), gd hi (by decide) (by decide), gd hi (by decide) (by decide), trivial⟩ ?_
  refine zT_call (k := 110) (cl := 11) (n := 6) (i := .invokevirtual 106) (args := [(21, 0), (0, xs (wadd i 1).toNat), (0, xs (wadd i 2).toNat), (0, xs (wadd i 3).toNat), (0, xs (wadd i 4).toNat), (0, xs (wadd i 5).toNat)]) (rest := []) (g1 := (hc', hm, o)) (r1 := some (0, r)) (by decide +kernel) rfl rfl rfl (st' := [(0, r)]) rfl (S110 (Nat.le_of_ble_eq_true rfl) _ _ _ _ _ hc _ q1) ?_
  refine zT_b (d := 0) (b := [(1001, .aload_n 2, 1, (0, 0, 0)), (1002, .aload_n 0, 1, (0, 0, 0)), (1003, .iload 4, 2, (0, 0, 0)), (1005, .iconst 1, 1, (0, 0, 0)), (1006, .iadd, 1, (0, 0, 0)), (1007, .iaload, 1, (1, 0, 0)), (1008, .aload_n 0, 1, (0, 0, 0)), (1009, .iload 4, 2, (0, 0, 0)), (1011, .iconst 2, 1, (0, 0, 0)), (1012, .iadd, 1, (0, 0, 0)), (1013, .iaload, 1, (1, 0, 0)), (1014, .aload_n 0, 1, (0, 0, 0)), (1015, .iload 4, 2, (0, 0, 0)), (1017, .iconst 3, 1, (0, 0, 0)), (1018, .iadd, 1, (0, 0, 0)), (1019, .iaload, 1, (1, 0, 0)), (1020, .aload_n 0, 1, (0, 0, 0)), (1021, .iload 4, 2, (0, 0, 0)), (1023, .iconst 4, 1, (0, 0, 0)), (1024, .iadd, 1, (0, 0, 0)), (1025, .iaload, 1, (1, 0, 0)), (1026, .aload_n 0, 1, (0, 0, 0)), (1027, .iload 4, 2, (0, 0, 0)), (1029, .iconst 5, 1, (0, 0, 0)), (1030, .iadd, 1, (0, 0, 0)), (1031, .iaload, 1, (1, 0, 0))]) (gs := [0 ≤ wadd i 1 ∧ wadd i 1 < (Ls : Int), 0 ≤ wadd i 2 ∧ wadd i 2 < (Ls : Int), 0 ≤ wadd i 3 ∧ wadd i 3 < (Ls : Int), 0 ≤ wadd i 4 ∧ wadd i 4 < (Ls : Int), 0 ≤ wadd i 5 ∧ wadd i 5 < (Ls : Int)]) (c' := (1032, Lh i, [(0, xs (wadd i 5).toNat), (0, xs (wadd i 4).toNat), (0, xs (wadd i 3).toNat), (0, xs (wadd i 2).toNat), (0, xs (wadd i 1).toNat), (22, 0), (0, r)], (hc', hm, o))) (by decide +kernel) rfl ⟨gd hi (by decide) (by decide), gd hi (by decide) (by decide), gd hi (by decide) (by decide), gd hi (by decide) (by decide), gd hi (by decide) (by decide), trivial⟩ ?_
  refine zT_call (k := 252) (cl := 12) (n := 6) (i := .invokevirtual 109) (args := [(22, 0), (0, xs (wadd i 1).toNat), (0, xs (wadd i 2).toNat), (0, xs (wadd i 3).toNat), (0, xs (wadd i 4).toNat), (0, xs (wadd i 5).toNat)]) (rest := [(0, r)]) (g1 := (hc', hm', o)) (r1 := some (0, r)) (by decide +kernel) rfl rfl rfl (st' := [(0, r), (0, r)]) rfl (S252 (Nat.le_of_ble_eq_true rfl) _ _ _ _ _ hm _ q2) ?_
  refine zT_b (d := 1) (b := [(1035, .if_icmp .eq 663, 3, (0, 0, 0))]) (gs := [r = r]) (c' := (1698, Lh i, [], (hc', hm', o))) (by decide +kernel) rfl ⟨rfl, trivial⟩ ?_
  exact LE h'
set_option maxRecDepth 100000 in
theorem LC_19 {Ls : Nat} {xs : Nat → Int} {spec : zRn zH2} {i : Int} {hc : zHC} {hm : zHM} {o : Int → Int} (hi : 0 ≤ i ∧ i + 6 ≤ (Ls : Int) ∧ Ls ≤ 6) (hxs : ∀ j, zR32 (xs j)) (h : RG hc hm) (hw : wand (xs i.toNat) 63 = 19) : zTo Ls xs (zRu2 spec 600) 295 (LN i o) (33, Lh i, [], (hc, hm, o)) := by
  obtain ⟨r, hc', hm', q1, q2, h'⟩ := C_secret (p := xs (wadd i 1).toNat) (n := xs (wadd i 2).toNat) h
  refine zT_b (d := 19) (b := LBs) (gs := [0 ≤ i ∧ i < (Ls : Int), wand (xs i.toNat) 63 = 19]) (c' := (1040, Lh i, [], (hc, hm, o))) LBs_ok rfl ⟨by omega, hw, trivial⟩ ?_
  refine zT_b (d := 0) (b := [(1040, .aload_n 1, 1, (0, 0, 0)), (1041, .aload_n 0, 1, (0, 0, 0)), (1042, .iload 4, 2, (0, 0, 0)), (1044, .iconst 1, 1, (0, 0, 0)), (1045, .iadd, 1, (0, 0, 0)), (1046, .iaload, 1, (1, 0, 0)), (1047, .aload_n 0, 1, (0, 0, 0)), (1048, .iload 4, 2, (0, 0, 0)), (1050, .iconst 2, 1, (0, 0, 0)), (1051, .iadd, 1, (0, 0, 0)), (1052, .iaload, 1, (1, 0, 0))]) (gs := [0 ≤ wadd i 1 ∧ wadd i 1 < (Ls : Int), 0 ≤ wadd i 2 ∧ wadd i 2 < (Ls : Int)]) (c' := (1053, Lh i, [(0, xs (wadd i 2).toNat), (0, xs (wadd i 1).toNat), (21, 0)], (hc, hm, o))) (by decide +kernel) rfl ⟨gd hi (by decide) (by decide), gd hi (by decide) (by decide), trivial⟩ ?_
  refine zT_call (k := 112) (cl := 11) (n := 3) (i := .invokevirtual 110) (args := [(21, 0), (0, xs (wadd i 1).toNat), (0, xs (wadd i 2).toNat)]) (rest := []) (g1 := (hc', hm, o)) (r1 := some (0, r)) (by decide +kernel) rfl rfl rfl (st' := [(0, r)]) rfl (S112 (Nat.le_of_ble_eq_true rfl) _ _ hc _ q1) ?_
  refine zT_b (d := 0) (b := [(1056, .aload_n 2, 1, (0, 0, 0)), (1057, .aload_n 0, 1, (0, 0, 0)), (1058, .iload 4, 2, (0, 0, 0)), (1060, .iconst 1, 1, (0, 0, 0)), (1061, .iadd, 1, (0, 0, 0)), (1062, .iaload, 1, (1, 0, 0)), (1063, .aload_n 0, 1, (0, 0, 0)), (1064, .iload 4, 2, (0, 0, 0)), (1066, .iconst 2, 1, (0, 0, 0)), (1067, .iadd, 1, (0, 0, 0)), (1068, .iaload, 1, (1, 0, 0))]) (gs := [0 ≤ wadd i 1 ∧ wadd i 1 < (Ls : Int), 0 ≤ wadd i 2 ∧ wadd i 2 < (Ls : Int)]) (c' := (1069, Lh i, [(0, xs (wadd i 2).toNat), (0, xs (wadd i 1).toNat), (22, 0), (0, r)], (hc', hm, o))) (by decide +kernel) rfl ⟨gd hi (by decide) (by decide), gd hi (by decide) (by decide), trivial⟩ ?_
  refine zT_call (k := 253) (cl := 12) (n := 3) (i := .invokevirtual 113) (args := [(22, 0), (0, xs (wadd i 1).toNat), (0, xs (wadd i 2).toNat)]) (rest := [(0, r)]) (g1 := (hc', hm', o)) (r1 := some (0, r)) (by decide +kernel) rfl rfl rfl (st' := [(0, r), (0, r)]) rfl (S253 (Nat.le_of_ble_eq_true rfl) _ _ hm _ q2) ?_
  refine zT_b (d := 1) (b := [(1072, .if_icmp .eq 626, 3, (0, 0, 0))]) (gs := [r = r]) (c' := (1698, Lh i, [], (hc', hm', o))) (by decide +kernel) rfl ⟨rfl, trivial⟩ ?_
  exact LE h'
set_option maxRecDepth 100000 in
theorem LC_20 {Ls : Nat} {xs : Nat → Int} {spec : zRn zH2} {i : Int} {hc : zHC} {hm : zHM} {o : Int → Int} (hi : 0 ≤ i ∧ i + 6 ≤ (Ls : Int) ∧ Ls ≤ 6) (hxs : ∀ j, zR32 (xs j)) (h : RG hc hm) (hw : wand (xs i.toNat) 63 = 20) : zTo Ls xs (zRu2 spec 600) 295 (LN i o) (33, Lh i, [], (hc, hm, o)) := by
  obtain ⟨r, hc', hm', q1, q2, h'⟩ := C_next (n := xs (wadd i 1).toNat) h
  refine zT_b (d := 20) (b := LBs) (gs := [0 ≤ i ∧ i < (Ls : Int), wand (xs i.toNat) 63 = 20]) (c' := (1077, Lh i, [], (hc, hm, o))) LBs_ok rfl ⟨by omega, hw, trivial⟩ ?_
  refine zT_b (d := 0) (b := [(1077, .aload_n 1, 1, (0, 0, 0)), (1078, .aload_n 0, 1, (0, 0, 0)), (1079, .iload 4, 2, (0, 0, 0)), (1081, .iconst 1, 1, (0, 0, 0)), (1082, .iadd, 1, (0, 0, 0)), (1083, .iaload, 1, (1, 0, 0))]) (gs := [0 ≤ wadd i 1 ∧ wadd i 1 < (Ls : Int)]) (c' := (1084, Lh i, [(0, xs (wadd i 1).toNat), (21, 0)], (hc, hm, o))) (by decide +kernel) rfl ⟨gd hi (by decide) (by decide), trivial⟩ ?_
  refine zT_call (k := 113) (cl := 11) (n := 2) (i := .invokevirtual 114) (args := [(21, 0), (0, xs (wadd i 1).toNat)]) (rest := []) (g1 := (hc', hm, o)) (r1 := some (0, r)) (by decide +kernel) rfl rfl rfl (st' := [(0, r)]) rfl (S113 (Nat.le_of_ble_eq_true rfl) _ hc _ q1) ?_
  refine zT_b (d := 0) (b := [(1087, .aload_n 2, 1, (0, 0, 0)), (1088, .aload_n 0, 1, (0, 0, 0)), (1089, .iload 4, 2, (0, 0, 0)), (1091, .iconst 1, 1, (0, 0, 0)), (1092, .iadd, 1, (0, 0, 0)), (1093, .iaload, 1, (1, 0, 0))]) (gs := [0 ≤ wadd i 1 ∧ wadd i 1 < (Ls : Int)]) (c' := (1094, Lh i, [(0, xs (wadd i 1).toNat), (22, 0), (0, r)], (hc', hm, o))) (by decide +kernel) rfl ⟨gd hi (by decide) (by decide), trivial⟩ ?_
  refine zT_call (k := 254) (cl := 12) (n := 2) (i := .invokevirtual 117) (args := [(22, 0), (0, xs (wadd i 1).toNat)]) (rest := [(0, r)]) (g1 := (hc', hm', o)) (r1 := some (0, r)) (by decide +kernel) rfl rfl rfl (st' := [(0, r), (0, r)]) rfl (S254 (Nat.le_of_ble_eq_true rfl) _ hm _ q2) ?_
  refine zT_b (d := 1) (b := [(1097, .if_icmp .eq 601, 3, (0, 0, 0))]) (gs := [r = r]) (c' := (1698, Lh i, [], (hc', hm', o))) (by decide +kernel) rfl ⟨rfl, trivial⟩ ?_
  exact LE h'
set_option maxRecDepth 100000 in
theorem LC_21 {Ls : Nat} {xs : Nat → Int} {spec : zRn zH2} {i : Int} {hc : zHC} {hm : zHM} {o : Int → Int} (hi : 0 ≤ i ∧ i + 6 ≤ (Ls : Int) ∧ Ls ≤ 6) (hxs : ∀ j, zR32 (xs j)) (h : RG hc hm) (hw : wand (xs i.toNat) 63 = 21) : zTo Ls xs (zRu2 spec 600) 295 (LN i o) (33, Lh i, [], (hc, hm, o)) := by
  obtain ⟨r, hc', hm', q1, q2, h'⟩ := C_heirs (s := xs (wadd i 1).toNat) (n := xs (wadd i 2).toNat) h
  refine zT_b (d := 21) (b := LBs) (gs := [0 ≤ i ∧ i < (Ls : Int), wand (xs i.toNat) 63 = 21]) (c' := (1102, Lh i, [], (hc, hm, o))) LBs_ok rfl ⟨by omega, hw, trivial⟩ ?_
  refine zT_b (d := 0) (b := [(1102, .aload_n 1, 1, (0, 0, 0)), (1103, .aload_n 0, 1, (0, 0, 0)), (1104, .iload 4, 2, (0, 0, 0)), (1106, .iconst 1, 1, (0, 0, 0)), (1107, .iadd, 1, (0, 0, 0)), (1108, .iaload, 1, (1, 0, 0)), (1109, .aload_n 0, 1, (0, 0, 0)), (1110, .iload 4, 2, (0, 0, 0)), (1112, .iconst 2, 1, (0, 0, 0)), (1113, .iadd, 1, (0, 0, 0)), (1114, .iaload, 1, (1, 0, 0))]) (gs := [0 ≤ wadd i 1 ∧ wadd i 1 < (Ls : Int), 0 ≤ wadd i 2 ∧ wadd i 2 < (Ls : Int)]) (c' := (1115, Lh i, [(0, xs (wadd i 2).toNat), (0, xs (wadd i 1).toNat), (21, 0)], (hc, hm, o))) (by decide +kernel) rfl ⟨gd hi (by decide) (by decide), gd hi (by decide) (by decide), trivial⟩ ?_
  refine zT_call (k := 114) (cl := 11) (n := 3) (i := .invokevirtual 118) (args := [(21, 0), (0, xs (wadd i 1).toNat), (0, xs (wadd i 2).toNat)]) (rest := []) (g1 := (hc', hm, o)) (r1 := some (0, r)) (by decide +kernel) rfl rfl rfl (st' := [(0, r)]) rfl (S114 (Nat.le_of_ble_eq_true rfl) _ _ hc _ q1) ?_
  refine zT_b (d := 0) (b := [(1118, .aload_n 2, 1, (0, 0, 0)), (1119, .aload_n 0, 1, (0, 0, 0)), (1120, .iload 4, 2, (0, 0, 0)), (1122, .iconst 1, 1, (0, 0, 0)), (1123, .iadd, 1, (0, 0, 0)), (1124, .iaload, 1, (1, 0, 0)), (1125, .aload_n 0, 1, (0, 0, 0)), (1126, .iload 4, 2, (0, 0, 0)), (1128, .iconst 2, 1, (0, 0, 0)), (1129, .iadd, 1, (0, 0, 0)), (1130, .iaload, 1, (1, 0, 0))]) (gs := [0 ≤ wadd i 1 ∧ wadd i 1 < (Ls : Int), 0 ≤ wadd i 2 ∧ wadd i 2 < (Ls : Int)]) (c' := (1131, Lh i, [(0, xs (wadd i 2).toNat), (0, xs (wadd i 1).toNat), (22, 0), (0, r)], (hc', hm, o))) (by decide +kernel) rfl ⟨gd hi (by decide) (by decide), gd hi (by decide) (by decide), trivial⟩ ?_
  refine zT_call (k := 255) (cl := 12) (n := 3) (i := .invokevirtual 121) (args := [(22, 0), (0, xs (wadd i 1).toNat), (0, xs (wadd i 2).toNat)]) (rest := [(0, r)]) (g1 := (hc', hm', o)) (r1 := some (0, r)) (by decide +kernel) rfl rfl rfl (st' := [(0, r), (0, r)]) rfl (S255 (Nat.le_of_ble_eq_true rfl) _ _ hm _ q2) ?_
  refine zT_b (d := 1) (b := [(1134, .if_icmp .eq 564, 3, (0, 0, 0))]) (gs := [r = r]) (c' := (1698, Lh i, [], (hc', hm', o))) (by decide +kernel) rfl ⟨rfl, trivial⟩ ?_
  exact LE h'
set_option maxRecDepth 100000 in
theorem LC_22 {Ls : Nat} {xs : Nat → Int} {spec : zRn zH2} {i : Int} {hc : zHC} {hm : zHM} {o : Int → Int} (hi : 0 ≤ i ∧ i + 6 ≤ (Ls : Int) ∧ Ls ≤ 6) (hxs : ∀ j, zR32 (xs j)) (h : RG hc hm) (hw : wand (xs i.toNat) 63 = 22) : zTo Ls xs (zRu2 spec 600) 295 (LN i o) (33, Lh i, [], (hc, hm, o)) := by
  obtain ⟨r, hc', hm', q1, q2, h'⟩ := C_when (p := xs (wadd i 1).toNat) (s := xs (wadd i 2).toNat) (n := xs (wadd i 3).toNat) h
  refine zT_b (d := 22) (b := LBs) (gs := [0 ≤ i ∧ i < (Ls : Int), wand (xs i.toNat) 63 = 22]) (c' := (1139, Lh i, [], (hc, hm, o))) LBs_ok rfl ⟨by omega, hw, trivial⟩ ?_
  refine zT_b (d := 0) (b := [(1139, .aload_n 1, 1, (0, 0, 0)), (1140, .aload_n 0, 1, (0, 0, 0)), (1141, .iload 4, 2, (0, 0, 0)), (1143, .iconst 1, 1, (0, 0, 0)), (1144, .iadd, 1, (0, 0, 0)), (1145, .iaload, 1, (1, 0, 0)), (1146, .aload_n 0, 1, (0, 0, 0)), (1147, .iload 4, 2, (0, 0, 0)), (1149, .iconst 2, 1, (0, 0, 0)), (1150, .iadd, 1, (0, 0, 0)), (1151, .iaload, 1, (1, 0, 0)), (1152, .aload_n 0, 1, (0, 0, 0)), (1153, .iload 4, 2, (0, 0, 0)), (1155, .iconst 3, 1, (0, 0, 0)), (1156, .iadd, 1, (0, 0, 0)), (1157, .iaload, 1, (1, 0, 0))]) (gs := [0 ≤ wadd i 1 ∧ wadd i 1 < (Ls : Int), 0 ≤ wadd i 2 ∧ wadd i 2 < (Ls : Int), 0 ≤ wadd i 3 ∧ wadd i 3 < (Ls : Int)]) (c' := (1158, Lh i, [(0, xs (wadd i 3).toNat), (0, xs (wadd i 2).toNat), (0, xs (wadd i 1).toNat), (21, 0)], (hc, hm, o))) (by decide +kernel) rfl ⟨gd hi (by decide) (by decide), gd hi (by decide) (by decide), gd hi (by decide) (by decide), trivial⟩ ?_
  refine zT_call (k := 115) (cl := 11) (n := 4) (i := .invokevirtual 122) (args := [(21, 0), (0, xs (wadd i 1).toNat), (0, xs (wadd i 2).toNat), (0, xs (wadd i 3).toNat)]) (rest := []) (g1 := (hc', hm, o)) (r1 := some (0, r)) (by decide +kernel) rfl rfl rfl (st' := [(0, r)]) rfl (S115 (Nat.le_of_ble_eq_true rfl) _ _ _ hc _ q1) ?_
  refine zT_b (d := 0) (b := [(1161, .aload_n 2, 1, (0, 0, 0)), (1162, .aload_n 0, 1, (0, 0, 0)), (1163, .iload 4, 2, (0, 0, 0)), (1165, .iconst 1, 1, (0, 0, 0)), (1166, .iadd, 1, (0, 0, 0)), (1167, .iaload, 1, (1, 0, 0)), (1168, .aload_n 0, 1, (0, 0, 0)), (1169, .iload 4, 2, (0, 0, 0)), (1171, .iconst 2, 1, (0, 0, 0)), (1172, .iadd, 1, (0, 0, 0)), (1173, .iaload, 1, (1, 0, 0)), (1174, .aload_n 0, 1, (0, 0, 0)), (1175, .iload 4, 2, (0, 0, 0)), (1177, .iconst 3, 1, (0, 0, 0)), (1178, .iadd, 1, (0, 0, 0)), (1179, .iaload, 1, (1, 0, 0))]) (gs := [0 ≤ wadd i 1 ∧ wadd i 1 < (Ls : Int), 0 ≤ wadd i 2 ∧ wadd i 2 < (Ls : Int), 0 ≤ wadd i 3 ∧ wadd i 3 < (Ls : Int)]) (c' := (1180, Lh i, [(0, xs (wadd i 3).toNat), (0, xs (wadd i 2).toNat), (0, xs (wadd i 1).toNat), (22, 0), (0, r)], (hc', hm, o))) (by decide +kernel) rfl ⟨gd hi (by decide) (by decide), gd hi (by decide) (by decide), gd hi (by decide) (by decide), trivial⟩ ?_
  refine zT_call (k := 256) (cl := 12) (n := 4) (i := .invokevirtual 125) (args := [(22, 0), (0, xs (wadd i 1).toNat), (0, xs (wadd i 2).toNat), (0, xs (wadd i 3).toNat)]) (rest := [(0, r)]) (g1 := (hc', hm', o)) (r1 := some (0, r)) (by decide +kernel) rfl rfl rfl (st' := [(0, r), (0, r)]) rfl (S256 (Nat.le_of_ble_eq_true rfl) _ _ _ hm _ q2) ?_
  refine zT_b (d := 1) (b := [(1183, .if_icmp .eq 515, 3, (0, 0, 0))]) (gs := [r = r]) (c' := (1698, Lh i, [], (hc', hm', o))) (by decide +kernel) rfl ⟨rfl, trivial⟩ ?_
  exact LE h'
end
section
/-! The law's cases, 23 to 32. -/
set_option maxRecDepth 100000 in
theorem LC_23 {Ls : Nat} {xs : Nat → Int} {spec : zRn zH2} {i : Int} {hc : zHC} {hm : zHM} {o : Int → Int} (hi : 0 ≤ i ∧ i + 6 ≤ (Ls : Int) ∧ Ls ≤ 6) (hxs : ∀ j, zR32 (xs j)) (h : RG hc hm) (hw : wand (xs i.toNat) 63 = 23) : zTo Ls xs (zRu2 spec 600) 295 (LN i o) (33, Lh i, [], (hc, hm, o)) := by
  obtain ⟨r, hc', hm', q1, q2, h'⟩ := C_meets (p := xs (wadd i 1).toNat) (q := xs (wadd i 2).toNat) (n := xs (wadd i 3).toNat) h
  refine zT_b (d := 23) (b := LBs) (gs := [0 ≤ i ∧ i < (Ls : Int), wand (xs i.toNat) 63 = 23]) (c' := (1188, Lh i, [], (hc, hm, o))) LBs_ok rfl ⟨by omega, hw, trivial⟩ ?_
  refine zT_b (d := 0) (b := [(1188, .aload_n 1, 1, (0, 0, 0)), (1189, .aload_n 0, 1, (0, 0, 0)), (1190, .iload 4, 2, (0, 0, 0)), (1192, .iconst 1, 1, (0, 0, 0)), (1193, .iadd, 1, (0, 0, 0)), (1194, .iaload, 1, (1, 0, 0)), (1195, .aload_n 0, 1, (0, 0, 0)), (1196, .iload 4, 2, (0, 0, 0)), (1198, .iconst 2, 1, (0, 0, 0)), (1199, .iadd, 1, (0, 0, 0)), (1200, .iaload, 1, (1, 0, 0)), (1201, .aload_n 0, 1, (0, 0, 0)), (1202, .iload 4, 2, (0, 0, 0)), (1204, .iconst 3, 1, (0, 0, 0)), (1205, .iadd, 1, (0, 0, 0)), (1206, .iaload, 1, (1, 0, 0))]) (gs := [0 ≤ wadd i 1 ∧ wadd i 1 < (Ls : Int), 0 ≤ wadd i 2 ∧ wadd i 2 < (Ls : Int), 0 ≤ wadd i 3 ∧ wadd i 3 < (Ls : Int)]) (c' := (1207, Lh i, [(0, xs (wadd i 3).toNat), (0, xs (wadd i 2).toNat), (0, xs (wadd i 1).toNat), (21, 0)], (hc, hm, o))) (by decide +kernel) rfl ⟨gd hi (by decide) (by decide), gd hi (by decide) (by decide), gd hi (by decide) (by decide), trivial⟩ ?_
  refine zT_call (k := 116) (cl := 11) (n := 4) (i := .invokevirtual 126) (args := [(21, 0), (0, xs (wadd i 1).toNat), (0, xs (wadd i 2).toNat), (0, xs (wadd i 3).toNat)]) (rest := []) (g1 := (hc', hm, o)) (r1 := some (0, r)) (by decide +kernel) rfl rfl rfl (st' := [(0, r)]) rfl (S116 (Nat.le_of_ble_eq_true rfl) _ _ _ hc _ q1) ?_
  refine zT_b (d := 0) (b := [(1210, .aload_n 2, 1, (0, 0, 0)), (1211, .aload_n 0, 1, (0, 0, 0)), (1212, .iload 4, 2, (0, 0, 0)), (1214, .iconst 1, 1, (0, 0, 0)), (1215, .iadd, 1, (0, 0, 0)), (1216, .iaload, 1, (1, 0, 0)), (1217, .aload_n 0, 1, (0, 0, 0)), (1218, .iload 4, 2, (0, 0, 0)), (1220, .iconst 2, 1, (0, 0, 0)), (1221, .iadd, 1, (0, 0, 0)), (1222, .iaload, 1, (1, 0, 0)), (1223, .aload_n 0, 1, (0, 0, 0)), (1224, .iload 4, 2, (0, 0, 0)), (1226, .iconst 3, 1, (0, 0, 0)), (1227, .iadd, 1, (0, 0, 0)), (1228, .iaload, 1, (1, 0, 0))]) (gs := [0 ≤ wadd i 1 ∧ wadd i 1 < (Ls : Int), 0 ≤ wadd i 2 ∧ wadd i 2 < (Ls : Int), 0 ≤ wadd i 3 ∧ wadd i 3 < (Ls : Int)]) (c' := (1229, Lh i, [(0, xs (wadd i 3).toNat), (0, xs (wadd i 2).toNat), (0, xs (wadd i 1).toNat), (22, 0), (0, r)], (hc', hm, o))) (by decide +kernel) rfl ⟨gd hi (by decide) (by decide), gd hi (by decide) (by decide), gd hi (by decide) (by decide), trivial⟩ ?_
  refine zT_call (k := 257) (cl := 12) (n := 4) (i := .invokevirtual 129) (args := [(22, 0), (0, xs (wadd i 1).toNat), (0, xs (wadd i 2).toNat), (0, xs (wadd i 3).toNat)]) (rest := [(0, r)]) (g1 := (hc', hm', o)) (r1 := some (0, r)) (by decide +kernel) rfl rfl rfl (st' := [(0, r), (0, r)]) rfl (S257 (Nat.le_of_ble_eq_true rfl) _ _ _ hm _ q2) ?_
  refine zT_b (d := 1) (b := [(1232, .if_icmp .eq 466, 3, (0, 0, 0))]) (gs := [r = r]) (c' := (1698, Lh i, [], (hc', hm', o))) (by decide +kernel) rfl ⟨rfl, trivial⟩ ?_
  exact LE h'
set_option maxRecDepth 100000 in
theorem LC_24 {Ls : Nat} {xs : Nat → Int} {spec : zRn zH2} {i : Int} {hc : zHC} {hm : zHM} {o : Int → Int} (hi : 0 ≤ i ∧ i + 6 ≤ (Ls : Int) ∧ Ls ≤ 6) (hxs : ∀ j, zR32 (xs j)) (h : RG hc hm) (hz : i = 0 → hm 14 2 = 0) (hw : wand (xs i.toNat) 63 = 24) : zTo Ls xs (zRu2 spec 600) 295 (LN i o) (33, Lh i, [], (hc, hm, o)) := by
  obtain ⟨r, r2, hm', q1, q2, h', hq⟩ := C_nearest (x := xs (wadd i 1).toNat) (l := xs (wadd i 2).toNat) h (hxs _)
  obtain rfl := hq (Or.inr (hz (by omega)))
  refine zT_b (d := 24) (b := LBs) (gs := [0 ≤ i ∧ i < (Ls : Int), wand (xs i.toNat) 63 = 24]) (c' := (1237, Lh i, [], (hc, hm, o))) LBs_ok rfl ⟨by omega, hw, trivial⟩ ?_
  refine zT_b (d := 0) (b := [(1237, .aload_n 1, 1, (0, 0, 0)), (1238, .aload_n 0, 1, (0, 0, 0)), (1239, .iload 4, 2, (0, 0, 0)), (1241, .iconst 1, 1, (0, 0, 0)), (1242, .iadd, 1, (0, 0, 0)), (1243, .iaload, 1, (1, 0, 0)), (1244, .aload_n 0, 1, (0, 0, 0)), (1245, .iload 4, 2, (0, 0, 0)), (1247, .iconst 2, 1, (0, 0, 0)), (1248, .iadd, 1, (0, 0, 0)), (1249, .iaload, 1, (1, 0, 0))]) (gs := [0 ≤ wadd i 1 ∧ wadd i 1 < (Ls : Int), 0 ≤ wadd i 2 ∧ wadd i 2 < (Ls : Int)]) (c' := (1250, Lh i, [(0, xs (wadd i 2).toNat), (0, xs (wadd i 1).toNat), (21, 0)], (hc, hm, o))) (by decide +kernel) rfl ⟨gd hi (by decide) (by decide), gd hi (by decide) (by decide), trivial⟩ ?_
  refine zT_call (k := 117) (cl := 11) (n := 3) (i := .invokevirtual 130) (args := [(21, 0), (0, xs (wadd i 1).toNat), (0, xs (wadd i 2).toNat)]) (rest := []) (g1 := (hc, hm, o)) (r1 := some (0, r)) (by decide +kernel) rfl rfl rfl (st' := [(0, r)]) rfl (S117 (Nat.le_of_ble_eq_true rfl) _ _ hc _ q1) ?_
  refine zT_b (d := 0) (b := [(1253, .aload_n 2, 1, (0, 0, 0)), (1254, .aload_n 0, 1, (0, 0, 0)), (1255, .iload 4, 2, (0, 0, 0)), (1257, .iconst 1, 1, (0, 0, 0)), (1258, .iadd, 1, (0, 0, 0)), (1259, .iaload, 1, (1, 0, 0)), (1260, .aload_n 0, 1, (0, 0, 0)), (1261, .iload 4, 2, (0, 0, 0)), (1263, .iconst 2, 1, (0, 0, 0)), (1264, .iadd, 1, (0, 0, 0)), (1265, .iaload, 1, (1, 0, 0))]) (gs := [0 ≤ wadd i 1 ∧ wadd i 1 < (Ls : Int), 0 ≤ wadd i 2 ∧ wadd i 2 < (Ls : Int)]) (c' := (1266, Lh i, [(0, xs (wadd i 2).toNat), (0, xs (wadd i 1).toNat), (22, 0), (0, r)], (hc, hm, o))) (by decide +kernel) rfl ⟨gd hi (by decide) (by decide), gd hi (by decide) (by decide), trivial⟩ ?_
  refine zT_call (k := 258) (cl := 12) (n := 3) (i := .invokevirtual 133) (args := [(22, 0), (0, xs (wadd i 1).toNat), (0, xs (wadd i 2).toNat)]) (rest := [(0, r)]) (g1 := (hc, hm', o)) (r1 := some (0, r)) (by decide +kernel) rfl rfl rfl (st' := [(0, r), (0, r)]) rfl (S258 (Nat.le_of_ble_eq_true rfl) _ _ hm _ q2) ?_
  refine zT_b (d := 1) (b := [(1269, .if_icmp .eq 429, 3, (0, 0, 0))]) (gs := [r = r]) (c' := (1698, Lh i, [], (hc, hm', o))) (by decide +kernel) rfl ⟨rfl, trivial⟩ ?_
  exact LE h'
set_option maxRecDepth 100000 in
theorem LC_25 {Ls : Nat} {xs : Nat → Int} {spec : zRn zH2} {i : Int} {hc : zHC} {hm : zHM} {o : Int → Int} (hi : 0 ≤ i ∧ i + 6 ≤ (Ls : Int) ∧ Ls ≤ 6) (hxs : ∀ j, zR32 (xs j)) (h : RG hc hm) (hw : wand (xs i.toNat) 63 = 25) : zTo Ls xs (zRu2 spec 600) 295 (LN i o) (33, Lh i, [], (hc, hm, o)) := by
  obtain ⟨r, hc', hm', q1, q2, h'⟩ := C_pieces  h
  refine zT_b (d := 25) (b := LBs) (gs := [0 ≤ i ∧ i < (Ls : Int), wand (xs i.toNat) 63 = 25]) (c' := (1274, Lh i, [], (hc, hm, o))) LBs_ok rfl ⟨by omega, hw, trivial⟩ ?_
  refine zT_b (d := 0) (b := [(1274, .aload_n 1, 1, (0, 0, 0))]) (gs := []) (c' := (1275, Lh i, [(21, 0)], (hc, hm, o))) (by decide +kernel) rfl trivial ?_
  refine zT_call (k := 118) (cl := 11) (n := 1) (i := .invokevirtual 134) (args := [(21, 0)]) (rest := []) (g1 := (hc', hm, o)) (r1 := some (0, r)) (by decide +kernel) rfl rfl rfl (st' := [(0, r)]) rfl (S118 (Nat.le_of_ble_eq_true rfl) hc _ q1) ?_
  refine zT_b (d := 0) (b := [(1278, .aload_n 2, 1, (0, 0, 0))]) (gs := []) (c' := (1279, Lh i, [(22, 0), (0, r)], (hc', hm, o))) (by decide +kernel) rfl trivial ?_
  refine zT_call (k := 262) (cl := 12) (n := 1) (i := .invokevirtual 137) (args := [(22, 0)]) (rest := [(0, r)]) (g1 := (hc', hm', o)) (r1 := some (0, r)) (by decide +kernel) rfl rfl rfl (st' := [(0, r), (0, r)]) rfl (S262 (Nat.le_of_ble_eq_true rfl) hm _ q2) ?_
  refine zT_b (d := 1) (b := [(1282, .if_icmp .eq 416, 3, (0, 0, 0))]) (gs := [r = r]) (c' := (1698, Lh i, [], (hc', hm', o))) (by decide +kernel) rfl ⟨rfl, trivial⟩ ?_
  exact LE h'
set_option maxRecDepth 100000 in
theorem LC_26 {Ls : Nat} {xs : Nat → Int} {spec : zRn zH2} {i : Int} {hc : zHC} {hm : zHM} {o : Int → Int} (hi : 0 ≤ i ∧ i + 6 ≤ (Ls : Int) ∧ Ls ≤ 6) (hxs : ∀ j, zR32 (xs j)) (h : RG hc hm) (hw : wand (xs i.toNat) 63 = 26) : zTo Ls xs (zRu2 spec 600) 295 (LN i o) (33, Lh i, [], (hc, hm, o)) := by
  obtain ⟨r, hm', q1, q2, h'⟩ := C_piece (k := xs (wadd i 1).toNat) h
  refine zT_b (d := 26) (b := LBs) (gs := [0 ≤ i ∧ i < (Ls : Int), wand (xs i.toNat) 63 = 26]) (c' := (1287, Lh i, [], (hc, hm, o))) LBs_ok rfl ⟨by omega, hw, trivial⟩ ?_
  refine zT_b (d := 0) (b := [(1287, .aload_n 1, 1, (0, 0, 0)), (1288, .aload_n 0, 1, (0, 0, 0)), (1289, .iload 4, 2, (0, 0, 0)), (1291, .iconst 1, 1, (0, 0, 0)), (1292, .iadd, 1, (0, 0, 0)), (1293, .iaload, 1, (1, 0, 0))]) (gs := [0 ≤ wadd i 1 ∧ wadd i 1 < (Ls : Int)]) (c' := (1294, Lh i, [(0, xs (wadd i 1).toNat), (21, 0)], (hc, hm, o))) (by decide +kernel) rfl ⟨gd hi (by decide) (by decide), trivial⟩ ?_
  refine zT_call (k := 128) (cl := 11) (n := 2) (i := .invokevirtual 138) (args := [(21, 0), (0, xs (wadd i 1).toNat)]) (rest := []) (g1 := (hc, hm, o)) (r1 := some (0, r)) (by decide +kernel) rfl rfl rfl (st' := [(0, r)]) rfl (S128 (Nat.le_of_ble_eq_true rfl) _ hc _ q1) ?_
  refine zT_b (d := 0) (b := [(1297, .aload_n 2, 1, (0, 0, 0)), (1298, .aload_n 0, 1, (0, 0, 0)), (1299, .iload 4, 2, (0, 0, 0)), (1301, .iconst 1, 1, (0, 0, 0)), (1302, .iadd, 1, (0, 0, 0)), (1303, .iaload, 1, (1, 0, 0))]) (gs := [0 ≤ wadd i 1 ∧ wadd i 1 < (Ls : Int)]) (c' := (1304, Lh i, [(0, xs (wadd i 1).toNat), (22, 0), (0, r)], (hc, hm, o))) (by decide +kernel) rfl ⟨gd hi (by decide) (by decide), trivial⟩ ?_
  refine zT_call (k := 267) (cl := 12) (n := 2) (i := .invokevirtual 141) (args := [(22, 0), (0, xs (wadd i 1).toNat)]) (rest := [(0, r)]) (g1 := (hc, hm', o)) (r1 := some (0, r)) (by decide +kernel) rfl rfl rfl (st' := [(0, r), (0, r)]) rfl (S267 (Nat.le_of_ble_eq_true rfl) _ hm _ q2) ?_
  refine zT_b (d := 1) (b := [(1307, .if_icmp .eq 391, 3, (0, 0, 0))]) (gs := [r = r]) (c' := (1698, Lh i, [], (hc, hm', o))) (by decide +kernel) rfl ⟨rfl, trivial⟩ ?_
  exact LE h'
set_option maxRecDepth 100000 in
theorem LC_27 {Ls : Nat} {xs : Nat → Int} {spec : zRn zH2} {i : Int} {hc : zHC} {hm : zHM} {o : Int → Int} (hi : 0 ≤ i ∧ i + 6 ≤ (Ls : Int) ∧ Ls ≤ 6) (hxs : ∀ j, zR32 (xs j)) (h : RG hc hm) (hw : wand (xs i.toNat) 63 = 27) : zTo Ls xs (zRu2 spec 600) 295 (LN i o) (33, Lh i, [], (hc, hm, o)) := by
  obtain ⟨r, hc', hm', q1, q2, h'⟩ := C_claims  h
  refine zT_b (d := 27) (b := LBs) (gs := [0 ≤ i ∧ i < (Ls : Int), wand (xs i.toNat) 63 = 27]) (c' := (1312, Lh i, [], (hc, hm, o))) LBs_ok rfl ⟨by omega, hw, trivial⟩ ?_
  refine zT_b (d := 0) (b := [(1312, .aload_n 1, 1, (0, 0, 0))]) (gs := []) (c' := (1313, Lh i, [(21, 0)], (hc, hm, o))) (by decide +kernel) rfl trivial ?_
  refine zT_call (k := 129) (cl := 11) (n := 1) (i := .invokevirtual 142) (args := [(21, 0)]) (rest := []) (g1 := (hc', hm, o)) (r1 := some (0, r)) (by decide +kernel) rfl rfl rfl (st' := [(0, r)]) rfl (S129 (Nat.le_of_ble_eq_true rfl) hc _ q1) ?_
  refine zT_b (d := 0) (b := [(1316, .aload_n 2, 1, (0, 0, 0))]) (gs := []) (c' := (1317, Lh i, [(22, 0), (0, r)], (hc', hm, o))) (by decide +kernel) rfl trivial ?_
  refine zT_call (k := 268) (cl := 12) (n := 1) (i := .invokevirtual 145) (args := [(22, 0)]) (rest := [(0, r)]) (g1 := (hc', hm', o)) (r1 := some (0, r)) (by decide +kernel) rfl rfl rfl (st' := [(0, r), (0, r)]) rfl (S268 (Nat.le_of_ble_eq_true rfl) hm _ q2) ?_
  refine zT_b (d := 1) (b := [(1320, .if_icmp .eq 378, 3, (0, 0, 0))]) (gs := [r = r]) (c' := (1698, Lh i, [], (hc', hm', o))) (by decide +kernel) rfl ⟨rfl, trivial⟩ ?_
  exact LE h'
set_option maxRecDepth 100000 in
theorem LC_28 {Ls : Nat} {xs : Nat → Int} {spec : zRn zH2} {i : Int} {hc : zHC} {hm : zHM} {o : Int → Int} (hi : 0 ≤ i ∧ i + 6 ≤ (Ls : Int) ∧ Ls ≤ 6) (hxs : ∀ j, zR32 (xs j)) (h : RG hc hm) (hw : wand (xs i.toNat) 63 = 28) : zTo Ls xs (zRu2 spec 600) 295 (LN i o) (33, Lh i, [], (hc, hm, o)) := by
  obtain ⟨r, hc', hm', q1, q2, h'⟩ := C_drawn (n := xs (wadd i 1).toNat) (x := xs (wadd i 2).toNat) h
  refine zT_b (d := 28) (b := LBs) (gs := [0 ≤ i ∧ i < (Ls : Int), wand (xs i.toNat) 63 = 28]) (c' := (1325, Lh i, [], (hc, hm, o))) LBs_ok rfl ⟨by omega, hw, trivial⟩ ?_
  refine zT_b (d := 0) (b := [(1325, .aload_n 1, 1, (0, 0, 0)), (1326, .aload_n 0, 1, (0, 0, 0)), (1327, .iload 4, 2, (0, 0, 0)), (1329, .iconst 1, 1, (0, 0, 0)), (1330, .iadd, 1, (0, 0, 0)), (1331, .iaload, 1, (1, 0, 0)), (1332, .aload_n 0, 1, (0, 0, 0)), (1333, .iload 4, 2, (0, 0, 0)), (1335, .iconst 2, 1, (0, 0, 0)), (1336, .iadd, 1, (0, 0, 0)), (1337, .iaload, 1, (1, 0, 0))]) (gs := [0 ≤ wadd i 1 ∧ wadd i 1 < (Ls : Int), 0 ≤ wadd i 2 ∧ wadd i 2 < (Ls : Int)]) (c' := (1338, Lh i, [(0, xs (wadd i 2).toNat), (0, xs (wadd i 1).toNat), (21, 0)], (hc, hm, o))) (by decide +kernel) rfl ⟨gd hi (by decide) (by decide), gd hi (by decide) (by decide), trivial⟩ ?_
  refine zT_call (k := 133) (cl := 11) (n := 3) (i := .invokevirtual 146) (args := [(21, 0), (0, xs (wadd i 1).toNat), (0, xs (wadd i 2).toNat)]) (rest := []) (g1 := (hc', hm, o)) (r1 := some (0, r)) (by decide +kernel) rfl rfl rfl (st' := [(0, r)]) rfl (S133 (Nat.le_of_ble_eq_true rfl) _ _ hc _ q1) ?_
  refine zT_b (d := 0) (b := [(1341, .aload_n 2, 1, (0, 0, 0)), (1342, .aload_n 0, 1, (0, 0, 0)), (1343, .iload 4, 2, (0, 0, 0)), (1345, .iconst 1, 1, (0, 0, 0)), (1346, .iadd, 1, (0, 0, 0)), (1347, .iaload, 1, (1, 0, 0)), (1348, .aload_n 0, 1, (0, 0, 0)), (1349, .iload 4, 2, (0, 0, 0)), (1351, .iconst 2, 1, (0, 0, 0)), (1352, .iadd, 1, (0, 0, 0)), (1353, .iaload, 1, (1, 0, 0))]) (gs := [0 ≤ wadd i 1 ∧ wadd i 1 < (Ls : Int), 0 ≤ wadd i 2 ∧ wadd i 2 < (Ls : Int)]) (c' := (1354, Lh i, [(0, xs (wadd i 2).toNat), (0, xs (wadd i 1).toNat), (22, 0), (0, r)], (hc', hm, o))) (by decide +kernel) rfl ⟨gd hi (by decide) (by decide), gd hi (by decide) (by decide), trivial⟩ ?_
  refine zT_call (k := 270) (cl := 12) (n := 3) (i := .invokevirtual 149) (args := [(22, 0), (0, xs (wadd i 1).toNat), (0, xs (wadd i 2).toNat)]) (rest := [(0, r)]) (g1 := (hc', hm', o)) (r1 := some (0, r)) (by decide +kernel) rfl rfl rfl (st' := [(0, r), (0, r)]) rfl (S270 (Nat.le_of_ble_eq_true rfl) _ _ hm _ q2) ?_
  refine zT_b (d := 1) (b := [(1357, .if_icmp .eq 341, 3, (0, 0, 0))]) (gs := [r = r]) (c' := (1698, Lh i, [], (hc', hm', o))) (by decide +kernel) rfl ⟨rfl, trivial⟩ ?_
  exact LE h'
set_option maxRecDepth 100000 in
theorem LC_29 {Ls : Nat} {xs : Nat → Int} {spec : zRn zH2} {i : Int} {hc : zHC} {hm : zHM} {o : Int → Int} (hi : 0 ≤ i ∧ i + 6 ≤ (Ls : Int) ∧ Ls ≤ 6) (hxs : ∀ j, zR32 (xs j)) (h : RG hc hm) (hw : wand (xs i.toNat) 63 = 29) : zTo Ls xs (zRu2 spec 600) 295 (LN i o) (33, Lh i, [], (hc, hm, o)) := by
  obtain ⟨r, hm', q1, q2, h'⟩ := C_storms (w := xs (wadd i 1).toNat) h
  refine zT_b (d := 29) (b := LBs) (gs := [0 ≤ i ∧ i < (Ls : Int), wand (xs i.toNat) 63 = 29]) (c' := (1362, Lh i, [], (hc, hm, o))) LBs_ok rfl ⟨by omega, hw, trivial⟩ ?_
  refine zT_b (d := 0) (b := [(1362, .aload_n 1, 1, (0, 0, 0)), (1363, .aload_n 0, 1, (0, 0, 0)), (1364, .iload 4, 2, (0, 0, 0)), (1366, .iconst 1, 1, (0, 0, 0)), (1367, .iadd, 1, (0, 0, 0)), (1368, .iaload, 1, (1, 0, 0))]) (gs := [0 ≤ wadd i 1 ∧ wadd i 1 < (Ls : Int)]) (c' := (1369, Lh i, [(0, xs (wadd i 1).toNat), (21, 0)], (hc, hm, o))) (by decide +kernel) rfl ⟨gd hi (by decide) (by decide), trivial⟩ ?_
  refine zT_call (k := 137) (cl := 11) (n := 2) (i := .invokevirtual 150) (args := [(21, 0), (0, xs (wadd i 1).toNat)]) (rest := []) (g1 := (hc, hm, o)) (r1 := some (0, r)) (by decide +kernel) rfl rfl rfl (st' := [(0, r)]) rfl (S137 (Nat.le_of_ble_eq_true rfl) _ hc _ q1) ?_
  refine zT_b (d := 0) (b := [(1372, .aload_n 2, 1, (0, 0, 0)), (1373, .aload_n 0, 1, (0, 0, 0)), (1374, .iload 4, 2, (0, 0, 0)), (1376, .iconst 1, 1, (0, 0, 0)), (1377, .iadd, 1, (0, 0, 0)), (1378, .iaload, 1, (1, 0, 0))]) (gs := [0 ≤ wadd i 1 ∧ wadd i 1 < (Ls : Int)]) (c' := (1379, Lh i, [(0, xs (wadd i 1).toNat), (22, 0), (0, r)], (hc, hm, o))) (by decide +kernel) rfl ⟨gd hi (by decide) (by decide), trivial⟩ ?_
  refine zT_call (k := 273) (cl := 12) (n := 2) (i := .invokevirtual 153) (args := [(22, 0), (0, xs (wadd i 1).toNat)]) (rest := [(0, r)]) (g1 := (hc, hm', o)) (r1 := some (0, r)) (by decide +kernel) rfl rfl rfl (st' := [(0, r), (0, r)]) rfl (S273 (Nat.le_of_ble_eq_true rfl) _ hm _ q2) ?_
  refine zT_b (d := 1) (b := [(1382, .if_icmp .eq 316, 3, (0, 0, 0))]) (gs := [r = r]) (c' := (1698, Lh i, [], (hc, hm', o))) (by decide +kernel) rfl ⟨rfl, trivial⟩ ?_
  exact LE h'
set_option maxRecDepth 100000 in
theorem LC_30 {Ls : Nat} {xs : Nat → Int} {spec : zRn zH2} {i : Int} {hc : zHC} {hm : zHM} {o : Int → Int} (hi : 0 ≤ i ∧ i + 6 ≤ (Ls : Int) ∧ Ls ≤ 6) (hxs : ∀ j, zR32 (xs j)) (h : RG hc hm) (hw : wand (xs i.toNat) 63 = 30) : zTo Ls xs (zRu2 spec 600) 295 (LN i o) (33, Lh i, [], (hc, hm, o)) := by
  obtain ⟨r, hc', hm', q1, q2, h'⟩ := C_odds (p := xs (wadd i 1).toNat) (n := xs (wadd i 2).toNat) (x := xs (wadd i 3).toNat) h
  refine zT_b (d := 30) (b := LBs) (gs := [0 ≤ i ∧ i < (Ls : Int), wand (xs i.toNat) 63 = 30]) (c' := (1387, Lh i, [], (hc, hm, o))) LBs_ok rfl ⟨by omega, hw, trivial⟩ ?_
  refine zT_b (d := 0) (b := [(1387, .aload_n 1, 1, (0, 0, 0)), (1388, .aload_n 0, 1, (0, 0, 0)), (1389, .iload 4, 2, (0, 0, 0)), (1391, .iconst 1, 1, (0, 0, 0)), (1392, .iadd, 1, (0, 0, 0)), (1393, .iaload, 1, (1, 0, 0)), (1394, .aload_n 0, 1, (0, 0, 0)), (1395, .iload 4, 2, (0, 0, 0)), (1397, .iconst 2, 1, (0, 0, 0)), (1398, .iadd, 1, (0, 0, 0)), (1399, .iaload, 1, (1, 0, 0)), (1400, .aload_n 0, 1, (0, 0, 0)), (1401, .iload 4, 2, (0, 0, 0)), (1403, .iconst 3, 1, (0, 0, 0)), (1404, .iadd, 1, (0, 0, 0)), (1405, .iaload, 1, (1, 0, 0))]) (gs := [0 ≤ wadd i 1 ∧ wadd i 1 < (Ls : Int), 0 ≤ wadd i 2 ∧ wadd i 2 < (Ls : Int), 0 ≤ wadd i 3 ∧ wadd i 3 < (Ls : Int)]) (c' := (1406, Lh i, [(0, xs (wadd i 3).toNat), (0, xs (wadd i 2).toNat), (0, xs (wadd i 1).toNat), (21, 0)], (hc, hm, o))) (by decide +kernel) rfl ⟨gd hi (by decide) (by decide), gd hi (by decide) (by decide), gd hi (by decide) (by decide), trivial⟩ ?_
  refine zT_call (k := 138) (cl := 11) (n := 4) (i := .invokevirtual 154) (args := [(21, 0), (0, xs (wadd i 1).toNat), (0, xs (wadd i 2).toNat), (0, xs (wadd i 3).toNat)]) (rest := []) (g1 := (hc', hm, o)) (r1 := some (0, r)) (by decide +kernel) rfl rfl rfl (st' := [(0, r)]) rfl (S138 (Nat.le_of_ble_eq_true rfl) _ _ _ hc _ q1) ?_
  refine zT_b (d := 0) (b := [(1409, .aload_n 2, 1, (0, 0, 0)), (1410, .aload_n 0, 1, (0, 0, 0)), (1411, .iload 4, 2, (0, 0, 0)), (1413, .iconst 1, 1, (0, 0, 0)), (1414, .iadd, 1, (0, 0, 0)), (1415, .iaload, 1, (1, 0, 0)), (1416, .aload_n 0, 1, (0, 0, 0)), (1417, .iload 4, 2, (0, 0, 0)), (1419, .iconst 2, 1, (0, 0, 0)), (1420, .iadd, 1, (0, 0, 0)), (1421, .iaload, 1, (1, 0, 0)), (1422, .aload_n 0, 1, (0, 0, 0)), (1423, .iload 4, 2, (0, 0, 0)), (1425, .iconst 3, 1, (0, 0, 0)), (1426, .iadd, 1, (0, 0, 0)), (1427, .iaload, 1, (1, 0, 0))]) (gs := [0 ≤ wadd i 1 ∧ wadd i 1 < (Ls : Int), 0 ≤ wadd i 2 ∧ wadd i 2 < (Ls : Int), 0 ≤ wadd i 3 ∧ wadd i 3 < (Ls : Int)]) (c' := (1428, Lh i, [(0, xs (wadd i 3).toNat), (0, xs (wadd i 2).toNat), (0, xs (wadd i 1).toNat), (22, 0), (0, r)], (hc', hm, o))) (by decide +kernel) rfl ⟨gd hi (by decide) (by decide), gd hi (by decide) (by decide), gd hi (by decide) (by decide), trivial⟩ ?_
  refine zT_call (k := 274) (cl := 12) (n := 4) (i := .invokevirtual 157) (args := [(22, 0), (0, xs (wadd i 1).toNat), (0, xs (wadd i 2).toNat), (0, xs (wadd i 3).toNat)]) (rest := [(0, r)]) (g1 := (hc', hm', o)) (r1 := some (0, r)) (by decide +kernel) rfl rfl rfl (st' := [(0, r), (0, r)]) rfl (S274 (Nat.le_of_ble_eq_true rfl) _ _ _ hm _ q2) ?_
  refine zT_b (d := 1) (b := [(1431, .if_icmp .eq 267, 3, (0, 0, 0))]) (gs := [r = r]) (c' := (1698, Lh i, [], (hc', hm', o))) (by decide +kernel) rfl ⟨rfl, trivial⟩ ?_
  exact LE h'
set_option maxRecDepth 100000 in
theorem LC_31 {Ls : Nat} {xs : Nat → Int} {spec : zRn zH2} {i : Int} {hc : zHC} {hm : zHM} {o : Int → Int} (hi : 0 ≤ i ∧ i + 6 ≤ (Ls : Int) ∧ Ls ≤ 6) (hxs : ∀ j, zR32 (xs j)) (h : RG hc hm) (hw : wand (xs i.toNat) 63 = 31) : zTo Ls xs (zRu2 spec 600) 295 (LN i o) (33, Lh i, [], (hc, hm, o)) := by
  obtain ⟨r, hm', q1, q2, h'⟩ := C_poorest (w := xs (wadd i 1).toNat) h
  refine zT_b (d := 31) (b := LBs) (gs := [0 ≤ i ∧ i < (Ls : Int), wand (xs i.toNat) 63 = 31]) (c' := (1436, Lh i, [], (hc, hm, o))) LBs_ok rfl ⟨by omega, hw, trivial⟩ ?_
  refine zT_b (d := 0) (b := [(1436, .aload_n 1, 1, (0, 0, 0)), (1437, .aload_n 0, 1, (0, 0, 0)), (1438, .iload 4, 2, (0, 0, 0)), (1440, .iconst 1, 1, (0, 0, 0)), (1441, .iadd, 1, (0, 0, 0)), (1442, .iaload, 1, (1, 0, 0))]) (gs := [0 ≤ wadd i 1 ∧ wadd i 1 < (Ls : Int)]) (c' := (1443, Lh i, [(0, xs (wadd i 1).toNat), (21, 0)], (hc, hm, o))) (by decide +kernel) rfl ⟨gd hi (by decide) (by decide), trivial⟩ ?_
  refine zT_call (k := 139) (cl := 11) (n := 2) (i := .invokevirtual 158) (args := [(21, 0), (0, xs (wadd i 1).toNat)]) (rest := []) (g1 := (hc, hm, o)) (r1 := some (0, r)) (by decide +kernel) rfl rfl rfl (st' := [(0, r)]) rfl (S139 (Nat.le_of_ble_eq_true rfl) _ hc _ q1) ?_
  refine zT_b (d := 0) (b := [(1446, .aload_n 2, 1, (0, 0, 0)), (1447, .aload_n 0, 1, (0, 0, 0)), (1448, .iload 4, 2, (0, 0, 0)), (1450, .iconst 1, 1, (0, 0, 0)), (1451, .iadd, 1, (0, 0, 0)), (1452, .iaload, 1, (1, 0, 0))]) (gs := [0 ≤ wadd i 1 ∧ wadd i 1 < (Ls : Int)]) (c' := (1453, Lh i, [(0, xs (wadd i 1).toNat), (22, 0), (0, r)], (hc, hm, o))) (by decide +kernel) rfl ⟨gd hi (by decide) (by decide), trivial⟩ ?_
  refine zT_call (k := 275) (cl := 12) (n := 2) (i := .invokevirtual 161) (args := [(22, 0), (0, xs (wadd i 1).toNat)]) (rest := [(0, r)]) (g1 := (hc, hm', o)) (r1 := some (0, r)) (by decide +kernel) rfl rfl rfl (st' := [(0, r), (0, r)]) rfl (S275 (Nat.le_of_ble_eq_true rfl) _ hm _ q2) ?_
  refine zT_b (d := 1) (b := [(1456, .if_icmp .eq 242, 3, (0, 0, 0))]) (gs := [r = r]) (c' := (1698, Lh i, [], (hc, hm', o))) (by decide +kernel) rfl ⟨rfl, trivial⟩ ?_
  exact LE h'
set_option maxRecDepth 100000 in
theorem LC_32 {Ls : Nat} {xs : Nat → Int} {spec : zRn zH2} {i : Int} {hc : zHC} {hm : zHM} {o : Int → Int} (hi : 0 ≤ i ∧ i + 6 ≤ (Ls : Int) ∧ Ls ≤ 6) (hxs : ∀ j, zR32 (xs j)) (h : RG hc hm) (hw : wand (xs i.toNat) 63 = 32) : zTo Ls xs (zRu2 spec 600) 295 (LN i o) (33, Lh i, [], (hc, hm, o)) := by
  obtain ⟨r, hm', q1, q2, h'⟩ := C_reach (x := xs (wadd i 1).toNat) (l := xs (wadd i 2).toNat) h (hxs _)
  refine zT_b (d := 32) (b := LBs) (gs := [0 ≤ i ∧ i < (Ls : Int), wand (xs i.toNat) 63 = 32]) (c' := (1461, Lh i, [], (hc, hm, o))) LBs_ok rfl ⟨by omega, hw, trivial⟩ ?_
  refine zT_b (d := 0) (b := [(1461, .aload_n 1, 1, (0, 0, 0)), (1462, .aload_n 0, 1, (0, 0, 0)), (1463, .iload 4, 2, (0, 0, 0)), (1465, .iconst 1, 1, (0, 0, 0)), (1466, .iadd, 1, (0, 0, 0)), (1467, .iaload, 1, (1, 0, 0)), (1468, .aload_n 0, 1, (0, 0, 0)), (1469, .iload 4, 2, (0, 0, 0)), (1471, .iconst 2, 1, (0, 0, 0)), (1472, .iadd, 1, (0, 0, 0)), (1473, .iaload, 1, (1, 0, 0))]) (gs := [0 ≤ wadd i 1 ∧ wadd i 1 < (Ls : Int), 0 ≤ wadd i 2 ∧ wadd i 2 < (Ls : Int)]) (c' := (1474, Lh i, [(0, xs (wadd i 2).toNat), (0, xs (wadd i 1).toNat), (21, 0)], (hc, hm, o))) (by decide +kernel) rfl ⟨gd hi (by decide) (by decide), gd hi (by decide) (by decide), trivial⟩ ?_
  refine zT_call (k := 140) (cl := 11) (n := 3) (i := .invokevirtual 162) (args := [(21, 0), (0, xs (wadd i 1).toNat), (0, xs (wadd i 2).toNat)]) (rest := []) (g1 := (hc, hm, o)) (r1 := some (0, r)) (by decide +kernel) rfl rfl rfl (st' := [(0, r)]) rfl (S140 (Nat.le_of_ble_eq_true rfl) _ _ hc _ q1) ?_
  refine zT_b (d := 0) (b := [(1477, .aload_n 2, 1, (0, 0, 0)), (1478, .aload_n 0, 1, (0, 0, 0)), (1479, .iload 4, 2, (0, 0, 0)), (1481, .iconst 1, 1, (0, 0, 0)), (1482, .iadd, 1, (0, 0, 0)), (1483, .iaload, 1, (1, 0, 0)), (1484, .aload_n 0, 1, (0, 0, 0)), (1485, .iload 4, 2, (0, 0, 0)), (1487, .iconst 2, 1, (0, 0, 0)), (1488, .iadd, 1, (0, 0, 0)), (1489, .iaload, 1, (1, 0, 0))]) (gs := [0 ≤ wadd i 1 ∧ wadd i 1 < (Ls : Int), 0 ≤ wadd i 2 ∧ wadd i 2 < (Ls : Int)]) (c' := (1490, Lh i, [(0, xs (wadd i 2).toNat), (0, xs (wadd i 1).toNat), (22, 0), (0, r)], (hc, hm, o))) (by decide +kernel) rfl ⟨gd hi (by decide) (by decide), gd hi (by decide) (by decide), trivial⟩ ?_
  refine zT_call (k := 260) (cl := 12) (n := 3) (i := .invokevirtual 165) (args := [(22, 0), (0, xs (wadd i 1).toNat), (0, xs (wadd i 2).toNat)]) (rest := [(0, r)]) (g1 := (hc, hm', o)) (r1 := some (0, r)) (by decide +kernel) rfl rfl rfl (st' := [(0, r), (0, r)]) rfl (S260 (Nat.le_of_ble_eq_true rfl) _ _ hm _ q2) ?_
  refine zT_b (d := 1) (b := [(1493, .if_icmp .eq 205, 3, (0, 0, 0))]) (gs := [r = r]) (c' := (1698, Lh i, [], (hc, hm', o))) (by decide +kernel) rfl ⟨rfl, trivial⟩ ?_
  exact LE h'
end
section
/-! The law's cases, 33 to 40. -/
set_option maxRecDepth 100000 in
theorem LC_33 {Ls : Nat} {xs : Nat → Int} {spec : zRn zH2} {i : Int} {hc : zHC} {hm : zHM} {o : Int → Int} (hi : 0 ≤ i ∧ i + 6 ≤ (Ls : Int) ∧ Ls ≤ 6) (hxs : ∀ j, zR32 (xs j)) (h : RG hc hm) (hw : wand (xs i.toNat) 63 = 33) : zTo Ls xs (zRu2 spec 600) 295 (LN i o) (33, Lh i, [], (hc, hm, o)) := by
  obtain ⟨r, hm', q1, q2, h'⟩ := C_hears (c := xs (wadd i 1).toNat) (f := xs (wadd i 2).toNat) h
  refine zT_b (d := 33) (b := LBs) (gs := [0 ≤ i ∧ i < (Ls : Int), wand (xs i.toNat) 63 = 33]) (c' := (1498, Lh i, [], (hc, hm, o))) LBs_ok rfl ⟨by omega, hw, trivial⟩ ?_
  refine zT_b (d := 0) (b := [(1498, .aload_n 1, 1, (0, 0, 0)), (1499, .aload_n 0, 1, (0, 0, 0)), (1500, .iload 4, 2, (0, 0, 0)), (1502, .iconst 1, 1, (0, 0, 0)), (1503, .iadd, 1, (0, 0, 0)), (1504, .iaload, 1, (1, 0, 0)), (1505, .aload_n 0, 1, (0, 0, 0)), (1506, .iload 4, 2, (0, 0, 0)), (1508, .iconst 2, 1, (0, 0, 0)), (1509, .iadd, 1, (0, 0, 0)), (1510, .iaload, 1, (1, 0, 0))]) (gs := [0 ≤ wadd i 1 ∧ wadd i 1 < (Ls : Int), 0 ≤ wadd i 2 ∧ wadd i 2 < (Ls : Int)]) (c' := (1511, Lh i, [(0, xs (wadd i 2).toNat), (0, xs (wadd i 1).toNat), (21, 0)], (hc, hm, o))) (by decide +kernel) rfl ⟨gd hi (by decide) (by decide), gd hi (by decide) (by decide), trivial⟩ ?_
  refine zT_call (k := 141) (cl := 11) (n := 3) (i := .invokevirtual 166) (args := [(21, 0), (0, xs (wadd i 1).toNat), (0, xs (wadd i 2).toNat)]) (rest := []) (g1 := (hc, hm, o)) (r1 := some (0, r)) (by decide +kernel) rfl rfl rfl (st' := [(0, r)]) rfl (S141 (Nat.le_of_ble_eq_true rfl) _ _ hc _ q1) ?_
  refine zT_b (d := 0) (b := [(1514, .aload_n 2, 1, (0, 0, 0)), (1515, .aload_n 0, 1, (0, 0, 0)), (1516, .iload 4, 2, (0, 0, 0)), (1518, .iconst 1, 1, (0, 0, 0)), (1519, .iadd, 1, (0, 0, 0)), (1520, .iaload, 1, (1, 0, 0)), (1521, .aload_n 0, 1, (0, 0, 0)), (1522, .iload 4, 2, (0, 0, 0)), (1524, .iconst 2, 1, (0, 0, 0)), (1525, .iadd, 1, (0, 0, 0)), (1526, .iaload, 1, (1, 0, 0))]) (gs := [0 ≤ wadd i 1 ∧ wadd i 1 < (Ls : Int), 0 ≤ wadd i 2 ∧ wadd i 2 < (Ls : Int)]) (c' := (1527, Lh i, [(0, xs (wadd i 2).toNat), (0, xs (wadd i 1).toNat), (22, 0), (0, r)], (hc, hm, o))) (by decide +kernel) rfl ⟨gd hi (by decide) (by decide), gd hi (by decide) (by decide), trivial⟩ ?_
  refine zT_call (k := 261) (cl := 12) (n := 3) (i := .invokevirtual 169) (args := [(22, 0), (0, xs (wadd i 1).toNat), (0, xs (wadd i 2).toNat)]) (rest := [(0, r)]) (g1 := (hc, hm', o)) (r1 := some (0, r)) (by decide +kernel) rfl rfl rfl (st' := [(0, r), (0, r)]) rfl (S261 (Nat.le_of_ble_eq_true rfl) _ _ hm _ q2) ?_
  refine zT_b (d := 1) (b := [(1530, .if_icmp .eq 168, 3, (0, 0, 0))]) (gs := [r = r]) (c' := (1698, Lh i, [], (hc, hm', o))) (by decide +kernel) rfl ⟨rfl, trivial⟩ ?_
  exact LE h'
set_option maxRecDepth 100000 in
theorem LC_34 {Ls : Nat} {xs : Nat → Int} {spec : zRn zH2} {i : Int} {hc : zHC} {hm : zHM} {o : Int → Int} (hi : 0 ≤ i ∧ i + 6 ≤ (Ls : Int) ∧ Ls ≤ 6) (hxs : ∀ j, zR32 (xs j)) (h : RG hc hm) (hw : wand (xs i.toNat) 63 = 34) : zTo Ls xs (zRu2 spec 600) 295 (LN i o) (33, Lh i, [], (hc, hm, o)) := by
  obtain ⟨r, hc', hm', q1, q2, h'⟩ := C_write (s := xs (wadd i 1).toNat) h
  refine zT_b (d := 34) (b := LBs) (gs := [0 ≤ i ∧ i < (Ls : Int), wand (xs i.toNat) 63 = 34]) (c' := (1535, Lh i, [], (hc, hm, o))) LBs_ok rfl ⟨by omega, hw, trivial⟩ ?_
  refine zT_b (d := 0) (b := [(1535, .aload_n 1, 1, (0, 0, 0)), (1536, .aload_n 0, 1, (0, 0, 0)), (1537, .iload 4, 2, (0, 0, 0)), (1539, .iconst 1, 1, (0, 0, 0)), (1540, .iadd, 1, (0, 0, 0)), (1541, .iaload, 1, (1, 0, 0))]) (gs := [0 ≤ wadd i 1 ∧ wadd i 1 < (Ls : Int)]) (c' := (1542, Lh i, [(0, xs (wadd i 1).toNat), (21, 0)], (hc, hm, o))) (by decide +kernel) rfl ⟨gd hi (by decide) (by decide), trivial⟩ ?_
  refine zT_call (k := 142) (cl := 11) (n := 2) (i := .invokevirtual 170) (args := [(21, 0), (0, xs (wadd i 1).toNat)]) (rest := []) (g1 := (hc', hm, o)) (r1 := some (0, r)) (by decide +kernel) rfl rfl rfl (st' := [(0, r)]) rfl (S142 (Nat.le_of_ble_eq_true rfl) _ hc _ q1) ?_
  refine zT_b (d := 0) (b := [(1545, .aload_n 2, 1, (0, 0, 0)), (1546, .aload_n 0, 1, (0, 0, 0)), (1547, .iload 4, 2, (0, 0, 0)), (1549, .iconst 1, 1, (0, 0, 0)), (1550, .iadd, 1, (0, 0, 0)), (1551, .iaload, 1, (1, 0, 0))]) (gs := [0 ≤ wadd i 1 ∧ wadd i 1 < (Ls : Int)]) (c' := (1552, Lh i, [(0, xs (wadd i 1).toNat), (22, 0), (0, r)], (hc', hm, o))) (by decide +kernel) rfl ⟨gd hi (by decide) (by decide), trivial⟩ ?_
  refine zT_call (k := 276) (cl := 12) (n := 2) (i := .invokevirtual 173) (args := [(22, 0), (0, xs (wadd i 1).toNat)]) (rest := [(0, r)]) (g1 := (hc', hm', o)) (r1 := some (0, r)) (by decide +kernel) rfl rfl rfl (st' := [(0, r), (0, r)]) rfl (S276 (Nat.le_of_ble_eq_true rfl) _ hm _ q2) ?_
  refine zT_b (d := 1) (b := [(1555, .if_icmp .eq 143, 3, (0, 0, 0))]) (gs := [r = r]) (c' := (1698, Lh i, [], (hc', hm', o))) (by decide +kernel) rfl ⟨rfl, trivial⟩ ?_
  exact LE h'
set_option maxRecDepth 100000 in
theorem LC_35 {Ls : Nat} {xs : Nat → Int} {spec : zRn zH2} {i : Int} {hc : zHC} {hm : zHM} {o : Int → Int} (hi : 0 ≤ i ∧ i + 6 ≤ (Ls : Int) ∧ Ls ≤ 6) (hxs : ∀ j, zR32 (xs j)) (h : RG hc hm) (hw : wand (xs i.toNat) 63 = 35) : zTo Ls xs (zRu2 spec 600) 295 (LN i o) (33, Lh i, [], (hc, hm, o)) := by
  obtain ⟨r, hm', q1, q2, h'⟩ := C_byteAt (k := xs (wadd i 1).toNat) h
  refine zT_b (d := 35) (b := LBs) (gs := [0 ≤ i ∧ i < (Ls : Int), wand (xs i.toNat) 63 = 35]) (c' := (1560, Lh i, [], (hc, hm, o))) LBs_ok rfl ⟨by omega, hw, trivial⟩ ?_
  refine zT_b (d := 0) (b := [(1560, .aload_n 1, 1, (0, 0, 0)), (1561, .aload_n 0, 1, (0, 0, 0)), (1562, .iload 4, 2, (0, 0, 0)), (1564, .iconst 1, 1, (0, 0, 0)), (1565, .iadd, 1, (0, 0, 0)), (1566, .iaload, 1, (1, 0, 0))]) (gs := [0 ≤ wadd i 1 ∧ wadd i 1 < (Ls : Int)]) (c' := (1567, Lh i, [(0, xs (wadd i 1).toNat), (21, 0)], (hc, hm, o))) (by decide +kernel) rfl ⟨gd hi (by decide) (by decide), trivial⟩ ?_
  refine zT_call (k := 146) (cl := 11) (n := 2) (i := .invokevirtual 174) (args := [(21, 0), (0, xs (wadd i 1).toNat)]) (rest := []) (g1 := (hc, hm, o)) (r1 := some (0, r)) (by decide +kernel) rfl rfl rfl (st' := [(0, r)]) rfl (S146 (Nat.le_of_ble_eq_true rfl) _ hc _ q1) ?_
  refine zT_b (d := 0) (b := [(1570, .aload_n 2, 1, (0, 0, 0)), (1571, .aload_n 0, 1, (0, 0, 0)), (1572, .iload 4, 2, (0, 0, 0)), (1574, .iconst 1, 1, (0, 0, 0)), (1575, .iadd, 1, (0, 0, 0)), (1576, .iaload, 1, (1, 0, 0))]) (gs := [0 ≤ wadd i 1 ∧ wadd i 1 < (Ls : Int)]) (c' := (1577, Lh i, [(0, xs (wadd i 1).toNat), (22, 0), (0, r)], (hc, hm, o))) (by decide +kernel) rfl ⟨gd hi (by decide) (by decide), trivial⟩ ?_
  refine zT_call (k := 279) (cl := 12) (n := 2) (i := .invokevirtual 177) (args := [(22, 0), (0, xs (wadd i 1).toNat)]) (rest := [(0, r)]) (g1 := (hc, hm', o)) (r1 := some (0, r)) (by decide +kernel) rfl rfl rfl (st' := [(0, r), (0, r)]) rfl (S279 (Nat.le_of_ble_eq_true rfl) _ hm _ q2) ?_
  refine zT_b (d := 1) (b := [(1580, .if_icmp .eq 118, 3, (0, 0, 0))]) (gs := [r = r]) (c' := (1698, Lh i, [], (hc, hm', o))) (by decide +kernel) rfl ⟨rfl, trivial⟩ ?_
  exact LE h'
set_option maxRecDepth 100000 in
theorem LC_36 {Ls : Nat} {xs : Nat → Int} {spec : zRn zH2} {i : Int} {hc : zHC} {hm : zHM} {o : Int → Int} (hi : 0 ≤ i ∧ i + 6 ≤ (Ls : Int) ∧ Ls ≤ 6) (hxs : ∀ j, zR32 (xs j)) (h : RG hc hm) (hw : wand (xs i.toNat) 63 = 36) : zTo Ls xs (zRu2 spec 600) 295 (LN i o) (33, Lh i, [], (hc, hm, o)) := by
  obtain ⟨r, hc', hm', q1, q2, h'⟩ := C_sentence  h
  refine zT_b (d := 36) (b := LBs) (gs := [0 ≤ i ∧ i < (Ls : Int), wand (xs i.toNat) 63 = 36]) (c' := (1585, Lh i, [], (hc, hm, o))) LBs_ok rfl ⟨by omega, hw, trivial⟩ ?_
  refine zT_b (d := 0) (b := [(1585, .aload_n 1, 1, (0, 0, 0))]) (gs := []) (c' := (1586, Lh i, [(21, 0)], (hc, hm, o))) (by decide +kernel) rfl trivial ?_
  refine zT_call (k := 147) (cl := 11) (n := 1) (i := .invokevirtual 178) (args := [(21, 0)]) (rest := []) (g1 := (hc', hm, o)) (r1 := some (0, r)) (by decide +kernel) rfl rfl rfl (st' := [(0, r)]) rfl (S147 (Nat.le_of_ble_eq_true rfl) hc _ q1) ?_
  refine zT_b (d := 0) (b := [(1589, .aload_n 2, 1, (0, 0, 0))]) (gs := []) (c' := (1590, Lh i, [(22, 0), (0, r)], (hc', hm, o))) (by decide +kernel) rfl trivial ?_
  refine zT_call (k := 280) (cl := 12) (n := 1) (i := .invokevirtual 181) (args := [(22, 0)]) (rest := [(0, r)]) (g1 := (hc', hm', o)) (r1 := some (0, r)) (by decide +kernel) rfl rfl rfl (st' := [(0, r), (0, r)]) rfl (S280 (Nat.le_of_ble_eq_true rfl) hm _ q2) ?_
  refine zT_b (d := 1) (b := [(1593, .if_icmp .eq 105, 3, (0, 0, 0))]) (gs := [r = r]) (c' := (1698, Lh i, [], (hc', hm', o))) (by decide +kernel) rfl ⟨rfl, trivial⟩ ?_
  exact LE h'
set_option maxRecDepth 100000 in
theorem LC_37 {Ls : Nat} {xs : Nat → Int} {spec : zRn zH2} {i : Int} {hc : zHC} {hm : zHM} {o : Int → Int} (hi : 0 ≤ i ∧ i + 6 ≤ (Ls : Int) ∧ Ls ≤ 6) (hxs : ∀ j, zR32 (xs j)) (h : RG hc hm) (hw : wand (xs i.toNat) 63 = 37) : zTo Ls xs (zRu2 spec 600) 295 (LN i o) (33, Lh i, [], (hc, hm, o)) := by
  obtain ⟨r, hc', hm', q1, q2, h'⟩ := C_said (v := xs (wadd i 1).toNat) h
  refine zT_b (d := 37) (b := LBs) (gs := [0 ≤ i ∧ i < (Ls : Int), wand (xs i.toNat) 63 = 37]) (c' := (1598, Lh i, [], (hc, hm, o))) LBs_ok rfl ⟨by omega, hw, trivial⟩ ?_
  refine zT_b (d := 0) (b := [(1598, .aload_n 1, 1, (0, 0, 0)), (1599, .aload_n 0, 1, (0, 0, 0)), (1600, .iload 4, 2, (0, 0, 0)), (1602, .iconst 1, 1, (0, 0, 0)), (1603, .iadd, 1, (0, 0, 0)), (1604, .iaload, 1, (1, 0, 0))]) (gs := [0 ≤ wadd i 1 ∧ wadd i 1 < (Ls : Int)]) (c' := (1605, Lh i, [(0, xs (wadd i 1).toNat), (21, 0)], (hc, hm, o))) (by decide +kernel) rfl ⟨gd hi (by decide) (by decide), trivial⟩ ?_
  refine zT_call (k := 156) (cl := 11) (n := 2) (i := .invokevirtual 182) (args := [(21, 0), (0, xs (wadd i 1).toNat)]) (rest := []) (g1 := (hc', hm, o)) (r1 := some (0, r)) (by decide +kernel) rfl rfl rfl (st' := [(0, r)]) rfl (S156 (Nat.le_of_ble_eq_true rfl) _ hc _ q1) ?_
  refine zT_b (d := 0) (b := [(1608, .aload_n 2, 1, (0, 0, 0)), (1609, .aload_n 0, 1, (0, 0, 0)), (1610, .iload 4, 2, (0, 0, 0)), (1612, .iconst 1, 1, (0, 0, 0)), (1613, .iadd, 1, (0, 0, 0)), (1614, .iaload, 1, (1, 0, 0))]) (gs := [0 ≤ wadd i 1 ∧ wadd i 1 < (Ls : Int)]) (c' := (1615, Lh i, [(0, xs (wadd i 1).toNat), (22, 0), (0, r)], (hc', hm, o))) (by decide +kernel) rfl ⟨gd hi (by decide) (by decide), trivial⟩ ?_
  refine zT_call (k := 289) (cl := 12) (n := 2) (i := .invokevirtual 185) (args := [(22, 0), (0, xs (wadd i 1).toNat)]) (rest := [(0, r)]) (g1 := (hc', hm', o)) (r1 := some (0, r)) (by decide +kernel) rfl rfl rfl (st' := [(0, r), (0, r)]) rfl (S289 (Nat.le_of_ble_eq_true rfl) _ hm _ q2) ?_
  refine zT_b (d := 1) (b := [(1618, .if_icmp .eq 80, 3, (0, 0, 0))]) (gs := [r = r]) (c' := (1698, Lh i, [], (hc', hm', o))) (by decide +kernel) rfl ⟨rfl, trivial⟩ ?_
  exact LE h'
set_option maxRecDepth 100000 in
theorem LC_38 {Ls : Nat} {xs : Nat → Int} {spec : zRn zH2} {i : Int} {hc : zHC} {hm : zHM} {o : Int → Int} (hi : 0 ≤ i ∧ i + 6 ≤ (Ls : Int) ∧ Ls ≤ 6) (hxs : ∀ j, zR32 (xs j)) (h : RG hc hm) (hw : wand (xs i.toNat) 63 = 38) : zTo Ls xs (zRu2 spec 600) 295 (LN i o) (33, Lh i, [], (hc, hm, o)) := by
  obtain ⟨r, hc', hm', q1, q2, h'⟩ := C_image (v := xs (wadd i 1).toNat) h
  refine zT_b (d := 38) (b := LBs) (gs := [0 ≤ i ∧ i < (Ls : Int), wand (xs i.toNat) 63 = 38]) (c' := (1623, Lh i, [], (hc, hm, o))) LBs_ok rfl ⟨by omega, hw, trivial⟩ ?_
  refine zT_b (d := 0) (b := [(1623, .aload_n 1, 1, (0, 0, 0)), (1624, .aload_n 0, 1, (0, 0, 0)), (1625, .iload 4, 2, (0, 0, 0)), (1627, .iconst 1, 1, (0, 0, 0)), (1628, .iadd, 1, (0, 0, 0)), (1629, .iaload, 1, (1, 0, 0))]) (gs := [0 ≤ wadd i 1 ∧ wadd i 1 < (Ls : Int)]) (c' := (1630, Lh i, [(0, xs (wadd i 1).toNat), (21, 0)], (hc, hm, o))) (by decide +kernel) rfl ⟨gd hi (by decide) (by decide), trivial⟩ ?_
  refine zT_call (k := 160) (cl := 11) (n := 2) (i := .invokevirtual 186) (args := [(21, 0), (0, xs (wadd i 1).toNat)]) (rest := []) (g1 := (hc', hm, o)) (r1 := some (0, r)) (by decide +kernel) rfl rfl rfl (st' := [(0, r)]) rfl (S160 (Nat.le_of_ble_eq_true rfl) _ hc _ q1) ?_
  refine zT_b (d := 0) (b := [(1633, .aload_n 2, 1, (0, 0, 0)), (1634, .aload_n 0, 1, (0, 0, 0)), (1635, .iload 4, 2, (0, 0, 0)), (1637, .iconst 1, 1, (0, 0, 0)), (1638, .iadd, 1, (0, 0, 0)), (1639, .iaload, 1, (1, 0, 0))]) (gs := [0 ≤ wadd i 1 ∧ wadd i 1 < (Ls : Int)]) (c' := (1640, Lh i, [(0, xs (wadd i 1).toNat), (22, 0), (0, r)], (hc', hm, o))) (by decide +kernel) rfl ⟨gd hi (by decide) (by decide), trivial⟩ ?_
  refine zT_call (k := 292) (cl := 12) (n := 2) (i := .invokevirtual 189) (args := [(22, 0), (0, xs (wadd i 1).toNat)]) (rest := [(0, r)]) (g1 := (hc', hm', o)) (r1 := some (0, r)) (by decide +kernel) rfl rfl rfl (st' := [(0, r), (0, r)]) rfl (S292 (Nat.le_of_ble_eq_true rfl) _ hm _ q2) ?_
  refine zT_b (d := 1) (b := [(1643, .if_icmp .eq 55, 3, (0, 0, 0))]) (gs := [r = r]) (c' := (1698, Lh i, [], (hc', hm', o))) (by decide +kernel) rfl ⟨rfl, trivial⟩ ?_
  exact LE h'
set_option maxRecDepth 100000 in
theorem LC_39 {Ls : Nat} {xs : Nat → Int} {spec : zRn zH2} {i : Int} {hc : zHC} {hm : zHM} {o : Int → Int} (hi : 0 ≤ i ∧ i + 6 ≤ (Ls : Int) ∧ Ls ≤ 6) (hxs : ∀ j, zR32 (xs j)) (h : RG hc hm) (hw : wand (xs i.toNat) 63 = 39) : zTo Ls xs (zRu2 spec 600) 295 (LN i o) (33, Lh i, [], (hc, hm, o)) := by
  obtain ⟨r, hc', hm', q1, q2, h'⟩ := C_restore (v := xs (wadd i 1).toNat) h
  refine zT_b (d := 39) (b := LBs) (gs := [0 ≤ i ∧ i < (Ls : Int), wand (xs i.toNat) 63 = 39]) (c' := (1648, Lh i, [], (hc, hm, o))) LBs_ok rfl ⟨by omega, hw, trivial⟩ ?_
  refine zT_b (d := 0) (b := [(1648, .aload_n 1, 1, (0, 0, 0)), (1649, .aload_n 0, 1, (0, 0, 0)), (1650, .iload 4, 2, (0, 0, 0)), (1652, .iconst 1, 1, (0, 0, 0)), (1653, .iadd, 1, (0, 0, 0)), (1654, .iaload, 1, (1, 0, 0))]) (gs := [0 ≤ wadd i 1 ∧ wadd i 1 < (Ls : Int)]) (c' := (1655, Lh i, [(0, xs (wadd i 1).toNat), (21, 0)], (hc, hm, o))) (by decide +kernel) rfl ⟨gd hi (by decide) (by decide), trivial⟩ ?_
  refine zT_call (k := 161) (cl := 11) (n := 2) (i := .invokevirtual 190) (args := [(21, 0), (0, xs (wadd i 1).toNat)]) (rest := []) (g1 := (hc', hm, o)) (r1 := some (0, r)) (by decide +kernel) rfl rfl rfl (st' := [(0, r)]) rfl (S161 (Nat.le_of_ble_eq_true rfl) _ hc _ q1) ?_
  refine zT_b (d := 0) (b := [(1658, .aload_n 2, 1, (0, 0, 0)), (1659, .aload_n 0, 1, (0, 0, 0)), (1660, .iload 4, 2, (0, 0, 0)), (1662, .iconst 1, 1, (0, 0, 0)), (1663, .iadd, 1, (0, 0, 0)), (1664, .iaload, 1, (1, 0, 0))]) (gs := [0 ≤ wadd i 1 ∧ wadd i 1 < (Ls : Int)]) (c' := (1665, Lh i, [(0, xs (wadd i 1).toNat), (22, 0), (0, r)], (hc', hm, o))) (by decide +kernel) rfl ⟨gd hi (by decide) (by decide), trivial⟩ ?_
  refine zT_call (k := 293) (cl := 12) (n := 2) (i := .invokevirtual 193) (args := [(22, 0), (0, xs (wadd i 1).toNat)]) (rest := [(0, r)]) (g1 := (hc', hm', o)) (r1 := some (0, r)) (by decide +kernel) rfl rfl rfl (st' := [(0, r), (0, r)]) rfl (S293 (Nat.le_of_ble_eq_true rfl) _ hm _ q2) ?_
  refine zT_b (d := 1) (b := [(1668, .if_icmp .eq 30, 3, (0, 0, 0))]) (gs := [r = r]) (c' := (1698, Lh i, [], (hc', hm', o))) (by decide +kernel) rfl ⟨rfl, trivial⟩ ?_
  exact LE h'
set_option maxRecDepth 100000 in
theorem LC_40 {Ls : Nat} {xs : Nat → Int} {spec : zRn zH2} {i : Int} {hc : zHC} {hm : zHM} {o : Int → Int} (hi : 0 ≤ i ∧ i + 6 ≤ (Ls : Int) ∧ Ls ≤ 6) (hxs : ∀ j, zR32 (xs j)) (h : RG hc hm) (hw : wand (xs i.toNat) 63 = 40) : zTo Ls xs (zRu2 spec 600) 295 (LN i o) (33, Lh i, [], (hc, hm, o)) := by
  obtain ⟨r, hm', q1, q2, h'⟩ := C_count (w := xs (wadd i 1).toNat) h
  refine zT_b (d := 40) (b := LBs) (gs := [0 ≤ i ∧ i < (Ls : Int), wand (xs i.toNat) 63 = 40]) (c' := (1673, Lh i, [], (hc, hm, o))) LBs_ok rfl ⟨by omega, hw, trivial⟩ ?_
  refine zT_b (d := 0) (b := [(1673, .aload_n 1, 1, (0, 0, 0)), (1674, .aload_n 0, 1, (0, 0, 0)), (1675, .iload 4, 2, (0, 0, 0)), (1677, .iconst 1, 1, (0, 0, 0)), (1678, .iadd, 1, (0, 0, 0)), (1679, .iaload, 1, (1, 0, 0))]) (gs := [0 ≤ wadd i 1 ∧ wadd i 1 < (Ls : Int)]) (c' := (1680, Lh i, [(0, xs (wadd i 1).toNat), (21, 0)], (hc, hm, o))) (by decide +kernel) rfl ⟨gd hi (by decide) (by decide), trivial⟩ ?_
  refine zT_call (k := 162) (cl := 11) (n := 2) (i := .invokevirtual 194) (args := [(21, 0), (0, xs (wadd i 1).toNat)]) (rest := []) (g1 := (hc, hm, o)) (r1 := some (0, r)) (by decide +kernel) rfl rfl rfl (st' := [(0, r)]) rfl (S162 (Nat.le_of_ble_eq_true rfl) _ hc _ q1) ?_
  refine zT_b (d := 0) (b := [(1683, .aload_n 2, 1, (0, 0, 0)), (1684, .aload_n 0, 1, (0, 0, 0)), (1685, .iload 4, 2, (0, 0, 0)), (1687, .iconst 1, 1, (0, 0, 0)), (1688, .iadd, 1, (0, 0, 0)), (1689, .iaload, 1, (1, 0, 0))]) (gs := [0 ≤ wadd i 1 ∧ wadd i 1 < (Ls : Int)]) (c' := (1690, Lh i, [(0, xs (wadd i 1).toNat), (22, 0), (0, r)], (hc, hm, o))) (by decide +kernel) rfl ⟨gd hi (by decide) (by decide), trivial⟩ ?_
  refine zT_call (k := 294) (cl := 12) (n := 2) (i := .invokevirtual 197) (args := [(22, 0), (0, xs (wadd i 1).toNat)]) (rest := [(0, r)]) (g1 := (hc, hm', o)) (r1 := some (0, r)) (by decide +kernel) rfl rfl rfl (st' := [(0, r), (0, r)]) rfl (S294 (Nat.le_of_ble_eq_true rfl) _ hm _ q2) ?_
  refine zT_b (d := 1) (b := [(1693, .if_icmp .eq 5, 3, (0, 0, 0))]) (gs := [r = r]) (c' := (1698, Lh i, [], (hc, hm', o))) (by decide +kernel) rfl ⟨rfl, trivial⟩ ?_
  exact LE h'
end
