/-! The start, run over the first heap: both constructors and the answer's row. -/
def spec1 : zRn zH1 := fun k args h r h' => k = 2 ∧ args = [] ∧ r = some (2, (h.length : Int)) ∧ h' = h ++ [((21, 21, kwf) : zCe)]
def zBy (Ls : Nat) (xs : Nat → Int) (d : Int) : List zRow → zCf zH1 → zRs zH1
  | [], c => some ([], c)
  | (pc, i, len, ax) :: b, c => match Nat.beq pc c.1 with
    | true => match zX (zHop1 Ls xs) i len ax d c with
      | some (gs, c1) => match zBy Ls xs d b c1 with
        | some (gs', c2) => some (gs ++ gs', c2)
        | none => none
      | none => none
    | false => none
def zTo1 (Ls : Nat) (xs : Nat → Int) (run : zRn zH1) (mi : Nat) (P : zCf zH1 → Prop) (c : zCf zH1) : Prop := ∃ (n : Nat) (c' : zCf zH1), zReach (zHop1 Ls xs) zRc1 run mi n c c' ∧ P c'
section ZY
variable {run : zRn zH1} {mi Ls : Nat} {xs : Nat → Int} {P : zCf zH1 → Prop}
theorem zY_0 {c : zCf zH1} (h : P c) : zTo1 Ls xs run mi P c := ⟨0, c, rfl, h⟩
theorem zY_1 {c c' : zCf zH1} (h1 : zStep (zHop1 Ls xs) zRc1 run mi c c') (h2 : zTo1 Ls xs run mi P c') : zTo1 Ls xs run mi P c := by
  obtain ⟨n, c2, h3, h4⟩ := h2
  exact ⟨n + 1, c2, ⟨c', h1, h3⟩, h4⟩
theorem zY_b {d : Int} {b : List zRow} {c c' : zCf zH1} {gs : List Prop} (hk : zRk mi b = true) (e : zBy Ls xs d b c = some (gs, c')) (hg : zAll gs) (h : zTo1 Ls xs run mi P c') : zTo1 Ls xs run mi P c := by
  induction b generalizing c gs with
  | nil => cases e; exact h
  | cons q b ih =>
    obtain ⟨pc, i, len, ax⟩ := q
    unfold zRk at hk
    rw [List.all_cons, Bool.and_eq_true] at hk
    obtain ⟨k1, k2⟩ := hk
    simp only [Bool.and_eq_true] at k1
    obtain ⟨k3, k4, k5, k6⟩ := k1
    unfold zBy at e
    split at e
    · rename_i e1
      have e1 := Nat.eq_of_beq_eq_true e1
      subst e1
      split at e
      · rename_i gs1 c1 e2
        split at e
        · rename_i gs2 c2 e3
          cases e
          obtain ⟨g1, g2⟩ := zAll_app.mp hg
          refine zY_1 (Or.inl ⟨i, len, ax, d, gs1, ?_, k4, k5, e2, g1⟩) (ih k2 e3 g2)
          split at k3
          · rename_i p e4
            rw [e4, of_decide_eq_true k3]
          · cases k3
        · cases e
      · cases e
    · cases e
theorem zY_sp {pc x k : Nat} {L : zLo} {args rest st st' : List zAv} {h h1 : zH1} {r : Option zAv} (hd : decode (zmCode mi) pc = .ok (.invokespecial x, 3)) (hax : zAxOk (zmC mi) (zIsI mi) (.invokespecial x) (k, 0, 0) = true) (hk : k < 295) (h14 : ¬ zmC k = 14) (hst : st = args.reverse ++ rest) (hlen : args.length = zNa (.invokespecial x) k) (ha : ∃ a, args[0]? = some a ∧ zGe2 a.1 = true) (hr : Nat.ble (zWt rest) 8 = true) (h5 : args.all (fun a => !Nat.beq a.1 5) = true) (hrun : run k args h r h1) (hst' : st' = r.toList ++ rest) (next : zTo1 Ls xs run mi P (pc + 3, L, st', h1)) : zTo1 Ls xs run mi P (pc, L, st, h) := by
  subst hst'
  exact zY_1 (Or.inr (Or.inl ⟨.invokespecial x, (k, 0, 0), args, rest, r, h1, hd, rfl, hax, hk, h14, hst, hlen, (fun _ hy => nomatch hy), fun _ _ => ha, hr, h5, hrun, rfl⟩)) next
end ZY
set_option maxRecDepth 100000 in
theorem st_run {Ls : Nat} {xs : Nat → Int} : ∃ h3 : zH1, zChk h3 = true ∧ h3.length = 197 ∧ zSl h3 ≤ 100001 ∧ zTo1 Ls xs (zRun (zHop1 0 (fun _ => 0)) zRc1 spec1 14) 295 (fun c => c = (23, [some (5, 0), some (2, 0), some (2, 172), some (2, 196), some (0, 0), none, none], [], h3)) (0, [some (5, 0), none, none, none, none, none, none], [], []) := by
  obtain ⟨h1, h2, e1, e2, l1, l2, s2, k3⟩ := st_all
  have hsp : ∀ h : zH1, spec1 2 [] h (some (2, (h.length : Int))) (h ++ [((21, 21, kwf) : zCe)]) := fun h => ⟨rfl, rfl, rfl, rfl⟩
  have r1 : zRun (zHop1 0 (fun _ => 0)) zRc1 spec1 14 0 [(2, 0)] [((11, zNf 11, zIni0 11) : zCe)] none h1 := zEm_s (spec := spec1) zRws_ok hsp 5 0 _ _ _ _ e1
  have r2 : zRun (zHop1 0 (fun _ => 0)) zRc1 spec1 14 168 [(2, (h1.length : Int))] (h1 ++ [((12, zNf 12, zIni0 12) : zCe)]) none h2 := zEm_s (spec := spec1) zRws_ok hsp 5 168 _ _ _ _ e2
  refine ⟨zSta3 h2, k3, ?_, ?_, ?_⟩
  · unfold zSta3
    rw [List.length_append, l2]
    rfl
  · unfold zSta3
    rw [zSl_app]
    show zSl h2 + 1 ≤ 100001
    omega
  · refine zY_b (d := 0) (b := [(0, .new 8, 3, (11, 0, 0)), (3, .dup, 1, (0, 0, 0))]) (gs := []) (c' := (4, [some (5, 0), none, none, none, none, none, none], [(2, 0), (2, 0)], [((11, zNf 11, zIni0 11) : zCe)])) (by decide +kernel) rfl trivial ?_
    refine zY_sp (k := 0) (x := 21) (args := [(2, 0)]) (rest := [(2, 0)]) (r := none) (st' := [(2, 0)]) (by decide +kernel) (by decide +kernel) (by decide) (by decide +kernel) rfl (by decide +kernel) ⟨_, rfl, rfl⟩ rfl rfl r1 rfl ?_
    refine zY_b (d := 0) (b := [(7, .astore_n 1, 1, (0, 0, 0)), (8, .new 22, 3, (12, 0, 0)), (11, .dup, 1, (0, 0, 0))]) (gs := []) (c' := (12, [some (5, 0), some (2, 0), none, none, none, none, none], [(2, (h1.length : Int)), (2, (h1.length : Int))], h1 ++ [((12, zNf 12, zIni0 12) : zCe)])) (by decide +kernel) rfl trivial ?_
    refine zY_sp (k := 168) (x := 24) (args := [(2, (h1.length : Int))]) (rest := [(2, (h1.length : Int))]) (r := none) (st' := [(2, (h1.length : Int))]) (by decide +kernel) (by decide +kernel) (by decide) (by decide +kernel) rfl (by rw [show zNa (.invokespecial 24) 168 = 1 from by decide +kernel]; rfl) ⟨_, rfl, rfl⟩ rfl rfl r2 rfl ?_
    refine zY_b (d := 0) (b := [(15, .astore_n 2, 1, (0, 0, 0)), (16, .iconst 1, 1, (0, 0, 0)), (17, .newarray .long, 2, (0, 0, 0)), (19, .astore_n 3, 1, (0, 0, 0)), (20, .iconst 0, 1, (0, 0, 0)), (21, .istore 4, 2, (0, 0, 0))]) (gs := [(0 : Int) ≤ 1 ∧ (1 : Int) ≤ 100000]) (c' := (23, [some (5, 0), some (2, 0), some (2, (h1.length : Int)), some (2, (h2.length : Int)), some (0, 0), none, none], [], zSta3 h2)) (by decide +kernel) rfl ⟨by decide, trivial⟩ ?_
    refine zY_0 ?_
    rw [l1, l2]
    rfl
