/-! What runs over the second heap makes nothing new in the first. -/
def zNo (i : Instr) : Bool := match i with
  | .new _ => false
  | .newarray _ => false
  | .anewarray _ => false
  | _ => true
theorem zNo_s {Ls : Nat} {xs : Nat → Int} {i : Instr} {len : Nat} {ax : zAx} {d : Int} {c c' : zCf zH2} {gs : List Prop} (h : zX (zHop2 Ls xs) i len ax d c = some (gs, c')) : zNo i = true := by
  cases i
  case new x => cases h
  case newarray x => cases h
  case anewarray x => cases h
  all_goals rfl
theorem zX_same {Ls : Nat} {xs : Nat → Int} {i : Instr} {ax : zAx} {st st' : List zAv} {h h' : zH1} {gs : List Prop} (hno : zNo i = true) (hE : zHop1 Ls xs i ax st h = some (gs, st', h')) : h'.length = h.length ∧ zSl h' = zSl h := by
  have sA : ∀ {kd t : Nat} {g : Int → List Prop}, zStA kd t g st h = some (gs, st', h') → h'.length = h.length ∧ zSl h' = zSl h := by
    intro kd t g hE
    unfold zStA at hE
    split at hE
    · split at hE
      · rename_i e1
        split at hE
        · cases hE
          refine ⟨zl_set, ?_⟩
          exact zSl_set e1 rfl
        · cases hE
      · cases hE
    · cases hE
  have lA : ∀ {kd t : Nat} {b : Bool}, zLdA kd t b st h = some (gs, st', h') → h'.length = h.length ∧ zSl h' = zSl h := by
    intro kd t b hE
    unfold zLdA at hE
    split at hE
    · split at hE
      · split at hE
        · cases hE
          exact ⟨rfl, rfl⟩
        · cases hE
      · cases hE
    · cases hE
  cases i
  case getfield x =>
    simp only [zHop1] at hE
    repeat' split at hE
    all_goals first | (cases hE; exact ⟨rfl, rfl⟩) | cases hE
  case putfield x =>
    simp only [zHop1] at hE
    split at hE
    · split at hE
      · rename_i e1
        split at hE
        · cases hE
          refine ⟨zl_set, ?_⟩
          exact zSl_set e1 rfl
        · cases hE
      · cases hE
    · cases hE
  case iaload =>
    simp only [zHop1] at hE
    split at hE
    · split at hE
      · cases hE; exact ⟨rfl, rfl⟩
      · cases hE
    · exact lA hE
  case laload => exact lA (kd := 21) (t := 1) (b := false) hE
  case baload => exact lA (kd := 22) (t := 0) (b := false) hE
  case aaload =>
    simp only [zHop1] at hE
    split at hE
    · exact lA hE
    · cases hE
  case iastore => exact sA hE
  case lastore => exact sA hE
  case bastore => exact sA hE
  case aastore =>
    simp only [zHop1] at hE
    split at hE
    · split at hE
      · split at hE
        · exact sA hE
        · cases hE
      · cases hE
    · cases hE
  case arraylength =>
    simp only [zHop1] at hE
    repeat' split at hE
    all_goals first | (cases hE; exact ⟨rfl, rfl⟩) | cases hE
  case new x => cases hno
  case newarray ty => cases hno
  case anewarray x => cases hno
  case invokestatic x =>
    simp only [zHop1] at hE
    split at hE
    · split at hE
      · split at hE
        · rename_i e0 e1
          split at hE
          · cases hE
            refine ⟨zl_set, ?_⟩
            exact zSl_set e1 rfl
          · cases hE
        · cases hE
      · cases hE
    all_goals (repeat' split at hE)
    all_goals first | (cases hE; exact ⟨rfl, rfl⟩) | cases hE
  case invokespecial x =>
    simp only [zHop1] at hE
    repeat' split at hE
    all_goals first | (cases hE; exact ⟨rfl, rfl⟩) | cases hE
  all_goals (have q : (none : Option (List Prop × List zAv × zH1)) = some (gs, st', h') := hE; cases q)
def zLn2 (h h' : zH1) : Prop := h'.length = h.length ∧ zSl h' = zSl h
section ZVS
variable {lO lA : Nat → Int → Nat} {sc : Prop} {Ls : Nat} {xs : Nat → Int}
def zRRs (lO lA : Nat → Int → Nat) (run2 : zRn zH2) (run1 : zRn zH1) : Prop := ∀ k args2 args1 g r2 g' h, run2 k args2 g r2 g' → zSR lO lA False args2 args1 → zR2 lO lA g h → ∃ r1 h', run1 k args1 h r1 h' ∧ zOR lO lA r2 r1 ∧ zR2 lO lA g' h' ∧ zLn2 h h'
theorem z_par1s {run2 : zRn zH2} {run1 : zRn zH1} {mi : Nat} {c2 c2' : zCf zH2} {c1 : zCf zH1} (ap : zAp lO lA) (hrr : zRRs lO lA run2 run1) (h : zCR lO lA sc c2 c1) (hs : zS2 Ls xs run2 mi c2 c2') : ∃ c1', (zStep (zHop1 Ls xs) zRc1 run1 mi c1 c1' ∨ c1 = c1') ∧ zCR lO lA sc c2' c1' ∧ zLn2 c1.2.2.2 c1'.2.2.2 := by
  rcases hs with ⟨i, len, ax, d, gs, q1, q2, q3, q4, q5, q6⟩ | ⟨i, ax, as1, rest, r, g1, q1, q2, q3, q4, q5, q6, q7, q8, q8s, q9, q10, q11, rfl⟩ | ⟨q1, q2, q3⟩
  · obtain ⟨gs1, c1', k1, k2, k3⟩ := z_par ap q4 h gs c2' q5 q6
    refine ⟨c1', Or.inl (Or.inl ⟨i, len, ax, d, gs1, by rw [h.1]; exact q1, q2, q3, k1, k2⟩), k3, ?_⟩
    rcases zX_heap k1 with e | ⟨n, st', e, -⟩
    · rw [e]; exact ⟨rfl, rfl⟩
    · exact zX_same (zNo_s q5) e
  · obtain ⟨h1, h2, h3, h4⟩ := h
    rw [q6] at h3
    obtain ⟨a', b', e1, e2, e3⟩ := zSR_split h3
    have e4 := zSR_rev e2
    rw [List.reverse_reverse] at e4
    obtain ⟨e5, e6⟩ := zSR_no5 e4 q10
    obtain ⟨r1, h', k1, k2, k3, k4⟩ := hrr _ _ _ _ _ _ _ q11 e5 h4
    refine ⟨(c1.1 + 3, c1.2.1, r1.toList ++ b', h'), Or.inl (Or.inr (Or.inl ⟨i, ax, a'.reverse, b', r1, h', by rw [h1]; exact q1, q2, q3, q4, q5, by rw [List.reverse_reverse]; exact e1, by rw [zSR_len e4]; exact q7, fun x hx => ?_, fun x hx => ?_, by rw [zSR_wt e3]; exact q9, e6, k1, rfl⟩)), ⟨by rw [h1], h2, ?_, k3⟩, k4⟩
    · obtain ⟨a, p1, p2, p3⟩ := q8 x hx
      obtain ⟨y, p4, p5⟩ := zSR_get e4 p1
      obtain ⟨t, n⟩ := a
      simp only at p3
      subst p3
      obtain ⟨p6, p7, p8⟩ := zVR_obj p2 p5
      subst p8
      obtain ⟨f, p9, -⟩ := h4.1 _ n p2 p6 p7
      exact ⟨_, p4, p2, rfl, zNf (zmC ax.1), f, p9⟩
    · obtain ⟨a, p1, p2⟩ := q8s x hx
      obtain ⟨y, p4, p5⟩ := zSR_get e4 p1
      exact ⟨y, p4, by rw [(zVR_tag p5).2.2]; exact p2⟩
    · refine zSR_app ?_ e3
      cases r with
      | none =>
        cases r1 with
        | none => trivial
        | some y => exact k2.elim
      | some x =>
        cases r1 with
        | none => exact k2.elim
        | some y => exact ⟨zVR_sc k2, trivial⟩
  · obtain ⟨h1, h2, h3, h4⟩ := h
    refine ⟨c1, Or.inr rfl, ⟨?_, ⟨?_, ?_⟩, ?_, ?_⟩, rfl, rfl⟩
    · rw [q1]; exact h1
    · rw [q3.1]; exact h2.1
    · intro i a ha
      exact h2.2 i a (q3.2 i a ha)
    · rw [show c2'.2.2.1 = c2.2.2.1 from congrArg Prod.fst q2]; exact h3
    · rw [show c2'.2.2.2 = c2.2.2.2 from congrArg Prod.snd q2]; exact h4
theorem z_parNs {run2 : zRn zH2} {run1 : zRn zH1} {mi n : Nat} {c2 c2' : zCf zH2} {c1 : zCf zH1} (ap : zAp lO lA) (hrr : zRRs lO lA run2 run1) (h : zCR lO lA sc c2 c1) (hs : zRe2 Ls xs run2 mi n c2 c2') : ∃ n' c1', zReach (zHop1 Ls xs) zRc1 run1 mi n' c1 c1' ∧ zCR lO lA sc c2' c1' ∧ zLn2 c1.2.2.2 c1'.2.2.2 := by
  induction n generalizing c2 c1 with
  | zero => cases hs; exact ⟨0, c1, rfl, h, rfl, rfl⟩
  | succ n ih =>
    obtain ⟨c3, s1, s2⟩ := hs
    obtain ⟨c4, k1, k2, k5⟩ := z_par1s ap hrr h s1
    obtain ⟨n', c1', k3, k4, k6⟩ := ih k2 s2
    have k7 := (show zLn2 c1.2.2.2 c1'.2.2.2 from ⟨k6.1.trans k5.1, k6.2.trans k5.2⟩)
    rcases k1 with k1 | rfl
    · exact ⟨n' + 1, c1', ⟨c4, k1, k3⟩, k4, k7⟩
    · exact ⟨n', c1', k3, k4, k7⟩
theorem z_parRs {spec2 : zRn zH2} {spec1 : zRn zH1} (ap : zAp lO lA) (hsp : zRRs lO lA spec2 spec1) : ∀ d, zRRs lO lA (zRu2 spec2 d) (zRun (zHop1 0 (fun _ => 0)) zRc1 spec1 d) := by
  intro d
  induction d with
  | zero => intro k args2 args1 g r2 g' h q; exact q.elim
  | succ d ih =>
    intro k args2 args1 g r2 g' h q hS hR
    rcases q with ⟨q1, q2⟩ | ⟨hk, h14, hfl, n, pc, L, st, hre, hret⟩
    · obtain ⟨r1, h', k1, k2⟩ := hsp _ _ _ _ _ _ _ q2 hS hR
      exact ⟨r1, h', Or.inl ⟨q1, k1⟩, k2⟩
    · obtain ⟨f1, f2⟩ := zSR_fl hS
      have hC : zCR lO lA False (0, zEntry args2 (zmMax k), [], g) (0, zEntry args1 (zmMax k), [], h) := by
        refine ⟨rfl, ⟨?_, fun i a ha => ?_⟩, trivial, hR⟩
        · unfold zEntry
          simp only [List.length_append, List.length_replicate, f1]
        · unfold zEntry at ha ⊢
          rw [f1]
          exact f2 _ i a ha
      obtain ⟨n', c1', k1, k2, k9⟩ := z_parNs ap ih hC hre
      obtain ⟨pc1, L1, st1, h1⟩ := c1'
      obtain ⟨e1, e2, e3, e4⟩ := k2
      dsimp only at e1 e2 e3 e4
      subst e1
      rcases hret with ⟨w1, v, w2, w3, w4⟩ | ⟨w1, v, w2, w3, w4⟩ | ⟨w1, w2, w3, w4⟩
      · dsimp only at w1 w2
        subst w2
        subst w3
        obtain ⟨b0, s0, p0, p1, p2⟩ := zSR_cons e3
        have := zVR0 p1; subst this
        have := zSR_nil p2; subst this
        exact ⟨some (0, v), h1, Or.inr ⟨hk, h14, by rw [f1]; exact hfl, n', pc1, L1, st1, k1, Or.inl ⟨w1, v, p0, rfl, w4⟩⟩, zVR_i, e4, k9⟩
      · dsimp only at w1 w2
        subst w2
        subst w3
        obtain ⟨b0, s0, p0, p1, p2⟩ := zSR_cons e3
        have := zVR1 p1; subst this
        have := zSR_nil p2; subst this
        exact ⟨some (1, v), h1, Or.inr ⟨hk, h14, by rw [f1]; exact hfl, n', pc1, L1, st1, k1, Or.inr (Or.inl ⟨w1, v, p0, rfl, w4⟩)⟩, zVR_l, e4, k9⟩
      · dsimp only at w1 w2
        subst w2
        subst w3
        have := zSR_nil e3; subst this
        exact ⟨none, h1, Or.inr ⟨hk, h14, by rw [f1]; exact hfl, n', pc1, L1, [], k1, Or.inr (Or.inr ⟨w1, rfl, rfl, w4⟩)⟩, trivial, e4, k9⟩
end ZVS
