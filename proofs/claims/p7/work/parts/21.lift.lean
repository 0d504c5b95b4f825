/-! Runs over the second heap, and how they are shown. -/
section ZV
variable {lO lA : Nat → Int → Nat} {sc : Prop} {Ls : Nat} {xs : Nat → Int}
def zRc2 : zRc zH2 := fun _ a ci => ci < 13 ∧ a.1 = 10 + ci
/-- steps whose codes are the table's -/
def zSX2 (Ls : Nat) (xs : Nat → Int) (mi : Nat) (c c' : zCf zH2) : Prop := ∃ (i : Instr) (len : Nat) (ax : zAx) (d : Int) (gs : List Prop), decode (zmCode mi) c.1 = .ok (i, len) ∧ zLnOk i len = true ∧ zAxOk (zmC mi) (zIsI mi) i ax = true ∧ zAx2 i ax = true ∧ zX (zHop2 Ls xs) i len ax d c = some (gs, c') ∧ zAll gs
def zS2 (Ls : Nat) (xs : Nat → Int) (run : zRn zH2) (mi : Nat) (c c' : zCf zH2) : Prop := zSX2 Ls xs mi c c' ∨ zStepC zRc2 run mi c c' ∨ zStepF c c'
def zRe2 (Ls : Nat) (xs : Nat → Int) (run : zRn zH2) (mi : Nat) : Nat → zCf zH2 → zCf zH2 → Prop
  | 0, c, c' => c = c'
  | n + 1, c, c' => ∃ c1, zS2 Ls xs run mi c c1 ∧ zRe2 Ls xs run mi n c1 c'
/-- from this place the method returns r, with that heap -/
def zFin (Ls : Nat) (xs : Nat → Int) (run : zRn zH2) (mi : Nat) (r : Option zAv) (g : zH2) (c : zCf zH2) : Prop := ∃ (n pc : Nat) (L : zLo) (st : List zAv), zRe2 Ls xs run mi n c (pc, L, st, g) ∧ zRet mi (pc, L, st, g) r
def zRu2 (spec : zRn zH2) : Nat → zRn zH2
  | 0 => fun _ _ _ _ _ => False
  | d + 1 => fun mi args g r g' => (7 ≤ d ∧ spec mi args g r g') ∨ (mi < 295 ∧ ¬ zmC mi = 14 ∧ (zFl args).length ≤ zmMax mi ∧ zFin 0 (fun _ => 0) (zRu2 spec d) mi r g' (0, zEntry args (zmMax mi), [], g))
def zOR (lO lA : Nat → Int → Nat) : Option zAv → Option zAv → Prop
  | none, none => True
  | some a, some b => zVR lO lA False a b
  | _, _ => False
def zRR (lO lA : Nat → Int → Nat) (run2 : zRn zH2) (run1 : zRn zH1) : Prop := ∀ k args2 args1 g r2 g' h, run2 k args2 g r2 g' → zSR lO lA False args2 args1 → zR2 lO lA g h → ∃ r1 h', run1 k args1 h r1 h' ∧ zOR lO lA r2 r1 ∧ zR2 lO lA g' h'
theorem zVR_sc {a b : zAv} (h : zVR lO lA False a b) : zVR lO lA sc a b := by
  rcases h with h | h | ⟨-, -, h⟩ | h | h | h
  · exact Or.inl h
  · exact Or.inr (Or.inl h)
  · exact h.elim
  · exact Or.inr (Or.inr (Or.inr (Or.inl h)))
  · exact Or.inr (Or.inr (Or.inr (Or.inr (Or.inl h))))
  · exact Or.inr (Or.inr (Or.inr (Or.inr (Or.inr h))))
theorem zSR_app {a a' b b' : List zAv} (h1 : zSR lO lA sc a a') (h2 : zSR lO lA sc b b') : zSR lO lA sc (a ++ b) (a' ++ b') := by
  induction a generalizing a' with
  | nil => rw [zSR_nil h1]; exact h2
  | cons x r ih =>
    obtain ⟨y, s, rfl, h3, h4⟩ := zSR_cons h1
    exact ⟨h3, ih h4⟩
theorem zSR_split {a b s1 : List zAv} (h : zSR lO lA sc (a ++ b) s1) : ∃ a' b', s1 = a' ++ b' ∧ zSR lO lA sc a a' ∧ zSR lO lA sc b b' := by
  induction a generalizing s1 with
  | nil => exact ⟨[], s1, rfl, trivial, h⟩
  | cons x r ih =>
    obtain ⟨y, s, rfl, h3, h4⟩ := zSR_cons h
    obtain ⟨a', b', rfl, h5, h6⟩ := ih h4
    exact ⟨y :: a', b', rfl, ⟨h3, h5⟩, h6⟩
theorem zSR_rev {a a' : List zAv} (h : zSR lO lA sc a a') : zSR lO lA sc a.reverse a'.reverse := by
  induction a generalizing a' with
  | nil => rw [zSR_nil h]; exact trivial
  | cons x r ih =>
    obtain ⟨y, s, rfl, h3, h4⟩ := zSR_cons h
    rw [List.reverse_cons, List.reverse_cons]
    exact zSR_app (ih h4) ⟨h3, trivial⟩
theorem zSR_no5 {a a' : List zAv} (h : zSR lO lA sc a a') (h5 : a.all (fun a => !Nat.beq a.1 5) = true) : zSR lO lA False a a' ∧ a'.all (fun a => !Nat.beq a.1 5) = true := by
  induction a generalizing a' with
  | nil => rw [zSR_nil h]; exact ⟨trivial, rfl⟩
  | cons x r ih =>
    obtain ⟨y, s, rfl, h3, h4⟩ := zSR_cons h
    rw [List.all_cons, Bool.and_eq_true] at h5
    obtain ⟨i1, i2⟩ := ih h4 h5.2
    have hx : ¬ x.1 = 5 := by
      intro q
      have := h5.1
      rw [q] at this
      cases this
    have key : zVR lO lA False x y ∧ (!Nat.beq y.1 5) = true := by
      rcases h3 with ⟨w, e⟩ | ⟨w, e⟩ | ⟨w, -⟩ | ⟨w, e⟩ | ⟨ci, w1, w2, w3, w4, e⟩ | ⟨ci, k, z, w1, w2, w3, w4, w5, w6, e⟩
      · exact ⟨Or.inl ⟨w, e⟩, by rw [e, w]; rfl⟩
      · exact ⟨Or.inr (Or.inl ⟨w, e⟩), by rw [e, w]; rfl⟩
      · exact absurd w hx
      · exact ⟨Or.inr (Or.inr (Or.inr (Or.inl ⟨w, e⟩))), by rw [e]; rfl⟩
      · exact ⟨Or.inr (Or.inr (Or.inr (Or.inr (Or.inl ⟨ci, w1, w2, w3, w4, e⟩)))), by rw [e]; rfl⟩
      · exact ⟨Or.inr (Or.inr (Or.inr (Or.inr (Or.inr ⟨ci, k, z, w1, w2, w3, w4, w5, w6, e⟩)))), by rw [e]; rfl⟩
    exact ⟨⟨key.1, i1⟩, by rw [List.all_cons, Bool.and_eq_true]; exact ⟨key.2, i2⟩⟩
theorem zSR_get {a a' : List zAv} {x : zAv} (h : zSR lO lA sc a a') (h0 : a[0]? = some x) : ∃ y, a'[0]? = some y ∧ zVR lO lA sc x y := by
  cases a with
  | nil => cases h0
  | cons z r =>
    cases h0
    obtain ⟨y, s, rfl, h3, h4⟩ := zSR_cons h
    exact ⟨y, rfl, h3⟩
theorem zSR_wt {r s : List zAv} (h : zSR lO lA sc r s) : zWt s = zWt r := by
  induction r generalizing s with
  | nil => rw [zSR_nil h]
  | cons x r ih =>
    obtain ⟨y, s', rfl, h3, h4⟩ := zSR_cons h
    unfold zWt
    rw [ih h4, (zVR_tag h3).2.1]
theorem z_par1 {run2 : zRn zH2} {run1 : zRn zH1} {mi : Nat} {c2 c2' : zCf zH2} {c1 : zCf zH1} (ap : zAp lO lA) (hrr : zRR lO lA run2 run1) (h : zCR lO lA sc c2 c1) (hs : zS2 Ls xs run2 mi c2 c2') : ∃ c1', (zStep (zHop1 Ls xs) zRc1 run1 mi c1 c1' ∨ c1 = c1') ∧ zCR lO lA sc c2' c1' := by
  rcases hs with ⟨i, len, ax, d, gs, q1, q2, q3, q4, q5, q6⟩ | ⟨i, ax, as1, rest, r, g1, q1, q2, q3, q4, q5, q6, q7, q8, q8s, q9, q10, q11, rfl⟩ | ⟨q1, q2, q3⟩
  · obtain ⟨gs1, c1', k1, k2, k3⟩ := z_par ap q4 h gs c2' q5 q6
    exact ⟨c1', Or.inl (Or.inl ⟨i, len, ax, d, gs1, by rw [h.1]; exact q1, q2, q3, k1, k2⟩), k3⟩
  · obtain ⟨h1, h2, h3, h4⟩ := h
    rw [q6] at h3
    obtain ⟨a', b', e1, e2, e3⟩ := zSR_split h3
    have e4 := zSR_rev e2
    rw [List.reverse_reverse] at e4
    obtain ⟨e5, e6⟩ := zSR_no5 e4 q10
    obtain ⟨r1, h', k1, k2, k3⟩ := hrr _ _ _ _ _ _ _ q11 e5 h4
    refine ⟨(c1.1 + 3, c1.2.1, r1.toList ++ b', h'), Or.inl (Or.inr (Or.inl ⟨i, ax, a'.reverse, b', r1, h', by rw [h1]; exact q1, q2, q3, q4, q5, by rw [List.reverse_reverse]; exact e1, by rw [zSR_len e4]; exact q7, fun x hx => ?_, fun x hx => ?_, by rw [zSR_wt e3]; exact q9, e6, k1, rfl⟩)), by rw [h1], h2, ?_, k3⟩
    · obtain ⟨a, p1, p2, p3⟩ := q8 x hx
      obtain ⟨y, p4, p5⟩ := zSR_get e4 p1
      obtain ⟨t, n⟩ := a
      simp only at p3
      subst p3
      obtain ⟨p6, p7, p8⟩ := zVR_obj p2 p5
      subst p8
      obtain ⟨f, p9, -⟩ := h4.1 _ n p2 p6 p7
      exact ⟨_, p4, p2, rfl, zNf (zmC ax.1), f, p9⟩
    · obtain ⟨a, p1, p2⟩ := q8s x hx
      obtain ⟨y, p4, p5⟩ := zSR_get e4 p1
      exact ⟨y, p4, by rw [(zVR_tag p5).2.2]; exact p2⟩
    · refine zSR_app ?_ e3
      cases r with
      | none =>
        cases r1 with
        | none => trivial
        | some y => exact k2.elim
      | some x =>
        cases r1 with
        | none => exact k2.elim
        | some y => exact ⟨zVR_sc k2, trivial⟩
  · obtain ⟨h1, h2, h3, h4⟩ := h
    refine ⟨c1, Or.inr rfl, ?_, ⟨?_, ?_⟩, ?_, ?_⟩
    · rw [q1]; exact h1
    · rw [q3.1]; exact h2.1
    · intro i a ha
      exact h2.2 i a (q3.2 i a ha)
    · rw [show c2'.2.2.1 = c2.2.2.1 from congrArg Prod.fst q2]; exact h3
    · rw [show c2'.2.2.2 = c2.2.2.2 from congrArg Prod.snd q2]; exact h4
theorem z_parN {run2 : zRn zH2} {run1 : zRn zH1} {mi n : Nat} {c2 c2' : zCf zH2} {c1 : zCf zH1} (ap : zAp lO lA) (hrr : zRR lO lA run2 run1) (h : zCR lO lA sc c2 c1) (hs : zRe2 Ls xs run2 mi n c2 c2') : ∃ n' c1', zReach (zHop1 Ls xs) zRc1 run1 mi n' c1 c1' ∧ zCR lO lA sc c2' c1' := by
  induction n generalizing c2 c1 with
  | zero => cases hs; exact ⟨0, c1, rfl, h⟩
  | succ n ih =>
    obtain ⟨c3, s1, s2⟩ := hs
    obtain ⟨c4, k1, k2⟩ := z_par1 ap hrr h s1
    obtain ⟨n', c1', k3, k4⟩ := ih k2 s2
    rcases k1 with k1 | rfl
    · exact ⟨n' + 1, c1', ⟨c4, k1, k3⟩, k4⟩
    · exact ⟨n', c1', k3, k4⟩
theorem zSR_fl {a a' : List zAv} (h : zSR lO lA sc a a') : (zFl a').length = (zFl a).length ∧ ∀ (n i : Nat) (x : zAv), zGl (zFl a ++ List.replicate n none) i = some x → ∃ y, zGl (zFl a' ++ List.replicate n none) i = some y ∧ zVR lO lA sc x y := by
  induction a generalizing a' with
  | nil =>
    rw [zSR_nil h]
    refine ⟨rfl, fun n i x hx => ?_⟩
    exfalso
    have := zEntry_mem [] i x hx
    cases this
  | cons z r ih =>
    obtain ⟨y, s, rfl, h3, h4⟩ := zSR_cons h
    obtain ⟨i1, i2⟩ := ih h4
    obtain ⟨t, v⟩ := z
    obtain ⟨t', v'⟩ := y
    have ht : Nat.beq t' 1 = Nat.beq t 1 := (zVR_tag h3).2.1
    unfold zFl
    rw [ht]
    cases Nat.beq t 1 with
    | true =>
      simp only
      refine ⟨by simp [i1], fun n i x hx => ?_⟩
      match i, hx with
      | 0, hx => cases hx; exact ⟨_, rfl, h3⟩
      | 1, hx => cases hx
      | i + 2, hx => exact i2 n i x hx
    | false =>
      simp only
      refine ⟨by simp [i1], fun n i x hx => ?_⟩
      match i, hx with
      | 0, hx => cases hx; exact ⟨_, rfl, h3⟩
      | i + 1, hx => exact i2 n i x hx
theorem z_parR {spec2 : zRn zH2} {spec1 : zRn zH1} (ap : zAp lO lA) (hsp : zRR lO lA spec2 spec1) : ∀ d, zRR lO lA (zRu2 spec2 d) (zRun (zHop1 0 (fun _ => 0)) zRc1 spec1 d) := by
  intro d
  induction d with
  | zero => intro k args2 args1 g r2 g' h q; exact q.elim
  | succ d ih =>
    intro k args2 args1 g r2 g' h q hS hR
    rcases q with ⟨q1, q2⟩ | ⟨hk, h14, hfl, n, pc, L, st, hre, hret⟩
    · obtain ⟨r1, h', k1, k2⟩ := hsp _ _ _ _ _ _ _ q2 hS hR
      exact ⟨r1, h', Or.inl ⟨q1, k1⟩, k2⟩
    · obtain ⟨f1, f2⟩ := zSR_fl hS
      have hC : zCR lO lA False (0, zEntry args2 (zmMax k), [], g) (0, zEntry args1 (zmMax k), [], h) := by
        refine ⟨rfl, ⟨?_, fun i a ha => ?_⟩, trivial, hR⟩
        · unfold zEntry
          simp only [List.length_append, List.length_replicate, f1]
        · unfold zEntry at ha ⊢
          rw [f1]
          exact f2 _ i a ha
      obtain ⟨n', c1', k1, k2⟩ := z_parN ap ih hC hre
      obtain ⟨pc1, L1, st1, h1⟩ := c1'
      obtain ⟨e1, e2, e3, e4⟩ := k2
      dsimp only at e1 e2 e3 e4
      subst e1
      rcases hret with ⟨w1, v, w2, w3, w4⟩ | ⟨w1, v, w2, w3, w4⟩ | ⟨w1, w2, w3, w4⟩
      · dsimp only at w1 w2
        subst w2
        subst w3
        obtain ⟨b0, s0, p0, p1, p2⟩ := zSR_cons e3
        have := zVR0 p1; subst this
        have := zSR_nil p2; subst this
        exact ⟨some (0, v), h1, Or.inr ⟨hk, h14, by rw [f1]; exact hfl, n', pc1, L1, st1, k1, Or.inl ⟨w1, v, p0, rfl, w4⟩⟩, zVR_i, e4⟩
      · dsimp only at w1 w2
        subst w2
        subst w3
        obtain ⟨b0, s0, p0, p1, p2⟩ := zSR_cons e3
        have := zVR1 p1; subst this
        have := zSR_nil p2; subst this
        exact ⟨some (1, v), h1, Or.inr ⟨hk, h14, by rw [f1]; exact hfl, n', pc1, L1, st1, k1, Or.inr (Or.inl ⟨w1, v, p0, rfl, w4⟩)⟩, zVR_l, e4⟩
      · dsimp only at w1 w2
        subst w2
        subst w3
        have := zSR_nil e3; subst this
        exact ⟨none, h1, Or.inr ⟨hk, h14, by rw [f1]; exact hfl, n', pc1, L1, [], k1, Or.inr (Or.inr ⟨w1, rfl, rfl, w4⟩)⟩, trivial, e4⟩
end ZV
