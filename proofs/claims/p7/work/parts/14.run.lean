/-! Runs of the abstract machine: places of one method, calls by depth. -/
def zFl : List zAv → zLo
  | [] => []
  | (t, x) :: r => match Nat.beq t 1 with
    | true => some (t, x) :: none :: zFl r
    | false => some (t, x) :: zFl r
def zEntry (args : List zAv) (n : Nat) : zLo := zFl args ++ List.replicate (n - (zFl args).length) none
def zNa (i : Instr) (k : Nat) : Nat := match i with
  | .invokestatic _ => zmN k
  | _ => zmN k + 1
def zIsCall (i : Instr) (k : Nat) : Bool := match i with
  | .invokestatic _ => true
  | .invokevirtual _ => true
  | .invokespecial _ => true
  | _ => false
def zSub (L L' : zLo) : Prop := L.length = L'.length ∧ ∀ (i : Nat) (a : zAv), zGl L i = some a → zGl L' i = some a
/-- words of a stack -/
def zWt : List zAv → Nat
  | [] => 0
  | a :: r => (match zEq1 a.1 with
    | true => 2
    | false => 1) + zWt r
section ZR
variable {σ : Type}
abbrev zRn (σ : Type) : Type := Nat → List zAv → σ → Option zAv → σ → Prop
abbrev zRc (σ : Type) : Type := σ → zAv → Nat → Prop
def zStepX (hop : zHop σ) (mi : Nat) (c c' : zCf σ) : Prop := ∃ (i : Instr) (len : Nat) (ax : zAx) (d : Int) (gs : List Prop), decode (zmCode mi) c.1 = .ok (i, len) ∧ zLnOk i len = true ∧ zAxOk (zmC mi) (zIsI mi) i ax = true ∧ zX hop i len ax d c = some (gs, c') ∧ zAll gs
def zStepC (rc : zRc σ) (run : zRn σ) (mi : Nat) (c c' : zCf σ) : Prop := ∃ (i : Instr) (ax : zAx) (args rest : List zAv) (r : Option zAv) (h1 : σ), decode (zmCode mi) c.1 = .ok (i, 3) ∧ zIsCall i ax.1 = true ∧ zAxOk (zmC mi) (zIsI mi) i ax = true ∧ ax.1 < 295 ∧ ¬ zmC ax.1 = 14 ∧ c.2.2.1 = args.reverse ++ rest ∧ args.length = zNa i ax.1 ∧ (∀ x, i = .invokevirtual x → ∃ a, args[0]? = some a ∧ rc c.2.2.2 a (zmC ax.1)) ∧ (∀ x, i = .invokespecial x → ∃ a, args[0]? = some a ∧ zGe2 a.1 = true) ∧ Nat.ble (zWt rest) 8 = true ∧ args.all (fun a => !Nat.beq a.1 5) = true ∧ run ax.1 args c.2.2.2 r h1 ∧ c' = (c.1 + 3, c.2.1, r.toList ++ rest, h1)
def zStepF (c c' : zCf σ) : Prop := c'.1 = c.1 ∧ c'.2.2 = c.2.2 ∧ zSub c'.2.1 c.2.1
def zStep (hop : zHop σ) (rc : zRc σ) (run : zRn σ) (mi : Nat) (c c' : zCf σ) : Prop := zStepX hop mi c c' ∨ zStepC rc run mi c c' ∨ zStepF c c'
def zReach (hop : zHop σ) (rc : zRc σ) (run : zRn σ) (mi : Nat) : Nat → zCf σ → zCf σ → Prop
  | 0, c, c' => c = c'
  | n + 1, c, c' => ∃ c1, zStep hop rc run mi c c1 ∧ zReach hop rc run mi n c1 c'
def zRet (mi : Nat) (c : zCf σ) (r : Option zAv) : Prop :=
  (decode (zmCode mi) c.1 = .ok (.ireturn, 1) ∧ ∃ v, c.2.2.1 = [(0, v)] ∧ r = some (0, v) ∧ (zmRet mi = some .int ∨ (zmRet mi = some .boolean ∧ (v = 0 ∨ v = 1)))) ∨
  (decode (zmCode mi) c.1 = .ok (.lreturn, 1) ∧ ∃ v, c.2.2.1 = [(1, v)] ∧ r = some (1, v) ∧ zmRet mi = some .long) ∨
  (decode (zmCode mi) c.1 = .ok (.return_, 1) ∧ c.2.2.1 = [] ∧ r = none ∧ zmRet mi = none)
/-- spec: methods that are told, not run -/
def zRun (hop : zHop σ) (rc : zRc σ) (spec : zRn σ) : Nat → zRn σ
  | 0 => fun _ _ _ _ _ => False
  | d + 1 => fun mi args h r h' => (7 ≤ d ∧ spec mi args h r h') ∨ (mi < 295 ∧ ¬ zmC mi = 14 ∧ (zFl args).length ≤ zmMax mi ∧ ∃ (n pc : Nat) (L : zLo) (st : List zAv), zReach hop rc (zRun hop rc spec d) mi n (0, zEntry args (zmMax mi), [], h) (pc, L, st, h') ∧ zRet mi (pc, L, st, h') r)
end ZR
theorem zl_set {h : zH1} {k : Nat} {c' : zCe} : (h.set k c').length = h.length := List.length_set
theorem zX_mono {Ls : Nat} {xs : Nat → Int} {i : Instr} {ax : zAx} {st st' : List zAv} {h h' : zH1} {gs : List Prop} (hE : zHop1 Ls xs i ax st h = some (gs, st', h')) : h.length ≤ h'.length ∧ zSl h ≤ zSl h' := by
  have sA : ∀ {kd t : Nat} {g : Int → List Prop}, zStA kd t g st h = some (gs, st', h') → h.length ≤ h'.length ∧ zSl h ≤ zSl h' := by
    intro kd t g hE
    unfold zStA at hE
    split at hE
    · split at hE
      · rename_i e1
        split at hE
        · cases hE
          refine ⟨by rw [zl_set]; exact Nat.le_refl _, ?_⟩
          exact Nat.le_of_eq (Eq.symm (zSl_set e1 rfl))
        · cases hE
      · cases hE
    · cases hE
  have lA : ∀ {kd t : Nat} {b : Bool}, zLdA kd t b st h = some (gs, st', h') → h.length ≤ h'.length ∧ zSl h ≤ zSl h' := by
    intro kd t b hE
    unfold zLdA at hE
    split at hE
    · split at hE
      · split at hE
        · cases hE
          exact ⟨Nat.le_refl _, Nat.le_refl _⟩
        · cases hE
      · cases hE
    · cases hE
  cases i
  case getfield x =>
    simp only [zHop1] at hE
    repeat' split at hE
    all_goals first | (cases hE; exact ⟨Nat.le_refl _, Nat.le_refl _⟩) | cases hE
  case putfield x =>
    simp only [zHop1] at hE
    split at hE
    · split at hE
      · rename_i e1
        split at hE
        · cases hE
          refine ⟨by rw [zl_set]; exact Nat.le_refl _, ?_⟩
          exact Nat.le_of_eq (Eq.symm (zSl_set e1 rfl))
        · cases hE
      · cases hE
    · cases hE
  case iaload =>
    simp only [zHop1] at hE
    split at hE
    · split at hE
      · cases hE; exact ⟨Nat.le_refl _, Nat.le_refl _⟩
      · cases hE
    · exact lA hE
  case laload => exact lA (kd := 21) (t := 1) (b := false) hE
  case baload => exact lA (kd := 22) (t := 0) (b := false) hE
  case aaload =>
    simp only [zHop1] at hE
    split at hE
    · exact lA hE
    · cases hE
  case iastore => exact sA hE
  case lastore => exact sA hE
  case bastore => exact sA hE
  case aastore =>
    simp only [zHop1] at hE
    split at hE
    · split at hE
      · split at hE
        · exact sA hE
        · cases hE
      · cases hE
    · cases hE
  case arraylength =>
    simp only [zHop1] at hE
    repeat' split at hE
    all_goals first | (cases hE; exact ⟨Nat.le_refl _, Nat.le_refl _⟩) | cases hE
  case new x =>
    cases hE
    rw [zSl_app]
    simp
  case newarray ty =>
    simp only [zHop1] at hE
    split at hE
    · split at hE
      · cases hE
        rw [zSl_app]
        simp
      · cases hE
    · cases hE
  case anewarray x =>
    simp only [zHop1] at hE
    split at hE
    · split at hE
      · cases hE
        rw [zSl_app]
        simp
      · cases hE
    · cases hE
  case invokestatic x =>
    simp only [zHop1] at hE
    split at hE
    · split at hE
      · split at hE
        · rename_i e0 e1
          split at hE
          · cases hE
            refine ⟨by rw [zl_set]; exact Nat.le_refl _, ?_⟩
            exact Nat.le_of_eq (Eq.symm (zSl_set e1 rfl))
          · cases hE
        · cases hE
      · cases hE
    all_goals (repeat' split at hE)
    all_goals first | (cases hE; exact ⟨Nat.le_refl _, Nat.le_refl _⟩) | cases hE
  case invokespecial x =>
    simp only [zHop1] at hE
    repeat' split at hE
    all_goals first | (cases hE; exact ⟨Nat.le_refl _, Nat.le_refl _⟩) | cases hE
  all_goals (have q : (none : Option (List Prop × List zAv × zH1)) = some (gs, st', h') := hE; cases q)
/-- all but the heap's instructions leave the heap -/
theorem zX_heap {σ : Type} {hop : zHop σ} {i : Instr} {len : Nat} {ax : zAx} {d : Int} {c c' : zCf σ} {gs : List Prop} (hE : zX hop i len ax d c = some (gs, c')) : c'.2.2.2 = c.2.2.2 ∨ ∃ (n : Nat) (st' : List zAv), hop i ax c.2.2.1 c.2.2.2 = some (gs, st', c'.2.2.2) ∧ c' = (c.1 + n, c.2.1, st', c'.2.2.2) := by
  obtain ⟨pc, L, st, h⟩ := c
  have hp : ∀ {n : Nat}, zHp hop i n ax (pc, L, st, h) = some (gs, c') → ∃ (n : Nat) (st' : List zAv), hop i ax st h = some (gs, st', c'.2.2.2) ∧ c' = (pc + n, L, st', c'.2.2.2) := by
    intro n hE
    unfold zHp at hE
    simp only at hE
    split at hE
    · rename_i e1
      cases hE
      exact ⟨n, _, e1, rfl⟩
    · cases hE
  have br : ∀ {g : Prop} {off d : Int} {r : List zAv}, zBr g off d r (pc, L, st, h) = some (gs, c') → c'.2.2.2 = h := by
    intro g off d r hE
    unfold zBr at hE
    repeat' split at hE
    all_goals first | (cases hE; rfl) | cases hE
  cases i
  case getfield x => exact Or.inr (hp hE)
  case putfield x => exact Or.inr (hp hE)
  case iaload => exact Or.inr (hp hE)
  case iastore => exact Or.inr (hp hE)
  case laload => exact Or.inr (hp hE)
  case lastore => exact Or.inr (hp hE)
  case baload => exact Or.inr (hp hE)
  case bastore => exact Or.inr (hp hE)
  case aaload => exact Or.inr (hp hE)
  case aastore => exact Or.inr (hp hE)
  case arraylength => exact Or.inr (hp hE)
  case new x => exact Or.inr (hp hE)
  case newarray x => exact Or.inr (hp hE)
  case anewarray x => exact Or.inr (hp hE)
  case invokestatic x => exact Or.inr (hp hE)
  case invokespecial x => exact Or.inr (hp hE)
  case ifCond k off =>
    left
    simp only [zX, zIf] at hE
    split at hE
    · exact br hE
    · cases hE
  case if_icmp k off =>
    left
    simp only [zX, zIc] at hE
    split at hE
    · exact br hE
    · cases hE
  all_goals left
  all_goals simp only [zX, zLd, zSto, zStoL, zCk, zPu, zB0, zB0d, zB1, zB1d, zB10, zCp, zU, zDup, zPop, zDup2, zIi, zGo, zTs, zLs] at hE
  all_goals (repeat' split at hE)
  all_goals first | (cases hE; rfl) | cases hE
