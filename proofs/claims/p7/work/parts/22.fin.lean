/-! How a run over the second heap is shown: blocks, calls, returns. -/
abbrev zRow : Type := Nat × Instr × Nat × zAx
def zRk (mi : Nat) (b : List zRow) : Bool := b.all (fun q => (match decode (zmCode mi) q.1 with
  | .ok p => decide (p = (q.2.1, q.2.2.1))
  | .error _ => false) && (zLnOk q.2.1 q.2.2.1 && (zAxOk (zmC mi) (zIsI mi) q.2.1 q.2.2.2 && zAx2 q.2.1 q.2.2.2)))
def zBk (d : Int) : List zRow → zCf zH2 → zRs zH2
  | [], c => some ([], c)
  | (pc, i, len, ax) :: b, c => match Nat.beq pc c.1 with
    | true => match zX (zHop2 0 (fun _ => 0)) i len ax d c with
      | some (gs, c1) => match zBk d b c1 with
        | some (gs', c2) => some (gs ++ gs', c2)
        | none => none
      | none => none
    | false => none
def zMk : List Bool → zLo → zLo
  | b :: m, a :: L => (match b with
    | true => a
    | false => none) :: zMk m L
  | _, L => L
def zBm (m : List Bool) (r : zRs zH2) : zRs zH2 := match r with
  | some (gs, c) => some (gs, (c.1, zMk m c.2.1, c.2.2.1, c.2.2.2))
  | none => none
theorem zMk_sub {m : List Bool} {L : zLo} : zSub (zMk m L) L := by
  induction m generalizing L with
  | nil => unfold zMk; exact ⟨rfl, fun i a h => h⟩
  | cons b m ih =>
    cases L with
    | nil => unfold zMk; exact ⟨rfl, fun i a h => h⟩
    | cons x r =>
      unfold zMk
      refine ⟨by simp only [List.length_cons, ih.1], fun i a h => ?_⟩
      cases i with
      | zero =>
        cases b with
        | true => exact h
        | false => cases h
      | succ i => exact ih.2 i a h
section ZW
variable {run : zRn zH2} {mi : Nat} {r : Option zAv} {g0 : zH2} {spec : zRn zH2}
theorem zF_1 {c c' : zCf zH2} (h1 : zS2 0 (fun _ => 0) run mi c c') (h2 : zFin 0 (fun _ => 0) run mi r g0 c') : zFin 0 (fun _ => 0) run mi r g0 c := by
  obtain ⟨n, pc, L, st, h3, h4⟩ := h2
  exact ⟨n + 1, pc, L, st, ⟨c', h1, h3⟩, h4⟩
theorem zF_b {d : Int} {b : List zRow} {c c' : zCf zH2} {gs : List Prop} (hk : zRk mi b = true) (e : zBk d b c = some (gs, c')) (hg : zAll gs) (h : zFin 0 (fun _ => 0) run mi r g0 c') : zFin 0 (fun _ => 0) run mi r g0 c := by
  induction b generalizing c gs with
  | nil => cases e; exact h
  | cons q b ih =>
    obtain ⟨pc, i, len, ax⟩ := q
    unfold zRk at hk
    rw [List.all_cons, Bool.and_eq_true] at hk
    obtain ⟨k1, k2⟩ := hk
    simp only [Bool.and_eq_true] at k1
    obtain ⟨k3, k4, k5, k6⟩ := k1
    unfold zBk at e
    split at e
    · rename_i e1
      have e1 := Nat.eq_of_beq_eq_true e1
      subst e1
      split at e
      · rename_i gs1 c1 e2
        split at e
        · rename_i gs2 c2 e3
          cases e
          obtain ⟨g1, g2⟩ := zAll_app.mp hg
          refine zF_1 (Or.inl ⟨i, len, ax, d, gs1, ?_, k4, k5, k6, e2, g1⟩) (ih k2 e3 g2)
          split at k3
          · rename_i p e4
            rw [e4, of_decide_eq_true k3]
          · cases k3
        · cases e
      · cases e
    · cases e
/-- a block, and locals forgotten after it -/
theorem zF_blk {m : List Bool} {d : Int} {b : List zRow} {c c' : zCf zH2} {gs : List Prop} (hk : zRk mi b = true) (e : zBm m (zBk d b c) = some (gs, c')) (hg : zAll gs) (h : zFin 0 (fun _ => 0) run mi r g0 c') : zFin 0 (fun _ => 0) run mi r g0 c := by
  cases e1 : zBk d b c with
  | none => rw [e1] at e; cases e
  | some q =>
    obtain ⟨gs1, c1⟩ := q
    rw [e1] at e
    cases e
    exact zF_b hk e1 hg (zF_1 (c := c1) (c' := (c1.1, zMk m c1.2.1, c1.2.2.1, c1.2.2.2)) (Or.inr (Or.inr ⟨rfl, rfl, zMk_sub⟩)) h)
def zCk1 (mi pc : Nat) (i : Instr) (k cl n : Nat) : Bool := (match decode (zmCode mi) pc with
  | .ok p => decide (p = (i, 3))
  | .error _ => false) && (zIsCall i k && (zAxOk (zmC mi) (zIsI mi) i (k, 0, 0) && (Nat.blt k 295 && (!Nat.beq (zmC k) 14 && (Nat.beq (zmC k) cl && Nat.beq n (zNa i k))))))
def zCk2 (i : Instr) (cl : Nat) (args rest : List zAv) : Bool := (match i with
  | .invokevirtual _ => (match args with
    | a :: _ => Nat.blt cl 13 && Nat.beq a.1 (10 + cl)
    | [] => false)
  | .invokespecial _ => (match args with
    | a :: _ => zGe2 a.1
    | [] => false)
  | _ => true) && (Nat.ble (zWt rest) 8 && args.all (fun a => !Nat.beq a.1 5))
theorem zF_call {pc k cl n : Nat} {i : Instr} {L : zLo} {args rest st st' : List zAv} {g g1 : zH2} {r1 : Option zAv} (hk : zCk1 mi pc i k cl n = true) (h2 : zCk2 i cl args rest = true) (hn : args.length = n) (hs : st = args.reverse ++ rest) (hs' : st' = r1.toList ++ rest) (hr : run k args g r1 g1) (h : zFin 0 (fun _ => 0) run mi r g0 (pc + 3, L, st', g1)) : zFin 0 (fun _ => 0) run mi r g0 (pc, L, st, g) := by
  unfold zCk1 at hk
  simp only [Bool.and_eq_true] at hk
  obtain ⟨k1, k2, k3, k4, k5, k6, k7⟩ := hk
  unfold zCk2 at h2
  simp only [Bool.and_eq_true] at h2
  obtain ⟨j1, j2, j3⟩ := h2
  have k6 := Nat.eq_of_beq_eq_true k6
  have k7 := Nat.eq_of_beq_eq_true k7
  have k5 : ¬ zmC k = 14 := by
    intro q
    rw [q] at k5
    cases k5
  subst hs'
  refine zF_1 (Or.inr (Or.inl ⟨i, (k, 0, 0), args, rest, r1, g1, ?_, k2, k3, Nat.le_of_ble_eq_true k4, k5, hs, by rw [hn]; exact k7, fun x hx => ?_, fun x hx => ?_, j2, j3, hr, rfl⟩)) h
  · split at k1
    · rename_i p e4
      rw [e4, of_decide_eq_true k1]
    · cases k1
  · subst hx
    cases args with
    | nil => cases j1
    | cons a as =>
      simp only [Bool.and_eq_true] at j1
      have j4 := Nat.le_of_ble_eq_true j1.1
      have j5 := Nat.eq_of_beq_eq_true j1.2
      refine ⟨a, rfl, ?_⟩
      unfold zRc2
      dsimp only
      rw [k6]
      exact ⟨j4, j5⟩
  · subst hx
    cases args with
    | nil => cases j1
    | cons a as => exact ⟨a, rfl, j1⟩
def zRe1 (mi pc : Nat) (i : Instr) (ty : Option FieldType) : Bool := (match decode (zmCode mi) pc with
  | .ok p => decide (p = (i, 1))
  | .error _ => false) && decide (zmRet mi = ty)
theorem zRe1_s {pc : Nat} {i : Instr} {ty : Option FieldType} (h : zRe1 mi pc i ty = true) : decode (zmCode mi) pc = .ok (i, 1) ∧ zmRet mi = ty := by
  unfold zRe1 at h
  rw [Bool.and_eq_true] at h
  obtain ⟨h1, h2⟩ := h
  refine ⟨?_, of_decide_eq_true h2⟩
  split at h1
  · rename_i p e4
    rw [e4, of_decide_eq_true h1]
  · cases h1
theorem zF_ri {pc : Nat} {L : zLo} {v : Int} (hk : zRe1 mi pc .ireturn (some .int) = true) : zFin 0 (fun _ => 0) run mi (some (0, v)) g0 (pc, L, [(0, v)], g0) := by
  obtain ⟨h1, h2⟩ := zRe1_s hk
  exact ⟨0, pc, L, [(0, v)], rfl, Or.inl ⟨h1, v, rfl, rfl, Or.inl h2⟩⟩
theorem zF_rb {pc : Nat} {L : zLo} {v : Int} (hk : zRe1 mi pc .ireturn (some .boolean) = true) (hv : v = 0 ∨ v = 1) : zFin 0 (fun _ => 0) run mi (some (0, v)) g0 (pc, L, [(0, v)], g0) := by
  obtain ⟨h1, h2⟩ := zRe1_s hk
  exact ⟨0, pc, L, [(0, v)], rfl, Or.inl ⟨h1, v, rfl, rfl, Or.inr ⟨h2, hv⟩⟩⟩
theorem zF_rl {pc : Nat} {L : zLo} {v : Int} (hk : zRe1 mi pc .lreturn (some .long) = true) : zFin 0 (fun _ => 0) run mi (some (1, v)) g0 (pc, L, [(1, v)], g0) := by
  obtain ⟨h1, h2⟩ := zRe1_s hk
  exact ⟨0, pc, L, [(1, v)], rfl, Or.inr (Or.inl ⟨h1, v, rfl, rfl, h2⟩)⟩
theorem zF_rv {pc : Nat} {L : zLo} (hk : zRe1 mi pc .return_ none = true) : zFin 0 (fun _ => 0) run mi none g0 (pc, L, [], g0) := by
  obtain ⟨h1, h2⟩ := zRe1_s hk
  exact ⟨0, pc, L, [], rfl, Or.inr (Or.inr ⟨h1, rfl, rfl, h2⟩)⟩
def zIn1 (mi mx : Nat) : Bool := Nat.blt mi 295 && (!Nat.beq (zmC mi) 14 && Nat.beq (zmMax mi) mx)
theorem zF_in {D d mx : Nat} {args : List zAv} {L : zLo} {g : zH2} (hk : zIn1 mi mx = true) (hl : Nat.ble (zFl args).length mx = true) (he : zEntry args mx = L) (hd : D + 1 ≤ d) (H : ∀ d', D ≤ d' → zFin 0 (fun _ => 0) (zRu2 spec d') mi r g0 (0, L, [], g)) : zRu2 spec d mi args g r g0 := by
  unfold zIn1 at hk
  simp only [Bool.and_eq_true] at hk
  obtain ⟨k1, k2, k3⟩ := hk
  have k3 := Nat.eq_of_beq_eq_true k3
  subst k3
  subst he
  match d, hd with
  | d + 1, hd =>
    refine Or.inr ⟨Nat.le_of_ble_eq_true k1, ?_, Nat.le_of_ble_eq_true hl, H d (Nat.le_of_succ_le_succ hd)⟩
    intro q
    rw [q] at k2
    cases k2
end ZW
/-- a guard -/
def zG {β : Type} (p : Prop) [Decidable p] (t : Option β) : Option β := if p then t else none
theorem zG_s {β : Type} {p : Prop} [Decidable p] {t : Option β} {v : β} (h : zG p t = some v) : p ∧ t = some v := by
  unfold zG at h
  split at h
  · rename_i q; exact ⟨q, h⟩
  · cases h
theorem zI_s {β : Type} {p : Prop} [Decidable p] {t e : Option β} {v : β} (h : (if p then t else e) = some v) : (p ∧ t = some v) ∨ (¬ p ∧ e = some v) := by
  split at h
  · rename_i q; exact Or.inl ⟨q, h⟩
  · rename_i q; exact Or.inr ⟨q, h⟩
theorem zB_s {α β : Type} {t : Option α} {k : α → Option β} {v : β} (h : t.bind k = some v) : ∃ w, t = some w ∧ k w = some v := by
  cases t with
  | none => cases h
  | some w => exact ⟨w, rfl, h⟩
theorem z_neg {p : Prop} [Decidable p] {β : Type} {a b : Option β} (h : p) : (if p then a else b) = a := if_pos h
