/-! Closed runs over the first heap: an evaluator, for the constructors. -/
def zEd (i : Instr) (st : List zAv) : Int := match i with
  | .if_icmp .ge _ => match st with
    | (_, y) :: (_, x) :: _ => if y ≤ x then 1 else 0
    | _ => 0
  | _ => 0
def zEh (h : zH1) (a i : Int) : Bool := match h[a.toNat]? with
  | some (_, n, _) => decide (0 ≤ i) && decide (i < (n : Int))
  | none => false
def zEg (i : Instr) (ax : zAx) (st : List zAv) (h : zH1) : Bool := match i with
  | .aload_n _ => true
  | .iload_n _ => true
  | .istore_n _ => true
  | .iconst _ => true
  | .bipush _ => true
  | .sipush _ => true
  | .iinc _ _ => true
  | .goto _ => true
  | .dup => true
  | .new _ => true
  | .invokespecial _ => true
  | .if_icmp .ge _ => true
  | .newarray _ => match st with
    | (_, n) :: _ => decide (0 ≤ n) && decide (n ≤ 100000)
    | _ => false
  | .anewarray _ => match st with
    | (_, n) :: _ => decide (0 ≤ n) && decide (n ≤ 100000)
    | _ => false
  | .iastore => match st with
    | _ :: (_, j) :: (_, a) :: _ => zEh h a j
    | _ => false
  | .aastore => match st with
    | _ :: (_, j) :: (_, a) :: _ => zEh h a j
    | _ => false
  | .putfield _ => match zIsB ax.1 ax.2.1 with
    | false => true
    | true => match st with
      | (_, v) :: _ => decide (v = 0) || decide (v = 1)
      | _ => false
  | .getfield _ => match st with
    | (_, o) :: _ => match h[o.toNat]? with
      | some (_, _, f) => decide (0 ≤ f ax.2.1)
      | none => false
    | _ => false
  | _ => false
theorem zE_ld {ok : Nat → Bool} {n len : Nat} {c c' : zCf zH1} {gs : List Prop} (h : zLd ok n len c = some (gs, c')) : zAll gs := by
  unfold zLd at h
  split at h
  · split at h
    · cases h; exact True.intro
    · cases h
  · cases h
theorem zE_sto {ok : Nat → Bool} {n len : Nat} {c c' : zCf zH1} {gs : List Prop} (h : zSto ok n len c = some (gs, c')) : zAll gs := by
  unfold zSto at h
  split at h
  · split at h
    · cases h; exact True.intro
    · cases h
  · cases h
theorem zE_ck {b : Bool} {v : zAv} {len : Nat} {c c' : zCf zH1} {gs : List Prop} (h : zCk b (zPu v len c) = some (gs, c')) : zAll gs := by
  unfold zCk zPu at h
  split at h
  · cases h; exact True.intro
  · cases h
theorem zE_ii {n : Nat} {k : Int} {c c' : zCf zH1} {gs : List Prop} (h : zIi n k c = some (gs, c')) : zAll gs := by
  unfold zIi at h
  split at h
  · cases h; exact True.intro
  · cases h
theorem zE_go {k : Int} {c c' : zCf zH1} {gs : List Prop} (h : zGo k c = some (gs, c')) : zAll gs := by
  unfold zGo at h
  split at h
  · cases h; exact True.intro
  · cases h
theorem zE_dup {c c' : zCf zH1} {gs : List Prop} (h : zDup c = some (gs, c')) : zAll gs := by
  unfold zDup at h
  split at h
  · split at h
    · cases h
    · cases h; exact True.intro
  · cases h
theorem zE_hp {i : Instr} {len : Nat} {ax : zAx} {c c' : zCf zH1} {gs : List Prop} (h : zHp (zHop1 0 (fun _ => 0)) i len ax c = some (gs, c')) : ∃ st h', zHop1 0 (fun _ => 0) i ax c.2.2.1 c.2.2.2 = some (gs, st, h') := by
  unfold zHp at h
  split at h
  · rename_i gs1 st h' e
    cases h
    exact ⟨st, h', e⟩
  · cases h
theorem zE_st {kd t : Nat} {st st' : List zAv} {h h' : zH1} {gs : List Prop} {u : zAv} {j a : Int} {t1 t2 : Nat} {r : List zAv} (hs : st = u :: (t1, j) :: (t2, a) :: r) (hg : zEh h a j = true) (e : zStA kd t (fun _ => []) st h = some (gs, st', h')) : zAll gs := by
  subst hs
  unfold zStA at e
  split at e
  · rename_i u0 v0 i0 a0 r0 hq
    cases hq
    split at e
    · rename_i k n f hc
      split at e
      · cases e
        unfold zEh at hg
        rw [hc] at hg
        simp only [Bool.and_eq_true, decide_eq_true_eq] at hg
        exact ⟨hg, True.intro⟩
      · cases e
    · cases e
  · cases e
theorem zE_g {i : Instr} {len : Nat} {ax : zAx} {c c' : zCf zH1} {gs : List Prop} (hg : zEg i ax c.2.2.1 c.2.2.2 = true) (h : zX (zHop1 0 (fun _ => 0)) i len ax (zEd i c.2.2.1) c = some (gs, c')) : zAll gs := by
  obtain ⟨pc, L, st, hp⟩ := c
  dsimp only at hg h
  unfold zEg at hg
  split at hg
  · exact zE_ld h
  · exact zE_ld h
  · exact zE_sto h
  · exact zE_ck h
  · exact zE_ck h
  · exact zE_ck h
  · exact zE_ii h
  · exact zE_go h
  · exact zE_dup h
  · rename_i ix
    obtain ⟨st', h', e⟩ := zE_hp (i := .new ix) (len := 3) (ax := ax) (c := (pc, L, st, hp)) h
    cases e; exact True.intro
  · obtain ⟨st', h', e⟩ := zE_hp h
    unfold zHop1 at e
    dsimp only at e
    split at e
    · split at e
      · split at e
        · cases e; exact True.intro
        · cases e
      · cases e
    · cases e
  · unfold zX zIc at h
    dsimp only at h
    split at h
    · rename_i st0 y x r
      unfold zBr zEd at h
      dsimp only at h
      split at h
      · split at h
        · rename_i hd
          cases h
          have hd2 : (if y ≤ x then (1 : Int) else 0) = 1 := of_decide_eq_true hd
          by_cases q : y ≤ x
          · exact ⟨q, True.intro⟩
          · rw [if_neg q] at hd2
            exact absurd hd2 (by decide)
        · rename_i hd
          cases h
          have hd2 : ¬ (if y ≤ x then (1 : Int) else 0) = 1 := of_decide_eq_false hd
          by_cases q : y ≤ x
          · rw [if_pos q] at hd2
            exact absurd rfl hd2
          · exact ⟨q, True.intro⟩
      · cases h
    · cases h
  · obtain ⟨st', h', e⟩ := zE_hp h
    split at hg
    · rename_i t n r
      simp only [Bool.and_eq_true, decide_eq_true_eq] at hg
      unfold zHop1 at e
      dsimp only at e
      split at e
      · split at e
        · rename_i hq
          cases hq
          cases e
          exact ⟨hg, True.intro⟩
        · cases e
      · cases e
    · cases hg
  · obtain ⟨st', h', e⟩ := zE_hp h
    split at hg
    · rename_i t n r
      simp only [Bool.and_eq_true, decide_eq_true_eq] at hg
      unfold zHop1 at e
      dsimp only at e
      split at e
      · split at e
        · rename_i hq
          cases hq
          cases e
          exact ⟨hg, True.intro⟩
        · cases e
      · cases e
    · cases hg
  · obtain ⟨st', h', e⟩ := zE_hp h
    split at hg
    · exact zE_st rfl hg e
    · cases hg
  · obtain ⟨st', h', e⟩ := zE_hp h
    split at hg
    · unfold zHop1 at e
      dsimp only at e
      split at e
      · split at e
        · split at e
          · exact zE_st rfl hg e
          · cases e
        · cases e
      · cases e
    · cases hg
  · obtain ⟨st', h', e⟩ := zE_hp h
    unfold zHop1 at e
    dsimp only at e
    split at e
    · rename_i t v o r
      split at e
      · split at e
        · cases e
          split at hg
          · rename_i q; rw [q]; exact True.intro
          · rename_i q
            rw [q]
            simp only [Bool.or_eq_true, decide_eq_true_eq] at hg
            exact ⟨hg, True.intro⟩
        · cases e
      · cases e
    · cases e
  · obtain ⟨st', h', e⟩ := zE_hp h
    unfold zHop1 at e
    dsimp only at e
    split at e
    · rename_i o r
      dsimp only at hg
      split at e
      · rename_i kd n f hc
        rw [hc] at hg
        dsimp only at hg
        split at e
        · split at e
          · cases e
            exact ⟨of_decide_eq_true hg, True.intro⟩
          · cases e; exact True.intro
        · cases e
      · cases e
    · cases e
  · cases hg
def zEc (i : Instr) (ax : zAx) : Bool := match i with
  | .invokespecial _ => Nat.blt ax.1 295
  | .invokestatic _ => Nat.blt ax.1 295
  | _ => false
def zEk (i : Instr) (k len : Nat) (st : List zAv) : Bool := (Nat.beq len 3 && (!Nat.beq (zmC k) 14 && Nat.ble (zNa i k) st.length)) && ((match i with
  | .invokespecial _ => (match (st.take (zNa i k)).reverse with
    | a :: _ => zGe2 a.1
    | [] => false)
  | _ => true) && (Nat.ble (zWt (st.drop (zNa i k))) 8 && (st.take (zNa i k)).reverse.all (fun a => !Nat.beq a.1 5)))
abbrev zCal : Type := Nat → List zAv → zH1 → Option (Option zAv × zH1)
def zE1 (call : zCal) (rows : List zRow) (c : zCf zH1) : Option (zCf zH1) := match rows.find? (fun q => Nat.beq q.1 c.1) with
  | some (_, i, len, ax) => match zEc i ax with
    | true => match zEk i ax.1 len c.2.2.1 with
      | true => match call ax.1 (c.2.2.1.take (zNa i ax.1)).reverse c.2.2.2 with
        | some (r, h1) => some (c.1 + 3, c.2.1, r.toList ++ c.2.2.1.drop (zNa i ax.1), h1)
        | none => none
      | false => none
    | false => match zEg i ax c.2.2.1 c.2.2.2 with
      | true => match zX (zHop1 0 (fun _ => 0)) i len ax (zEd i c.2.2.1) c with
        | some (_, c1) => some c1
        | none => none
      | false => none
  | none => none
def zEl (call : zCal) (mi : Nat) (rows : List zRow) : Nat → zCf zH1 → Option (Option zAv × zH1)
  | 0, _ => none
  | n + 1, c => match zRe1 mi c.1 .return_ none with
    | true => match c.2.2.1 with
      | [] => some (none, c.2.2.2)
      | _ => none
    | false => match zE1 call rows c with
      | some c1 => zEl call mi rows n c1
      | none => none
def zEm (R : Nat → List zRow) (kw : Nat → Int) : Nat → zCal
  | 0 => fun _ _ _ => none
  | d + 1 => fun mi args h => match Nat.beq mi 2 with
    | true => match args with
      | [] => some (some (2, (h.length : Int)), h ++ [((21, 21, kw) : zCe)])
      | _ => none
    | false => match Nat.blt mi 295 && (!Nat.beq (zmC mi) 14 && Nat.ble (zFl args).length (zmMax mi)) with
      | true => zEl (zEm R kw d) mi (R mi) 3000 (0, zEntry args (zmMax mi), [], h)
      | false => none
theorem zE1_s {run : zRn zH1} {call : zCal} {mi : Nat} {rows : List zRow} {c c' : zCf zH1} (hk : zRk mi rows = true) (hc : ∀ k args h r h', call k args h = some (r, h') → run k args h r h') (h : zE1 call rows c = some c') : zStep (zHop1 0 (fun _ => 0)) zRc1 run mi c c' := by
  unfold zE1 at h
  split at h
  · rename_i pc i len ax hf
    have hm := List.mem_of_find?_eq_some hf
    have hp := List.find?_some hf
    have hp := Nat.eq_of_beq_eq_true hp
    dsimp only at hp
    have hk := List.all_eq_true.mp hk _ hm
    simp only [Bool.and_eq_true] at hk
    obtain ⟨k3, k4, k5, k6⟩ := hk
    have k3 : decode (zmCode mi) c.1 = .ok (i, len) := by
      rw [← hp]
      split at k3
      · rename_i p e4
        rw [e4, of_decide_eq_true k3]
      · cases k3
    split at h
    · rename_i hcall
      split at h
      · rename_i hck
        split at h
        · rename_i r h1 hr
          cases h
          unfold zEk at hck
          simp only [Bool.and_eq_true] at hck
          obtain ⟨⟨j1, j2, j3⟩, j4, j5, j6⟩ := hck
          have j1 := Nat.eq_of_beq_eq_true j1
          subst j1
          have hax : ax.1 < 295 ∧ zIsCall i ax.1 = true ∧ (∀ x, ¬ i = .invokevirtual x) := by
            unfold zEc at hcall
            split at hcall
            · exact ⟨Nat.le_of_ble_eq_true hcall, rfl, fun x q => by cases q⟩
            · exact ⟨Nat.le_of_ble_eq_true hcall, rfl, fun x q => by cases q⟩
            · cases hcall
          refine Or.inr (Or.inl ⟨i, ax, (c.2.2.1.take (zNa i ax.1)).reverse, c.2.2.1.drop (zNa i ax.1), r, h1, k3, hax.2.1, k5, hax.1, ?_, ?_, ?_, fun x hx => absurd hx (hax.2.2 x), fun x hx => ?_, j5, j6, hc _ _ _ _ _ hr, rfl⟩)
          · intro q
            rw [q] at j2
            cases j2
          · rw [List.reverse_reverse, List.take_append_drop]
          · rw [List.length_reverse, List.length_take]
            exact Nat.min_eq_left (Nat.le_of_ble_eq_true j3)
          · subst hx
            dsimp only at j4
            split at j4
            · rename_i a as ha
              rw [ha]
              exact ⟨a, rfl, j4⟩
            · cases j4
        · cases h
      · cases h
    · split at h
      · rename_i hg
        split at h
        · rename_i gs c1 hx
          cases h
          exact Or.inl ⟨i, len, ax, zEd i c.2.2.1, gs, k3, k4, k5, hx, zE_g hg hx⟩
        · cases h
      · cases h
  · cases h
theorem zEl_s {run : zRn zH1} {call : zCal} {mi : Nat} {rows : List zRow} (hk : zRk mi rows = true) (hc : ∀ k args h r h', call k args h = some (r, h') → run k args h r h') : ∀ (n : Nat) (c : zCf zH1) (r : Option zAv) (h' : zH1), zEl call mi rows n c = some (r, h') → ∃ (m pc : Nat) (L : zLo) (st : List zAv), zReach (zHop1 0 (fun _ => 0)) zRc1 run mi m c (pc, L, st, h') ∧ zRet mi (pc, L, st, h') r := by
  intro n
  induction n with
  | zero => intro c r h' h; cases h
  | succ n ih =>
    intro c r h' h
    unfold zEl at h
    split at h
    · rename_i hr
      obtain ⟨h1, h2⟩ := zRe1_s hr
      obtain ⟨pc, L, st, hp⟩ := c
      dsimp only at h h1
      split at h
      · cases h
        exact ⟨0, pc, L, [], rfl, Or.inr (Or.inr ⟨h1, rfl, rfl, h2⟩)⟩
      · cases h
    · split at h
      · rename_i c1 hs
        obtain ⟨m, pc, L, st, h3, h4⟩ := ih _ _ _ h
        exact ⟨m + 1, pc, L, st, ⟨c1, zE1_s hk hc hs, h3⟩, h4⟩
      · cases h
theorem zEm_s {spec : zRn zH1} {R : Nat → List zRow} {kw : Nat → Int} (hR : ∀ mi, mi < 295 → zRk mi (R mi) = true) (hsp : ∀ h : zH1, spec 2 [] h (some (2, (h.length : Int))) (h ++ [((21, 21, kw) : zCe)])) : ∀ (d mi : Nat) (args : List zAv) (h : zH1) (r : Option zAv) (h' : zH1), zEm R kw d mi args h = some (r, h') → zRun (zHop1 0 (fun _ => 0)) zRc1 spec (d + 9) mi args h r h' := by
  intro d
  induction d with
  | zero => intro mi args h r h' q; cases q
  | succ d ih =>
    intro mi args h r h' q
    rw [show d + 1 + 9 = (d + 9) + 1 from by omega]
    unfold zEm at q
    split at q
    · rename_i e
      have e := Nat.eq_of_beq_eq_true e
      subst e
      split at q
      · cases q
        exact Or.inl ⟨by omega, hsp h⟩
      · cases q
    · split at q
      · rename_i e
        simp only [Bool.and_eq_true] at e
        obtain ⟨e1, e2, e3⟩ := e
        have e1 := Nat.le_of_ble_eq_true e1
        obtain ⟨m, pc, L, st, h3, h4⟩ := zEl_s (hR mi e1) ih _ _ _ _ q
        refine Or.inr ⟨e1, ?_, Nat.le_of_ble_eq_true e3, m, pc, L, st, h3, h4⟩
        intro q
        rw [q] at e2
        cases e2
      · cases q
