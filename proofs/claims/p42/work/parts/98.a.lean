section
/-! Closed runs over the first heap: an evaluator, for the constructors. -/
def zEd (i : Instr) (st : List zAv) : Int := match i with
  | .if_icmp .ge _ => match st with
    | (_, y) :: (_, x) :: _ => if y ≤ x then 1 else 0
    | _ => 0
  | _ => 0
def zEh (h : zH1) (a i : Int) : Bool := match h[a.toNat]? with
  | some (_, n, _) => decide (0 ≤ i) && decide (i < (n : Int))
  | none => false
def zEg (i : Instr) (ax : zAx) (st : List zAv) (h : zH1) : Bool := match i with
  | .aload_n _ => true
  | .iload_n _ => true
  | .istore_n _ => true
  | .iconst _ => true
  | .bipush _ => true
  | .sipush _ => true
  | .iinc _ _ => true
  | .goto _ => true
  | .dup => true
  | .new _ => true
  | .invokespecial _ => true
  | .if_icmp .ge _ => true
  | .newarray _ => match st with
    | (_, n) :: _ => decide (0 ≤ n) && decide (n ≤ 100000)
    | _ => false
  | .anewarray _ => match st with
    | (_, n) :: _ => decide (0 ≤ n) && decide (n ≤ 100000)
    | _ => false
  | .iastore => match st with
    | _ :: (_, j) :: (_, a) :: _ => zEh h a j
    | _ => false
  | .aastore => match st with
    | _ :: (_, j) :: (_, a) :: _ => zEh h a j
    | _ => false
  | .putfield _ => match zIsB ax.1 ax.2.1 with
    | false => true
    | true => match st with
      | (_, v) :: _ => decide (v = 0) || decide (v = 1)
      | _ => false
  | .getfield _ => match st with
    | (_, o) :: _ => match h[o.toNat]? with
      | some (_, _, f) => decide (0 ≤ f ax.2.1)
      | none => false
    | _ => false
  | _ => false
theorem zE_ld {ok : Nat → Bool} {n len : Nat} {c c' : zCf zH1} {gs : List Prop} (h : zLd ok n len c = some (gs, c')) : zAll gs := by
  unfold zLd at h
  split at h
  · split at h
    · cases h; exact True.intro
    · cases h
  · cases h
theorem zE_sto {ok : Nat → Bool} {n len : Nat} {c c' : zCf zH1} {gs : List Prop} (h : zSto ok n len c = some (gs, c')) : zAll gs := by
  unfold zSto at h
  split at h
  · split at h
    · cases h; exact True.intro
    · cases h
  · cases h
theorem zE_ck {b : Bool} {v : zAv} {len : Nat} {c c' : zCf zH1} {gs : List Prop} (h : zCk b (zPu v len c) = some (gs, c')) : zAll gs := by
  unfold zCk zPu at h
  split at h
  · cases h; exact True.intro
  · cases h
theorem zE_ii {n : Nat} {k : Int} {c c' : zCf zH1} {gs : List Prop} (h : zIi n k c = some (gs, c')) : zAll gs := by
  unfold zIi at h
  split at h
  · cases h; exact True.intro
  · cases h
theorem zE_go {k : Int} {c c' : zCf zH1} {gs : List Prop} (h : zGo k c = some (gs, c')) : zAll gs := by
  unfold zGo at h
  split at h
  · cases h; exact True.intro
  · cases h
theorem zE_dup {c c' : zCf zH1} {gs : List Prop} (h : zDup c = some (gs, c')) : zAll gs := by
  unfold zDup at h
  split at h
  · split at h
    · cases h
    · cases h; exact True.intro
  · cases h
theorem zE_hp {i : Instr} {len : Nat} {ax : zAx} {c c' : zCf zH1} {gs : List Prop} (h : zHp (zHop1 0 (fun _ => 0)) i len ax c = some (gs, c')) : ∃ st h', zHop1 0 (fun _ => 0) i ax c.2.2.1 c.2.2.2 = some (gs, st, h') := by
  unfold zHp at h
  split at h
  · rename_i gs1 st h' e
    cases h
    exact ⟨st, h', e⟩
  · cases h
theorem zE_st {kd t : Nat} {st st' : List zAv} {h h' : zH1} {gs : List Prop} {u : zAv} {j a : Int} {t1 t2 : Nat} {r : List zAv} (hs : st = u :: (t1, j) :: (t2, a) :: r) (hg : zEh h a j = true) (e : zStA kd t (fun _ => []) st h = some (gs, st', h')) : zAll gs := by
  subst hs
  unfold zStA at e
  split at e
  · rename_i u0 v0 i0 a0 r0 hq
    cases hq
    split at e
    · rename_i k n f hc
      split at e
      · cases e
        unfold zEh at hg
        rw [hc] at hg
        simp only [Bool.and_eq_true, decide_eq_true_eq] at hg
        exact ⟨hg, True.intro⟩
      · cases e
    · cases e
  · cases e
theorem zE_g {i : Instr} {len : Nat} {ax : zAx} {c c' : zCf zH1} {gs : List Prop} (hg : zEg i ax c.2.2.1 c.2.2.2 = true) (h : zX (zHop1 0 (fun _ => 0)) i len ax (zEd i c.2.2.1) c = some (gs, c')) : zAll gs := by
  obtain ⟨pc, L, st, hp⟩ := c
  dsimp only at hg h
  unfold zEg at hg
  split at hg
  · exact zE_ld h
  · exact zE_ld h
  · exact zE_sto h
  · exact zE_ck h
  · exact zE_ck h
  · exact zE_ck h
  · exact zE_ii h
  · exact zE_go h
  · exact zE_dup h
  · rename_i ix
    obtain ⟨st', h', e⟩ := zE_hp (i := .new ix) (len := 3) (ax := ax) (c := (pc, L, st, hp)) h
    cases e; exact True.intro
  · obtain ⟨st', h', e⟩ := zE_hp h
    unfold zHop1 at e
    dsimp only at e
    split at e
    · split at e
      · split at e
        · cases e; exact True.intro
        · cases e
      · cases e
    · cases e
  · unfold zX zIc at h
    dsimp only at h
    split at h
    · rename_i st0 y x r
      unfold zBr zEd at h
      dsimp only at h
      split at h
      · split at h
        · rename_i hd
          cases h
          have hd2 : (if y ≤ x then (1 : Int) else 0) = 1 := of_decide_eq_true hd
          by_cases q : y ≤ x
          · exact ⟨q, True.intro⟩
          · rw [if_neg q] at hd2
            exact absurd hd2 (by decide)
        · rename_i hd
          cases h
          have hd2 : ¬ (if y ≤ x then (1 : Int) else 0) = 1 := of_decide_eq_false hd
          by_cases q : y ≤ x
          · rw [if_pos q] at hd2
            exact absurd rfl hd2
          · exact ⟨q, True.intro⟩
      · cases h
    · cases h
  · obtain ⟨st', h', e⟩ := zE_hp h
    split at hg
    · rename_i t n r
      simp only [Bool.and_eq_true, decide_eq_true_eq] at hg
      unfold zHop1 at e
      dsimp only at e
      split at e
      · split at e
        · rename_i hq
          cases hq
          cases e
          exact ⟨hg, True.intro⟩
        · cases e
      · cases e
    · cases hg
  · obtain ⟨st', h', e⟩ := zE_hp h
    split at hg
    · rename_i t n r
      simp only [Bool.and_eq_true, decide_eq_true_eq] at hg
      unfold zHop1 at e
      dsimp only at e
      split at e
      · split at e
        · rename_i hq
          cases hq
          cases e
          exact ⟨hg, True.intro⟩
        · cases e
      · cases e
    · cases hg
  · obtain ⟨st', h', e⟩ := zE_hp h
    split at hg
    · exact zE_st rfl hg e
    · cases hg
  · obtain ⟨st', h', e⟩ := zE_hp h
    split at hg
    · unfold zHop1 at e
      dsimp only at e
      split at e
      · split at e
        · split at e
          · exact zE_st rfl hg e
          · cases e
        · cases e
      · cases e
    · cases hg
  · obtain ⟨st', h', e⟩ := zE_hp h
    unfold zHop1 at e
    dsimp only at e
    split at e
    · rename_i t v o r
      split at e
      · split at e
        · cases e
          split at hg
          · rename_i q; rw [q]; exact True.intro
          · rename_i q
            rw [q]
            simp only [Bool.or_eq_true, decide_eq_true_eq] at hg
            exact ⟨hg, True.intro⟩
        · cases e
      · cases e
    · cases e
  · obtain ⟨st', h', e⟩ := zE_hp h
    unfold zHop1 at e
    dsimp only at e
    split at e
    · rename_i o r
      dsimp only at hg
      split at e
      · rename_i kd n f hc
        rw [hc] at hg
        dsimp only at hg
        split at e
        · split at e
          · cases e
            exact ⟨of_decide_eq_true hg, True.intro⟩
          · cases e; exact True.intro
        · cases e
      · cases e
    · cases e
  · cases hg
def zEc (i : Instr) (ax : zAx) : Bool := match i with
  | .invokespecial _ => Nat.blt ax.1 295
  | .invokestatic _ => Nat.blt ax.1 295
  | _ => false
def zEk (i : Instr) (k len : Nat) (st : List zAv) : Bool := (Nat.beq len 3 && (!Nat.beq (zmC k) 14 && Nat.ble (zNa i k) st.length)) && ((match i with
  | .invokespecial _ => (match (st.take (zNa i k)).reverse with
    | a :: _ => zGe2 a.1
    | [] => false)
  | _ => true) && (Nat.ble (zWt (st.drop (zNa i k))) 8 && (st.take (zNa i k)).reverse.all (fun a => !Nat.beq a.1 5)))
abbrev zCal : Type := Nat → List zAv → zH1 → Option (Option zAv × zH1)
def zE1 (call : zCal) (rows : List zRow) (c : zCf zH1) : Option (zCf zH1) := match rows.find? (fun q => Nat.beq q.1 c.1) with
  | some (_, i, len, ax) => match zEc i ax with
    | true => match zEk i ax.1 len c.2.2.1 with
      | true => match call ax.1 (c.2.2.1.take (zNa i ax.1)).reverse c.2.2.2 with
        | some (r, h1) => some (c.1 + 3, c.2.1, r.toList ++ c.2.2.1.drop (zNa i ax.1), h1)
        | none => none
      | false => none
    | false => match zEg i ax c.2.2.1 c.2.2.2 with
      | true => match zX (zHop1 0 (fun _ => 0)) i len ax (zEd i c.2.2.1) c with
        | some (_, c1) => some c1
        | none => none
      | false => none
  | none => none
def zEl (call : zCal) (mi : Nat) (rows : List zRow) : Nat → zCf zH1 → Option (Option zAv × zH1)
  | 0, _ => none
  | n + 1, c => match zRe1 mi c.1 .return_ none with
    | true => match c.2.2.1 with
      | [] => some (none, c.2.2.2)
      | _ => none
    | false => match zE1 call rows c with
      | some c1 => zEl call mi rows n c1
      | none => none
def zEm (R : Nat → List zRow) (kw : Nat → Int) : Nat → zCal
  | 0 => fun _ _ _ => none
  | d + 1 => fun mi args h => match Nat.beq mi 2 with
    | true => match args with
      | [] => some (some (2, (h.length : Int)), h ++ [((21, 21, kw) : zCe)])
      | _ => none
    | false => match Nat.blt mi 295 && (!Nat.beq (zmC mi) 14 && Nat.ble (zFl args).length (zmMax mi)) with
      | true => zEl (zEm R kw d) mi (R mi) 3000 (0, zEntry args (zmMax mi), [], h)
      | false => none
theorem zE1_s {run : zRn zH1} {call : zCal} {mi : Nat} {rows : List zRow} {c c' : zCf zH1} (hk : zRk mi rows = true) (hc : ∀ k args h r h', call k args h = some (r, h') → run k args h r h') (h : zE1 call rows c = some c') : zStep (zHop1 0 (fun _ => 0)) zRc1 run mi c c' := by
  unfold zE1 at h
  split at h
  · rename_i pc i len ax hf
    have hm := List.mem_of_find?_eq_some hf
    have hp := List.find?_some hf
    have hp := Nat.eq_of_beq_eq_true hp
    dsimp only at hp
    have hk := List.all_eq_true.mp hk _ hm
    simp only [Bool.and_eq_true] at hk
    obtain ⟨k3, k4, k5, k6⟩ := hk
    have k3 : decode (zmCode mi) c.1 = .ok (i, len) := by
      rw [← hp]
      split at k3
      · rename_i p e4
        rw [e4, of_decide_eq_true k3]
      · cases k3
    split at h
    · rename_i hcall
      split at h
      · rename_i hck
        split at h
        · rename_i r h1 hr
          cases h
          unfold zEk at hck
          simp only [Bool.and_eq_true] at hck
          obtain ⟨⟨j1, j2, j3⟩, j4, j5, j6⟩ := hck
          have j1 := Nat.eq_of_beq_eq_true j1
          subst j1
          have hax : ax.1 < 295 ∧ zIsCall i ax.1 = true ∧ (∀ x, ¬ i = .invokevirtual x) := by
            unfold zEc at hcall
            split at hcall
            · exact ⟨Nat.le_of_ble_eq_true hcall, rfl, fun x q => by cases q⟩
            · exact ⟨Nat.le_of_ble_eq_true hcall, rfl, fun x q => by cases q⟩
            · cases hcall
          refine Or.inr (Or.inl ⟨i, ax, (c.2.2.1.take (zNa i ax.1)).reverse, c.2.2.1.drop (zNa i ax.1), r, h1, k3, hax.2.1, k5, hax.1, ?_, ?_, ?_, fun x hx => absurd hx (hax.2.2 x), fun x hx => ?_, j5, j6, hc _ _ _ _ _ hr, rfl⟩)
          · intro q
            rw [q] at j2
            cases j2
          · rw [List.reverse_reverse, List.take_append_drop]
          · rw [List.length_reverse, List.length_take]
            exact Nat.min_eq_left (Nat.le_of_ble_eq_true j3)
          · subst hx
            dsimp only at j4
            split at j4
            · rename_i a as ha
              rw [ha]
              exact ⟨a, rfl, j4⟩
            · cases j4
        · cases h
      · cases h
    · split at h
      · rename_i hg
        split at h
        · rename_i gs c1 hx
          cases h
          exact Or.inl ⟨i, len, ax, zEd i c.2.2.1, gs, k3, k4, k5, hx, zE_g hg hx⟩
        · cases h
      · cases h
  · cases h
theorem zEl_s {run : zRn zH1} {call : zCal} {mi : Nat} {rows : List zRow} (hk : zRk mi rows = true) (hc : ∀ k args h r h', call k args h = some (r, h') → run k args h r h') : ∀ (n : Nat) (c : zCf zH1) (r : Option zAv) (h' : zH1), zEl call mi rows n c = some (r, h') → ∃ (m pc : Nat) (L : zLo) (st : List zAv), zReach (zHop1 0 (fun _ => 0)) zRc1 run mi m c (pc, L, st, h') ∧ zRet mi (pc, L, st, h') r := by
  intro n
  induction n with
  | zero => intro c r h' h; cases h
  | succ n ih =>
    intro c r h' h
    unfold zEl at h
    split at h
    · rename_i hr
      obtain ⟨h1, h2⟩ := zRe1_s hr
      obtain ⟨pc, L, st, hp⟩ := c
      dsimp only at h h1
      split at h
      · cases h
        exact ⟨0, pc, L, [], rfl, Or.inr (Or.inr ⟨h1, rfl, rfl, h2⟩)⟩
      · cases h
    · split at h
      · rename_i c1 hs
        obtain ⟨m, pc, L, st, h3, h4⟩ := ih _ _ _ h
        exact ⟨m + 1, pc, L, st, ⟨c1, zE1_s hk hc hs, h3⟩, h4⟩
      · cases h
theorem zEm_s {spec : zRn zH1} {R : Nat → List zRow} {kw : Nat → Int} (hR : ∀ mi, mi < 295 → zRk mi (R mi) = true) (hsp : ∀ h : zH1, spec 2 [] h (some (2, (h.length : Int))) (h ++ [((21, 21, kw) : zCe)])) : ∀ (d mi : Nat) (args : List zAv) (h : zH1) (r : Option zAv) (h' : zH1), zEm R kw d mi args h = some (r, h') → zRun (zHop1 0 (fun _ => 0)) zRc1 spec (d + 9) mi args h r h' := by
  intro d
  induction d with
  | zero => intro mi args h r h' q; cases q
  | succ d ih =>
    intro mi args h r h' q
    rw [show d + 1 + 9 = (d + 9) + 1 from by omega]
    unfold zEm at q
    split at q
    · rename_i e
      have e := Nat.eq_of_beq_eq_true e
      subst e
      split at q
      · cases q
        exact Or.inl ⟨by omega, hsp h⟩
      · cases q
    · split at q
      · rename_i e
        simp only [Bool.and_eq_true] at e
        obtain ⟨e1, e2, e3⟩ := e
        have e1 := Nat.le_of_ble_eq_true e1
        obtain ⟨m, pc, L, st, h3, h4⟩ := zEl_s (hR mi e1) ih _ _ _ _ q
        refine Or.inr ⟨e1, ?_, Nat.le_of_ble_eq_true e3, m, pc, L, st, h3, h4⟩
        intro q
        rw [q] at e2
        cases e2
      · cases q
end
section
/-! The constructors: their instructions. -/
def zRw0 : List zRow := [(0, .aload_n 0, 1, (0, 0, 0)), (1, .invokespecial 3, 3, (5000, 0, 0)), (4, .aload_n 0, 1, (0, 0, 0)), (5, .new 9, 3, (5, 0, 0)), (8, .dup, 1, (0, 0, 0)), (9, .invokespecial 11, 3, (1, 0, 0)), (12, .putfield 12, 3, (11, 0, 23)), (15, .aload_n 0, 1, (0, 0, 0)), (16, .new 16, 3, (9, 0, 0)), (19, .dup, 1, (0, 0, 0)), (20, .invokespecial 18, 3, (4, 0, 0)), (23, .putfield 19, 3, (11, 1, 39)), (26, .aload_n 0, 1, (0, 0, 0)), (27, .new 23, 3, (10, 0, 0)), (30, .dup, 1, (0, 0, 0)), (31, .aload_n 0, 1, (0, 0, 0)), (32, .getfield 12, 3, (11, 0, 23)), (35, .invokespecial 25, 3, (5, 0, 0)), (38, .putfield 28, 3, (11, 2, 43)), (41, .aload_n 0, 1, (0, 0, 0)), (42, .new 32, 3, (0, 0, 0)), (45, .dup, 1, (0, 0, 0)), (46, .aload_n 0, 1, (0, 0, 0)), (47, .getfield 12, 3, (11, 0, 23)), (50, .invokespecial 34, 3, (6, 0, 0)), (53, .putfield 35, 3, (11, 3, 3)), (56, .aload_n 0, 1, (0, 0, 0)), (57, .new 39, 3, (6, 0, 0)), (60, .dup, 1, (0, 0, 0)), (61, .invokespecial 41, 3, (7, 0, 0)), (64, .putfield 42, 3, (11, 4, 27)), (67, .aload_n 0, 1, (0, 0, 0)), (68, .new 46, 3, (7, 0, 0)), (71, .dup, 1, (0, 0, 0)), (72, .aload_n 0, 1, (0, 0, 0)), (73, .getfield 12, 3, (11, 0, 23)), (76, .invokespecial 48, 3, (8, 0, 0)), (79, .putfield 49, 3, (11, 5, 31)), (82, .aload_n 0, 1, (0, 0, 0)), (83, .new 53, 3, (1, 0, 0)), (86, .dup, 1, (0, 0, 0)), (87, .invokespecial 55, 3, (9, 0, 0)), (90, .putfield 56, 3, (11, 6, 7)), (93, .aload_n 0, 1, (0, 0, 0)), (94, .new 53, 3, (1, 0, 0)), (97, .dup, 1, (0, 0, 0)), (98, .invokespecial 55, 3, (9, 0, 0)), (101, .putfield 60, 3, (11, 7, 135)), (104, .aload_n 0, 1, (0, 0, 0)), (105, .new 63, 3, (8, 0, 0)), (108, .dup, 1, (0, 0, 0)), (109, .invokespecial 65, 3, (10, 0, 0)), (112, .putfield 66, 3, (11, 8, 35)), (115, .aload_n 0, 1, (0, 0, 0)), (116, .iconst 2, 1, (0, 0, 0)), (117, .anewarray 70, 3, (24, 0, 0)), (120, .putfield 72, 3, (11, 9, 6291466)), (123, .iconst 0, 1, (0, 0, 0)), (124, .istore_n 1, 1, (0, 0, 0)), (125, .iload_n 1, 1, (0, 0, 0)), (126, .iconst 2, 1, (0, 0, 0)), (127, .if_icmp .ge 22, 3, (0, 0, 0)), (130, .aload_n 0, 1, (0, 0, 0)), (131, .getfield 72, 3, (11, 9, 6291466)), (134, .iload_n 1, 1, (0, 0, 0)), (135, .new 70, 3, (3, 0, 0)), (138, .dup, 1, (0, 0, 0)), (139, .invokespecial 76, 3, (11, 0, 0)), (142, .aastore, 1, (24, 0, 0)), (143, .iinc 1 1, 3, (0, 0, 0)), (146, .goto (-21), 3, (0, 0, 0)), (149, .aload_n 0, 1, (0, 0, 0)), (150, .new 77, 3, (4, 0, 0)), (153, .dup, 1, (0, 0, 0)), (154, .invokespecial 79, 3, (12, 0, 0)), (157, .putfield 80, 3, (11, 10, 19)), (160, .aload_n 0, 1, (0, 0, 0)), (161, .new 84, 3, (2, 0, 0)), (164, .dup, 1, (0, 0, 0)), (165, .invokespecial 86, 3, (13, 0, 0)), (168, .putfield 87, 3, (11, 11, 11)), (171, .aload_n 0, 1, (0, 0, 0)), (172, .sipush 384, 3, (0, 0, 0)), (175, .newarray .int, 2, (0, 0, 0)), (177, .putfield 91, 3, (11, 12, 5244418)), (180, .aload_n 0, 1, (0, 0, 0)), (181, .bipush 96, 2, (0, 0, 0)), (183, .newarray .int, 2, (0, 0, 0)), (185, .putfield 95, 3, (11, 13, 5243266)), (188, .aload_n 0, 1, (0, 0, 0)), (189, .iconst (-1), 1, (0, 0, 0)), (190, .putfield 98, 3, (11, 15, 0)), (193, .aload_n 0, 1, (0, 0, 0)), (194, .iconst (-1), 1, (0, 0, 0)), (195, .putfield 102, 3, (11, 16, 0)), (198, .return_, 1, (0, 0, 0))]
theorem zRw0_ok : zRk 0 zRw0 = true := by decide +kernel
def zRw1 : List zRow := [(0, .aload_n 0, 1, (0, 0, 0)), (1, .invokespecial 3, 3, (5000, 0, 0)), (4, .aload_n 0, 1, (0, 0, 0)), (5, .sipush 940, 3, (0, 0, 0)), (8, .newarray .int, 2, (0, 0, 0)), (10, .putfield 9, 3, (5, 0, 5246642)), (13, .aload_n 0, 1, (0, 0, 0)), (14, .invokestatic 15, 3, (2, 0, 0)), (17, .putfield 19, 3, (5, 10, 5505110)), (20, .return_, 1, (0, 0, 0))]
theorem zRw1_ok : zRk 1 zRw1 = true := by decide +kernel
def zRw4 : List zRow := [(0, .aload_n 0, 1, (0, 0, 0)), (1, .invokespecial 3, 3, (5000, 0, 0)), (4, .aload_n 0, 1, (0, 0, 0)), (5, .bipush 6, 2, (0, 0, 0)), (7, .newarray .long, 2, (0, 0, 0)), (9, .putfield 9, 3, (9, 7, 5505050)), (12, .aload_n 0, 1, (0, 0, 0)), (13, .bipush 6, 2, (0, 0, 0)), (15, .newarray .int, 2, (0, 0, 0)), (17, .putfield 15, 3, (9, 8, 5242906)), (20, .aload_n 0, 1, (0, 0, 0)), (21, .bipush 6, 2, (0, 0, 0)), (23, .newarray .int, 2, (0, 0, 0)), (25, .putfield 19, 3, (9, 9, 5242906)), (28, .aload_n 0, 1, (0, 0, 0)), (29, .bipush 6, 2, (0, 0, 0)), (31, .newarray .int, 2, (0, 0, 0)), (33, .putfield 22, 3, (9, 10, 5242906)), (36, .aload_n 0, 1, (0, 0, 0)), (37, .bipush 6, 2, (0, 0, 0)), (39, .newarray .long, 2, (0, 0, 0)), (41, .putfield 25, 3, (9, 11, 5505050)), (44, .aload_n 0, 1, (0, 0, 0)), (45, .bipush 6, 2, (0, 0, 0)), (47, .newarray .int, 2, (0, 0, 0)), (49, .putfield 28, 3, (9, 12, 5242906)), (52, .aload_n 0, 1, (0, 0, 0)), (53, .bipush 6, 2, (0, 0, 0)), (55, .newarray .int, 2, (0, 0, 0)), (57, .putfield 31, 3, (9, 13, 5242906)), (60, .aload_n 0, 1, (0, 0, 0)), (61, .bipush 20, 2, (0, 0, 0)), (63, .newarray .int, 2, (0, 0, 0)), (65, .putfield 34, 3, (9, 14, 5242962)), (68, .aload_n 0, 1, (0, 0, 0)), (69, .bipush 20, 2, (0, 0, 0)), (71, .newarray .int, 2, (0, 0, 0)), (73, .putfield 37, 3, (9, 15, 5242962)), (76, .aload_n 0, 1, (0, 0, 0)), (77, .bipush 20, 2, (0, 0, 0)), (79, .newarray .int, 2, (0, 0, 0)), (81, .putfield 40, 3, (9, 16, 5242962)), (84, .aload_n 0, 1, (0, 0, 0)), (85, .bipush 8, 2, (0, 0, 0)), (87, .newarray .int, 2, (0, 0, 0)), (89, .putfield 43, 3, (9, 17, 5242914)), (92, .aload_n 0, 1, (0, 0, 0)), (93, .bipush 6, 2, (0, 0, 0)), (95, .newarray .int, 2, (0, 0, 0)), (97, .putfield 46, 3, (9, 18, 5242906)), (100, .aload_n 0, 1, (0, 0, 0)), (101, .bipush 6, 2, (0, 0, 0)), (103, .newarray .int, 2, (0, 0, 0)), (105, .putfield 49, 3, (9, 19, 5242906)), (108, .return_, 1, (0, 0, 0))]
theorem zRw4_ok : zRk 4 zRw4 = true := by decide +kernel
def zRw5 : List zRow := [(0, .aload_n 0, 1, (0, 0, 0)), (1, .invokespecial 3, 3, (5000, 0, 0)), (4, .aload_n 0, 1, (0, 0, 0)), (5, .new 9, 3, (9, 0, 0)), (8, .dup, 1, (0, 0, 0)), (9, .invokespecial 11, 3, (4, 0, 0)), (12, .putfield 12, 3, (10, 0, 167)), (15, .aload_n 0, 1, (0, 0, 0)), (16, .aload_n 1, 1, (0, 0, 0)), (17, .putfield 18, 3, (10, 2, 23)), (20, .return_, 1, (0, 0, 0))]
theorem zRw5_ok : zRk 5 zRw5 = true := by decide +kernel
def zRw6 : List zRow := [(0, .aload_n 0, 1, (0, 0, 0)), (1, .invokespecial 3, 3, (5000, 0, 0)), (4, .aload_n 0, 1, (0, 0, 0)), (5, .aload_n 1, 1, (0, 0, 0)), (6, .putfield 9, 3, (0, 1, 23)), (9, .return_, 1, (0, 0, 0))]
theorem zRw6_ok : zRk 6 zRw6 = true := by decide +kernel
def zRw7 : List zRow := [(0, .aload_n 0, 1, (0, 0, 0)), (1, .invokespecial 3, 3, (5000, 0, 0)), (4, .aload_n 0, 1, (0, 0, 0)), (5, .bipush 120, 2, (0, 0, 0)), (7, .newarray .int, 2, (0, 0, 0)), (9, .putfield 9, 3, (6, 2, 5243362)), (12, .aload_n 0, 1, (0, 0, 0)), (13, .bipush 40, 2, (0, 0, 0)), (15, .newarray .boolean, 2, (0, 0, 0)), (17, .putfield 15, 3, (6, 3, 5767330)), (20, .return_, 1, (0, 0, 0))]
theorem zRw7_ok : zRk 7 zRw7 = true := by decide +kernel
def zRw8 : List zRow := [(0, .aload_n 0, 1, (0, 0, 0)), (1, .invokespecial 3, 3, (5000, 0, 0)), (4, .aload_n 0, 1, (0, 0, 0)), (5, .new 9, 3, (6, 0, 0)), (8, .dup, 1, (0, 0, 0)), (9, .invokespecial 11, 3, (7, 0, 0)), (12, .putfield 12, 3, (7, 0, 155)), (15, .aload_n 0, 1, (0, 0, 0)), (16, .aload_n 1, 1, (0, 0, 0)), (17, .putfield 18, 3, (7, 1, 23)), (20, .return_, 1, (0, 0, 0))]
theorem zRw8_ok : zRk 8 zRw8 = true := by decide +kernel
def zRw9 : List zRow := [(0, .aload_n 0, 1, (0, 0, 0)), (1, .invokespecial 3, 3, (5000, 0, 0)), (4, .aload_n 0, 1, (0, 0, 0)), (5, .bipush 6, 2, (0, 0, 0)), (7, .newarray .int, 2, (0, 0, 0)), (9, .putfield 9, 3, (1, 3, 5242906)), (12, .aload_n 0, 1, (0, 0, 0)), (13, .sipush 180, 3, (0, 0, 0)), (16, .newarray .int, 2, (0, 0, 0)), (18, .putfield 15, 3, (1, 4, 5243602)), (21, .aload_n 0, 1, (0, 0, 0)), (22, .sipush 180, 3, (0, 0, 0)), (25, .newarray .int, 2, (0, 0, 0)), (27, .putfield 18, 3, (1, 5, 5243602)), (30, .aload_n 0, 1, (0, 0, 0)), (31, .sipush 240, 3, (0, 0, 0)), (34, .newarray .int, 2, (0, 0, 0)), (36, .putfield 21, 3, (1, 6, 5243842)), (39, .aload_n 0, 1, (0, 0, 0)), (40, .sipush 900, 3, (0, 0, 0)), (43, .newarray .int, 2, (0, 0, 0)), (45, .putfield 24, 3, (1, 7, 5246482)), (48, .aload_n 0, 1, (0, 0, 0)), (49, .bipush 30, 2, (0, 0, 0)), (51, .newarray .int, 2, (0, 0, 0)), (53, .putfield 27, 3, (1, 8, 5243002)), (56, .return_, 1, (0, 0, 0))]
theorem zRw9_ok : zRk 9 zRw9 = true := by decide +kernel
def zRw10 : List zRow := [(0, .aload_n 0, 1, (0, 0, 0)), (1, .invokespecial 3, 3, (5000, 0, 0)), (4, .aload_n 0, 1, (0, 0, 0)), (5, .bipush 8, 2, (0, 0, 0)), (7, .anewarray 9, 3, (23, 0, 0)), (10, .putfield 11, 3, (8, 2, 6029346)), (13, .iconst 0, 1, (0, 0, 0)), (14, .istore_n 1, 1, (0, 0, 0)), (15, .iload_n 1, 1, (0, 0, 0)), (16, .bipush 8, 2, (0, 0, 0)), (18, .if_icmp .ge 22, 3, (0, 0, 0)), (21, .aload_n 0, 1, (0, 0, 0)), (22, .getfield 11, 3, (8, 2, 6029346)), (25, .iload_n 1, 1, (0, 0, 0)), (26, .new 9, 3, (1, 0, 0)), (29, .dup, 1, (0, 0, 0)), (30, .invokespecial 17, 3, (9, 0, 0)), (33, .aastore, 1, (23, 0, 0)), (34, .iinc 1 1, 3, (0, 0, 0)), (37, .goto (-22), 3, (0, 0, 0)), (40, .return_, 1, (0, 0, 0))]
theorem zRw10_ok : zRk 10 zRw10 = true := by decide +kernel
def zRw11 : List zRow := [(0, .aload_n 0, 1, (0, 0, 0)), (1, .invokespecial 1, 3, (5000, 0, 0)), (4, .aload_n 0, 1, (0, 0, 0)), (5, .new 7, 3, (9, 0, 0)), (8, .dup, 1, (0, 0, 0)), (9, .invokespecial 9, 3, (4, 0, 0)), (12, .putfield 10, 3, (3, 1, 359)), (15, .aload_n 0, 1, (0, 0, 0)), (16, .new 16, 3, (1, 0, 0)), (19, .dup, 1, (0, 0, 0)), (20, .invokespecial 18, 3, (9, 0, 0)), (23, .putfield 19, 3, (3, 2, 1351)), (26, .aload_n 0, 1, (0, 0, 0)), (27, .new 23, 3, (6, 0, 0)), (30, .dup, 1, (0, 0, 0)), (31, .invokespecial 25, 3, (7, 0, 0)), (34, .putfield 26, 3, (3, 3, 347)), (37, .return_, 1, (0, 0, 0))]
theorem zRw11_ok : zRk 11 zRw11 = true := by decide +kernel
def zRw12 : List zRow := [(0, .aload_n 0, 1, (0, 0, 0)), (1, .invokespecial 3, 3, (5000, 0, 0)), (4, .aload_n 0, 1, (0, 0, 0)), (5, .bipush 50, 2, (0, 0, 0)), (7, .newarray .int, 2, (0, 0, 0)), (9, .putfield 9, 3, (4, 1, 5243082)), (12, .aload_n 0, 1, (0, 0, 0)), (13, .bipush 6, 2, (0, 0, 0)), (15, .newarray .int, 2, (0, 0, 0)), (17, .putfield 15, 3, (4, 3, 5242906)), (20, .aload_n 0, 1, (0, 0, 0)), (21, .bipush 6, 2, (0, 0, 0)), (23, .newarray .int, 2, (0, 0, 0)), (25, .putfield 18, 3, (4, 4, 5242906)), (28, .aload_n 0, 1, (0, 0, 0)), (29, .bipush 6, 2, (0, 0, 0)), (31, .newarray .int, 2, (0, 0, 0)), (33, .putfield 21, 3, (4, 5, 5242906)), (36, .return_, 1, (0, 0, 0))]
theorem zRw12_ok : zRk 12 zRw12 = true := by decide +kernel
def zRw13 : List zRow := [(0, .aload_n 0, 1, (0, 0, 0)), (1, .invokespecial 3, 3, (5000, 0, 0)), (4, .return_, 1, (0, 0, 0))]
theorem zRw13_ok : zRk 13 zRw13 = true := by decide +kernel
def zRw168 : List zRow := [(0, .aload_n 0, 1, (0, 0, 0)), (1, .invokespecial 1, 3, (5000, 0, 0)), (4, .aload_n 0, 1, (0, 0, 0)), (5, .sipush 940, 3, (0, 0, 0)), (8, .newarray .int, 2, (0, 0, 0)), (10, .putfield 7, 3, (12, 1, 5246642)), (13, .aload_n 0, 1, (0, 0, 0)), (14, .sipush 2140, 3, (0, 0, 0)), (17, .newarray .int, 2, (0, 0, 0)), (19, .putfield 13, 3, (12, 14, 5251442)), (22, .aload_n 0, 1, (0, 0, 0)), (23, .sipush 209, 3, (0, 0, 0)), (26, .newarray .int, 2, (0, 0, 0)), (28, .putfield 16, 3, (12, 15, 5243718)), (31, .aload_n 0, 1, (0, 0, 0)), (32, .sipush 4280, 3, (0, 0, 0)), (35, .newarray .int, 2, (0, 0, 0)), (37, .putfield 19, 3, (12, 16, 5260002)), (40, .aload_n 0, 1, (0, 0, 0)), (41, .sipush 13512, 3, (0, 0, 0)), (44, .newarray .int, 2, (0, 0, 0)), (46, .putfield 22, 3, (12, 17, 5296930)), (49, .aload_n 0, 1, (0, 0, 0)), (50, .sipush 1689, 3, (0, 0, 0)), (53, .newarray .int, 2, (0, 0, 0)), (55, .putfield 25, 3, (12, 18, 5249638)), (58, .aload_n 0, 1, (0, 0, 0)), (59, .bipush 12, 2, (0, 0, 0)), (61, .newarray .long, 2, (0, 0, 0)), (63, .putfield 28, 3, (12, 19, 5505074)), (66, .aload_n 0, 1, (0, 0, 0)), (67, .bipush 12, 2, (0, 0, 0)), (69, .newarray .long, 2, (0, 0, 0)), (71, .putfield 32, 3, (12, 20, 5505074)), (74, .aload_n 0, 1, (0, 0, 0)), (75, .bipush 24, 2, (0, 0, 0)), (77, .newarray .long, 2, (0, 0, 0)), (79, .putfield 35, 3, (12, 21, 5505122)), (82, .aload_n 0, 1, (0, 0, 0)), (83, .iconst 2, 1, (0, 0, 0)), (84, .newarray .boolean, 2, (0, 0, 0)), (86, .putfield 38, 3, (12, 22, 5767178)), (89, .aload_n 0, 1, (0, 0, 0)), (90, .sipush 384, 3, (0, 0, 0)), (93, .newarray .int, 2, (0, 0, 0)), (95, .putfield 42, 3, (12, 25, 5244418)), (98, .aload_n 0, 1, (0, 0, 0)), (99, .bipush 6, 2, (0, 0, 0)), (101, .newarray .int, 2, (0, 0, 0)), (103, .putfield 45, 3, (12, 26, 5242906)), (106, .aload_n 0, 1, (0, 0, 0)), (107, .bipush 6, 2, (0, 0, 0)), (109, .newarray .int, 2, (0, 0, 0)), (111, .putfield 48, 3, (12, 27, 5242906)), (114, .aload_n 0, 1, (0, 0, 0)), (115, .bipush 6, 2, (0, 0, 0)), (117, .newarray .int, 2, (0, 0, 0)), (119, .putfield 51, 3, (12, 28, 5242906)), (122, .aload_n 0, 1, (0, 0, 0)), (123, .bipush 50, 2, (0, 0, 0)), (125, .newarray .int, 2, (0, 0, 0)), (127, .putfield 54, 3, (12, 29, 5243082)), (130, .aload_n 0, 1, (0, 0, 0)), (131, .bipush 6, 2, (0, 0, 0)), (133, .newarray .int, 2, (0, 0, 0)), (135, .putfield 57, 3, (12, 30, 5242906)), (138, .aload_n 0, 1, (0, 0, 0)), (139, .bipush 6, 2, (0, 0, 0)), (141, .newarray .int, 2, (0, 0, 0)), (143, .putfield 60, 3, (12, 31, 5242906)), (146, .aload_n 0, 1, (0, 0, 0)), (147, .bipush 6, 2, (0, 0, 0)), (149, .newarray .int, 2, (0, 0, 0)), (151, .putfield 63, 3, (12, 32, 5242906)), (154, .aload_n 0, 1, (0, 0, 0)), (155, .bipush 6, 2, (0, 0, 0)), (157, .newarray .int, 2, (0, 0, 0)), (159, .putfield 66, 3, (12, 33, 5242906)), (162, .aload_n 0, 1, (0, 0, 0)), (163, .iconst 2, 1, (0, 0, 0)), (164, .newarray .int, 2, (0, 0, 0)), (166, .dup, 1, (0, 0, 0)), (167, .iconst 0, 1, (0, 0, 0)), (168, .iconst (-1), 1, (0, 0, 0)), (169, .iastore, 1, (0, 0, 0)), (170, .dup, 1, (0, 0, 0)), (171, .iconst 1, 1, (0, 0, 0)), (172, .iconst (-1), 1, (0, 0, 0)), (173, .iastore, 1, (0, 0, 0)), (174, .putfield 69, 3, (12, 41, 5242890)), (177, .aload_n 0, 1, (0, 0, 0)), (178, .sipush 200, 3, (0, 0, 0)), (181, .newarray .int, 2, (0, 0, 0)), (183, .putfield 72, 3, (12, 42, 5243682)), (186, .aload_n 0, 1, (0, 0, 0)), (187, .bipush 7, 2, (0, 0, 0)), (189, .newarray .int, 2, (0, 0, 0)), (191, .putfield 75, 3, (12, 43, 5242910)), (194, .aload_n 0, 1, (0, 0, 0)), (195, .sipush 240, 3, (0, 0, 0)), (198, .newarray .int, 2, (0, 0, 0)), (200, .putfield 78, 3, (12, 45, 5243842)), (203, .return_, 1, (0, 0, 0))]
theorem zRw168_ok : zRk 168 zRw168 = true := by decide +kernel
def zRws (mi : Nat) : List zRow := match mi with
  | 0 => zRw0
  | 1 => zRw1
  | 4 => zRw4
  | 5 => zRw5
  | 6 => zRw6
  | 7 => zRw7
  | 8 => zRw8
  | 9 => zRw9
  | 10 => zRw10
  | 11 => zRw11
  | 12 => zRw12
  | 13 => zRw13
  | 168 => zRw168
  | _ => []
theorem zRws_ok (mi : Nat) (_ : mi < 295) : zRk mi (zRws mi) = true := by
  unfold zRws
  split
  · exact zRw0_ok
  · exact zRw1_ok
  · exact zRw4_ok
  · exact zRw5_ok
  · exact zRw6_ok
  · exact zRw7_ok
  · exact zRw8_ok
  · exact zRw9_ok
  · exact zRw10_ok
  · exact zRw11_ok
  · exact zRw12_ok
  · exact zRw13_ok
  · exact zRw168_ok
  · rfl
def zLOt : List (List Nat) := [[33], [41, 48, 57, 64, 71, 78, 85, 92, 99, 106, 129, 154], [169], [114, 139], [164], [1], [34, 38, 136, 161], [37], [55], [4, 19, 115, 140], [18], [0], [172]]
def zlO (ci : Nat) (n : Int) : Nat := match Nat.beq ci 20 with
  | true => 196
  | false => (zLOt.getD ci []).getD n.toNat 0
def zLAt : List (List (List Nat)) := [[[], []],
  [[], [], [], [42, 49, 58, 65, 72, 79, 86, 93, 100, 107, 130, 155], [43, 50, 59, 66, 73, 80, 87, 94, 101, 108, 131, 156], [44, 51, 60, 67, 74, 81, 88, 95, 102, 109, 132, 157], [45, 52, 61, 68, 75, 82, 89, 96, 103, 110, 133, 158], [46, 53, 62, 69, 76, 83, 90, 97, 104, 111, 134, 159], [47, 54, 63, 70, 77, 84, 91, 98, 105, 112, 135, 160]],
  [[], [], []],
  [[], [], [], []],
  [[], [165], [], [166], [167], [168]],
  [[2], [], [], [], [], [], [], [], [], [], [3]],
  [[], [], [35, 39, 137, 162], [36, 40, 138, 163]],
  [[], []],
  [[], [], [56]],
  [[], [], [], [], [], [], [], [5, 20, 116, 141], [6, 21, 117, 142], [7, 22, 118, 143], [8, 23, 119, 144], [9, 24, 120, 145], [10, 25, 121, 146], [11, 26, 122, 147], [12, 27, 123, 148], [13, 28, 124, 149], [14, 29, 125, 150], [15, 30, 126, 151], [16, 31, 127, 152], [17, 32, 128, 153]],
  [[], [], []],
  [[], [], [], [], [], [], [], [], [], [113], [], [], [170], [171], [], [], []],
  [[], [173], [], [], [], [], [], [], [], [], [], [], [], [], [174], [175], [176], [177], [178], [179], [180], [181], [182], [], [], [183], [184], [185], [186], [187], [188], [189], [190], [191], [], [], [], [], [], [], [], [192], [193], [194], [], [195], [], [], [], []]]
def zlA (r : Nat) (n : Int) : Nat := ((zLAt.getD (r / 64) []).getD (r % 64) []).getD n.toNat 0
def zOI : List Nat := [705, 321, 0, 0, 577, 0, 0, 0, 0, 0, 0, 0, 0, 0, 0, 0, 0, 0, 641, 578, 0, 0, 0, 0, 0, 0, 0, 0, 0, 0, 0, 0, 0, 1, 385, 0, 0, 449, 386, 0, 0, 65, 0, 0, 0, 0, 0, 0, 66, 0, 0, 0, 0, 0, 0, 513, 0, 67, 0, 0, 0, 0, 0, 0, 68, 0, 0, 0, 0, 0, 0, 69, 0, 0, 0, 0, 0, 0, 70, 0, 0, 0, 0, 0, 0, 71, 0, 0, 0, 0, 0, 0, 72, 0, 0, 0, 0, 0, 0, 73, 0, 0, 0, 0, 0, 0, 74, 0, 0, 0, 0, 0, 0, 0, 193, 579, 0, 0, 0, 0, 0, 0, 0, 0, 0, 0, 0, 0, 0, 75, 0, 0, 0, 0, 0, 0, 387, 0, 0, 194, 580, 0, 0, 0, 0, 0, 0, 0, 0, 0, 0, 0, 0, 0, 76, 0, 0, 0, 0, 0, 0, 388, 0, 0, 257, 0, 0, 0, 0, 129, 0, 0, 769, 0, 0, 0, 0, 0, 0, 0, 0, 0, 0, 0, 0, 0, 0, 0, 0, 0, 0, 0, 0, 0, 0, 0, 0]
def zAI : List Nat := [0, 0, 20481, 21121, 0, 37313, 37377, 37441, 37505, 37569, 37633, 37697, 37761, 37825, 37889, 37953, 38017, 38081, 0, 0, 37314, 37378, 37442, 37506, 37570, 37634, 37698, 37762, 37826, 37890, 37954, 38018, 38082, 0, 0, 24705, 24769, 0, 0, 24706, 24770, 0, 4289, 4353, 4417, 4481, 4545, 4609, 0, 4290, 4354, 4418, 4482, 4546, 4610, 0, 32897, 0, 4291, 4355, 4419, 4483, 4547, 4611, 0, 4292, 4356, 4420, 4484, 4548, 4612, 0, 4293, 4357, 4421, 4485, 4549, 4613, 0, 4294, 4358, 4422, 4486, 4550, 4614, 0, 4295, 4359, 4423, 4487, 4551, 4615, 0, 4296, 4360, 4424, 4488, 4552, 4616, 0, 4297, 4361, 4425, 4489, 4553, 4617, 0, 4298, 4362, 4426, 4490, 4554, 4618, 45633, 0, 0, 37315, 37379, 37443, 37507, 37571, 37635, 37699, 37763, 37827, 37891, 37955, 38019, 38083, 0, 4299, 4363, 4427, 4491, 4555, 4619, 0, 24707, 24771, 0, 0, 37316, 37380, 37444, 37508, 37572, 37636, 37700, 37764, 37828, 37892, 37956, 38020, 38084, 0, 4300, 4364, 4428, 4492, 4556, 4620, 0, 24708, 24772, 0, 16449, 16577, 16641, 16705, 0, 45825, 45889, 0, 49217, 50049, 50113, 50177, 50241, 50305, 50369, 50433, 50497, 50561, 50753, 50817, 50881, 50945, 51009, 51073, 51137, 51201, 51265, 51777, 51841, 51905, 52033, 0]
end
section
/-! The cells of the start lie apart. -/
theorem zOI_ok : (List.range 13).all (fun ci => (List.range (zCnt ci)).all (fun n => Nat.beq (zOI.getD (zlO ci (n : Int)) 0) (ci * 64 + n + 1))) = true := by decide +kernel
theorem zAI_ok : (List.range 13).all (fun ci => (List.range (zNf ci)).all (fun k => !Nat.beq (zW ci k % 4) 2 || (List.range (zCnt ci)).all (fun n => Nat.beq (zAI.getD (zlA (ci * 64 + k) (n : Int)) 0) ((ci * 64 + k) * 64 + n + 1)))) = true := by decide +kernel
theorem zCnt_le : (List.range 13).all (fun ci => Nat.ble (zCnt ci) 64) = true := by decide +kernel
theorem zAp_ok : zAp zlO zlA := by
  have hO : ∀ (ci : Nat) (n : Int), ci < 13 → 0 ≤ n → n < (zCnt ci : Int) → zOI.getD (zlO ci n) 0 = ci * 64 + n.toNat + 1 ∧ n.toNat < 64 := by
    intro ci n hc h0 h1
    have a := List.all_eq_true.mp (List.all_eq_true.mp zOI_ok ci (List.mem_range.mpr hc)) n.toNat (List.mem_range.mpr (by omega))
    rw [show ((n.toNat : Nat) : Int) = n from by omega] at a
    have b := Nat.le_of_ble_eq_true (List.all_eq_true.mp zCnt_le ci (List.mem_range.mpr hc))
    exact ⟨Nat.eq_of_beq_eq_true a, by omega⟩
  have hA : ∀ (ci k x : Nat) (n : Int), ci < 13 → k < zNf ci → zW ci k = 2 + 4 * x → 0 ≤ n → n < (zCnt ci : Int) → zAI.getD (zlA (ci * 64 + k) n) 0 = (ci * 64 + k) * 64 + n.toNat + 1 ∧ n.toNat < 64 := by
    intro ci k x n hc hk hw h0 h1
    have a := List.all_eq_true.mp (List.all_eq_true.mp zAI_ok ci (List.mem_range.mpr hc)) k (List.mem_range.mpr hk)
    rw [show zW ci k % 4 = 2 from by omega] at a
    have a := List.all_eq_true.mp (show (List.range (zCnt ci)).all (fun n => Nat.beq (zAI.getD (zlA (ci * 64 + k) (n : Int)) 0) ((ci * 64 + k) * 64 + n + 1)) = true from a) n.toNat (List.mem_range.mpr (by omega))
    rw [show ((n.toNat : Nat) : Int) = n from by omega] at a
    have b := Nat.le_of_ble_eq_true (List.all_eq_true.mp zCnt_le ci (List.mem_range.mpr hc))
    exact ⟨Nat.eq_of_beq_eq_true a, by omega⟩
  refine ⟨fun ci k x n hc hk hw h0 h1 q => ?_, fun ci cj n n' hc hc' h0 h1 h0' h1' q => ?_, fun ci k x cj k' x' n n' hc hk hw h0 h1 hc' hk' hw' h0' h1' q => ?_⟩
  · have a := (hA ci k x n hc hk hw h0 h1).1
    rw [q] at a
    have b : zAI.getD (zlO 20 0) 0 = 0 := by decide +kernel
    omega
  · have a := hO ci n hc h0 h1
    have b := hO cj n' hc' h0' h1'
    rw [q] at a
    exact ⟨by omega, by omega⟩
  · have a := hA ci k x n hc hk hw h0 h1
    have b := hA cj k' x' n' hc' hk' hw' h0' h1'
    rw [q] at a
    have c1 := (zNf_le2 hc hk).2
    have c2 := (zNf_le2 hc' hk').2
    exact ⟨by omega, by omega, by omega⟩
end
section
/-! The start: the heap that the constructors leave, and the second heap read off it. -/
/-- what a region holds, read off the cells -/
def zRd (h : zH1) (r : Nat) (n i : Int) : Int := match Nat.ble 2 (zW (r / 64) (r % 64) % 4) with
  | false => match h[zlO (r / 64) n]? with
    | some (_, _, f) => f (r % 64)
    | none => 0
  | true => match h[zlA r n]? with
    | some (_, _, f) => f i.toNat
    | none => 0
def zGs (h : zH1) : zH2 := (fun r n i => zRd h r n i, fun k i => zRd h (768 + k) 0 i, fun _ => match h[zlO 20 0]? with
  | some (_, _, f) => f 0
  | none => 0)
/-- the form of an object's cell -/
def zOb (h : zH1) (ci : Nat) (n : Nat) : Bool := match h[zlO ci (n : Int)]? with
  | some (k, m, f) => (Nat.beq k ci && Nat.beq m (zNf ci)) && (List.range (zNf ci)).all (fun j => match zW ci j % 4 with
    | 0 => true
    | 1 => true
    | 2 => decide (f j = (zlA (ci * 64 + j) (n : Int) : Int))
    | _ => match zW ci j / 64 % 2 with
      | 0 => decide (f j = (zlO (zW ci j / 4 % 16) ((zW ci j / 128 : Nat) : Int) : Int))
      | _ => decide (f j = (zlO (zW ci j / 4 % 16) ((n : Int) + ((zW ci j / 128 : Nat) : Int)) : Int)))
  | none => false
/-- the form of a row's cell -/
def zRo (h : zH1) (ci j : Nat) (n : Nat) : Bool := match zW ci j % 4 with
  | 2 => match h[zlA (ci * 64 + j) (n : Int)]? with
    | some (k, m, f) => (Nat.beq k (zW ci j / 4 / 65536) && Nat.beq m (zW ci j / 4 % 65536)) && (match k with
      | 23 => (List.range m).all (fun i => decide (f i = (zlO 1 (2 + (i : Int)) : Int)))
      | 24 => (List.range m).all (fun i => decide (f i = (zlO 3 (i : Int) : Int)))
      | _ => true)
    | none => false
  | _ => true
def zOk (h : zH1) : Bool := (List.range 13).all (fun ci => (List.range (zCnt ci)).all (fun n => zOb h ci n && (List.range (zNf ci)).all (fun j => zRo h ci j n))) && (match h[zlO 20 0]? with
  | some (k, m, _) => Nat.beq k 21 && Nat.beq m 1
  | none => false)
theorem zOk_s {h : zH1} (hk : zOk h = true) : zR2 zlO zlA (zGs h) h := by
  unfold zOk at hk
  rw [Bool.and_eq_true] at hk
  obtain ⟨k1, k2⟩ := hk
  have key : ∀ (ci : Nat) (n : Int), ci < 13 → 0 ≤ n → n < (zCnt ci : Int) → zOb h ci n.toNat = true ∧ ∀ j, j < zNf ci → zRo h ci j n.toNat = true := by
    intro ci n hc h0 h1
    have a1 := List.all_eq_true.mp k1 ci (List.mem_range.mpr hc)
    have a2 := List.all_eq_true.mp a1 n.toNat (List.mem_range.mpr (by omega))
    rw [Bool.and_eq_true] at a2
    exact ⟨a2.1, fun j hj => List.all_eq_true.mp a2.2 j (List.mem_range.mpr hj)⟩
  have hdiv : ∀ ci j, j < 64 → (ci * 64 + j) / 64 = ci ∧ (ci * 64 + j) % 64 = j := by
    intro ci j hj
    exact ⟨by omega, by omega⟩
  refine ⟨fun ci n hc h0 h1 => ?_, fun ci j x n hc hj hw h0 h1 => ?_, ?_⟩
  · obtain ⟨q, -⟩ := key ci n hc h0 h1
    have en : ((n.toNat : Nat) : Int) = n := by omega
    unfold zOb at q
    rw [en] at q
    split at q
    · rename_i k m f hcell
      simp only [Bool.and_eq_true] at q
      obtain ⟨⟨q1, q2⟩, q3⟩ := q
      have q1 := Nat.eq_of_beq_eq_true q1
      have q2 := Nat.eq_of_beq_eq_true q2
      subst q1
      subst q2
      refine ⟨f, hcell, fun j hj => ?_⟩
      have q4 := List.all_eq_true.mp q3 j (List.mem_range.mpr hj)
      have hlt := zNf_le2 hc hj
      obtain ⟨d1, d2⟩ := hdiv k j hlt.2
      have read : zW k j % 4 < 2 → f j = zGt (zGs h) (k * 64 + j) n 0 := by
        intro hlow
        have hb : Nat.ble 2 (zW k j % 4) = false := by
          cases q : Nat.ble 2 (zW k j % 4) with
          | false => rfl
          | true => have := Nat.le_of_ble_eq_true q; omega
        unfold zGt
        cases q : Nat.ble 768 (k * 64 + j) with
        | false =>
          show f j = zRd h (k * 64 + j) n 0
          unfold zRd
          rw [d1, d2, hb, hcell]
        | true =>
          have q := Nat.le_of_ble_eq_true q
          have e12 : k = 12 := by omega
          subst e12
          have n0 : n = 0 := by
            rw [zCnt12] at h1
            omega
          subst n0
          show f j = zRd h (768 + (12 * 64 + j - 768)) 0 0
          rw [show 768 + (12 * 64 + j - 768) = 12 * 64 + j from by omega]
          unfold zRd
          rw [d1, d2, hb, hcell]
      unfold zFl2
      split at q4
      · rename_i e; rw [e]; exact read (by omega)
      · rename_i e; rw [e]; exact read (by omega)
      · rename_i e; rw [e]; exact (show f j = (zlA (k * 64 + j) n : Int) from of_decide_eq_true q4)
      · rename_i e0 e1 e2
        split
        · rename_i e; exact absurd e e0
        · rename_i e; exact absurd e e1
        · rename_i e; exact absurd e e2
        · split at q4
          · rename_i e; rw [e]; exact (show f j = (zlO (zW k j / 4 % 16) ((zW k j / 128 : Nat) : Int) : Int) from of_decide_eq_true q4)
          · rename_i e
            split
            · rename_i e'; exact absurd e' e
            · exact of_decide_eq_true q4
    · cases q
  · obtain ⟨-, q⟩ := key ci n hc h0 h1
    have q := q j hj
    have en : ((n.toNat : Nat) : Int) = n := by omega
    have hlt := zNf_le2 hc hj
    obtain ⟨d1, d2⟩ := hdiv ci j hlt.2
    have e2 : zW ci j % 4 = 2 := by omega
    have ex : zW ci j / 4 = x := by omega
    unfold zRo at q
    rw [en, e2, ex] at q
    split at q
    · split at q
      · rename_i k m f hcell
        simp only [Bool.and_eq_true] at q
        obtain ⟨⟨q1, q2⟩, q3⟩ := q
        have q1 := Nat.eq_of_beq_eq_true q1
        have q2 := Nat.eq_of_beq_eq_true q2
        subst q1
        subst q2
        refine ⟨f, hcell, fun i hi => ?_⟩
        unfold zRw2
        split at q3
        · rename_i e
          rw [e]
          exact (show f i = (zlO 1 (2 + (i : Int)) : Int) from of_decide_eq_true (List.all_eq_true.mp q3 i (List.mem_range.mpr hi)))
        · rename_i e
          rw [e]
          exact (show f i = (zlO 3 (i : Int) : Int) from of_decide_eq_true (List.all_eq_true.mp q3 i (List.mem_range.mpr hi)))
        · rename_i e3 e4
          split
          · rename_i e; exact absurd e e3
          · rename_i e; exact absurd e e4
          · unfold zGt
            cases q : Nat.ble 768 (ci * 64 + j) with
            | false =>
              show f i = zRd h (ci * 64 + j) n (i : Int)
              unfold zRd
              rw [d1, d2, e2, hcell]
              rfl
            | true =>
              have q := Nat.le_of_ble_eq_true q
              have e12 : ci = 12 := by omega
              subst e12
              have n0 : n = 0 := by
                rw [zCnt12] at h1
                omega
              subst n0
              show f i = zRd h (768 + (12 * 64 + j - 768)) 0 (i : Int)
              rw [show 768 + (12 * 64 + j - 768) = 12 * 64 + j from by omega]
              unfold zRd
              rw [d1, d2, e2, hcell]
              rfl
      · cases q
    · rename_i hne
      exact absurd rfl hne
  · split at k2
    · rename_i k m f hcell
      rw [Bool.and_eq_true] at k2
      have q1 := Nat.eq_of_beq_eq_true k2.1
      have q2 := Nat.eq_of_beq_eq_true k2.2
      subst q1
      subst q2
      refine ⟨f, hcell, ?_⟩
      show f 0 = (match h[zlO 20 0]? with
        | some (_, _, f) => f 0
        | none => 0)
      rw [hcell]
    · cases k2
def zOs : List Nat := (List.range 13).flatMap (fun ci => (List.range (zCnt ci)).map (fun (n : Nat) => zlO ci (n : Int)))
end
section
/-! The heap of the start, and what it tells. -/
def kwf : Nat → Int := fun j => zPk 32 (kw (j : Int))
def zSta1 : Option (Option zAv × zH1) := zEm zRws kwf 5 0 [(2, 0)] [((11, zNf 11, zIni0 11) : zCe)]
def zSta2 (h1 : zH1) : Option (Option zAv × zH1) := zEm zRws kwf 5 168 [(2, (h1.length : Int))] (h1 ++ [((12, zNf 12, zIni0 12) : zCe)])
def zSta3 (h2 : zH1) : zH1 := h2 ++ [((21, 1, fun _ => (0 : Int)) : zCe)]
/-- all of a row's first n places -/
def zR0 (h : zH1) (r n : Nat) (v : Int) : Bool := match h[zlA r 0]? with
  | some (_, _, f) => (List.range n).all (fun i => decide (f i = v))
  | none => false
def zF0 (h : zH1) (ci k n : Nat) (v : Int) : Bool := match h[zlO ci (n : Int)]? with
  | some (_, _, f) => decide (f k = v)
  | none => false
def zK0 (h : zH1) : Bool := match h[zlA 330 0]? with
  | some (_, _, f) => (List.range 21).all (fun i => decide (f i = zPk 32 (kw (i : Int))))
  | none => false
def zWt0 (h : zH1) (n s : Nat) : Bool := Nat.beq h.length n && Nat.beq (zSl h) s
def zChk (h : zH1) : Bool := zWt0 h 197 (zSl h) && (zOk h && ((zR0 h 320 940 0 && (zR0 h 769 940 0 && (zR0 h 782 2140 0 && (zR0 h 790 2 0 && (zR0 h 809 2 (-1) && zK0 h))))) &&
  ((zF0 h 5 1 0 0 && (zF0 h 5 2 0 0 && (zF0 h 1 0 0 0 && (zF0 h 1 1 0 0 && (zF0 h 1 2 0 0 && (zF0 h 9 0 0 0 && (zF0 h 9 1 0 0 && (zF0 h 9 2 0 0 && (zF0 h 9 3 0 0 && (zF0 h 9 4 0 0 && (zF0 h 9 5 0 0 && (zF0 h 9 6 0 0 && (zF0 h 6 0 0 0 && (zF0 h 6 1 0 0 && (zF0 h 8 0 0 0 && (zF0 h 8 1 0 0 && (zF0 h 3 0 0 0 && (zF0 h 3 0 1 0 && (zF0 h 4 0 0 0 && (zF0 h 11 14 0 0 && (zF0 h 11 15 0 (-1) && zF0 h 11 16 0 (-1)))))))))))))))))))))) &&
   (zF0 h 12 2 0 0 && (zF0 h 12 10 0 0 && (zF0 h 12 23 0 0 && (zF0 h 12 35 0 0 && zF0 h 12 44 0 0)))))))
def zSlen : Nat := 200000
def zAllG (A : Unit → Option (Option zAv × zH1)) (B : zH1 → Option (Option zAv × zH1)) (C : zH1 → zH1 → Bool) : Bool := match A () with
  | some (none, h1) => match B h1 with
    | some (none, h2) => C h1 h2
    | _ => false
  | _ => false
theorem zAllG_s {A : Unit → Option (Option zAv × zH1)} {B : zH1 → Option (Option zAv × zH1)} {C : zH1 → zH1 → Bool} (h : zAllG A B C = true) : ∃ h1 h2 : zH1, A () = some (none, h1) ∧ B h1 = some (none, h2) ∧ C h1 h2 = true := by
  unfold zAllG at h
  split at h
  · rename_i h1 e1
    split at h
    · rename_i h2 e2
      exact ⟨h1, h2, e1, e2, h⟩
    · cases h
  · cases h
set_option maxRecDepth 1000000 in
theorem zAll0_ok : zAllG (fun _ => zSta1) zSta2 (fun h1 h2 => Nat.beq h1.length 172 && (Nat.beq h2.length 196 && (Nat.ble (zSl h2) 100000 && zChk (zSta3 h2)))) = true := by decide +kernel
end
