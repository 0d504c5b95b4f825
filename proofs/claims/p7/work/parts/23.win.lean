/-! The bytes of a code read as a list: a row's instruction is what decode says there. -/
section WN
theorem wn_bE {α β : Type} (r : Decoder α) (f : α → Decoder β) (C : ByteArray) (p : Nat) : (r >>= f).runAt C p = (r.runAt C p).bind (fun v => (f v.1).runAt C v.2) := rfl
theorem wn_u1E (C : ByteArray) (p : Nat) : (Jvm.ClassFile.Reader.u1 : Decoder Nat).runAt C p = if h : p < C.size then .ok (C[p].toNat, p + 1) else .error (.truncated p) := by
  have e : (Jvm.ClassFile.Reader.u1 : Decoder Nat).runAt C p = ((if h : p < C.size then (do set (p + 1); pure C[p].toNat) else throw (.truncated p)) : Decoder Nat).runAt C p := rfl
  rw [e]
  by_cases h : p < C.size
  · rw [dif_pos h, dif_pos h]; rfl
  · rw [dif_neg h, dif_neg h]; rfl
theorem wn_u1 {C : ByteArray} {p : Nat} {b : UInt8} {r : List UInt8} (h : C.data.toList.drop p = b :: r) : (Jvm.ClassFile.Reader.u1 : Decoder Nat).runAt C p = .ok (b.toNat, p + 1) ∧ C.data.toList.drop (p + 1) = r := by
  have hl : p < C.data.toList.length := by
    have := congrArg List.length h
    rw [List.length_drop, List.length_cons] at this
    omega
  have h2 : C.data.toList[p] :: C.data.toList.drop (p + 1) = b :: r := by rw [List.getElem_cons_drop]; exact h
  injection h2 with h3 h4
  refine ⟨?_, h4⟩
  rw [wn_u1E, dif_pos (show p < C.size from hl)]
  rw [show C[p]'(show p < C.size from hl) = b from h3]
theorem wn_u2 {C : ByteArray} {p : Nat} {b c : UInt8} {r : List UInt8} (h : C.data.toList.drop p = b :: c :: r) : (Jvm.ClassFile.Reader.u2 : Decoder Nat).runAt C p = .ok (b.toNat * 256 + c.toNat, p + 2) := by
  obtain ⟨h1, h2⟩ := wn_u1 h
  obtain ⟨h3, _⟩ := wn_u1 h2
  show ((Jvm.ClassFile.Reader.u1 : Decoder Nat) >>= fun hi => (Jvm.ClassFile.Reader.u1 : Decoder Nat) >>= fun lo => Pure.pure (hi * 256 + lo)).runAt C p = _
  rw [wn_bE, h1]
  show ((Jvm.ClassFile.Reader.u1 : Decoder Nat) >>= fun lo => Pure.pure (b.toNat * 256 + lo)).runAt C (p + 1) = _
  rw [wn_bE, h3]
  rfl
theorem wn_mE {α β : Type} (g : α → β) (r : Decoder α) (C : ByteArray) (p : Nat) : (g <$> r).runAt C p = (r.runAt C p).bind (fun v => .ok (g v.1, v.2)) := rfl
theorem wn_s1 {C : ByteArray} {p : Nat} {b : UInt8} {r : List UInt8} (h : C.data.toList.drop p = b :: r) : (Jvm.ClassFile.Reader.s1 : Decoder Int).runAt C p = .ok (Jvm.ClassFile.Reader.signed 8 b.toNat, p + 1) := by
  show (Jvm.ClassFile.Reader.signed 8 <$> (Jvm.ClassFile.Reader.u1 : Decoder Nat)).runAt C p = _
  rw [wn_mE, (wn_u1 h).1]
  rfl
theorem wn_s2 {C : ByteArray} {p : Nat} {b c : UInt8} {r : List UInt8} (h : C.data.toList.drop p = b :: c :: r) : (Jvm.ClassFile.Reader.s2 : Decoder Int).runAt C p = .ok (Jvm.ClassFile.Reader.signed 16 (b.toNat * 256 + c.toNat), p + 2) := by
  show (Jvm.ClassFile.Reader.signed 16 <$> (Jvm.ClassFile.Reader.u2 : Decoder Nat)).runAt C p = _
  rw [wn_mE, wn_u2 h]
  rfl
def wn0 : List (Nat × Instr) := [(42, .aload_n 0), (43, .aload_n 1), (27, .iload_n 1), (28, .iload_n 2), (29, .iload_n 3), (4, .iconst 1), (3, .iconst 0), (96, .iadd), (44, .aload_n 2), (177, .return_), (172, .ireturn), (190, .arraylength), (46, .iaload), (89, .dup), (2, .iconst (-1)), (5, .iconst 2), (6, .iconst 3), (7, .iconst 4), (8, .iconst 5), (9, .lconst 0), (10, .lconst 1), (26, .iload_n 0), (30, .lload_n 0), (31, .lload_n 1), (32, .lload_n 2), (33, .lload_n 3), (45, .aload_n 3), (47, .laload), (50, .aaload), (51, .baload), (59, .istore_n 0), (60, .istore_n 1), (61, .istore_n 2), (62, .istore_n 3), (63, .lstore_n 0), (64, .lstore_n 1), (65, .lstore_n 2), (66, .lstore_n 3), (75, .astore_n 0), (76, .astore_n 1), (77, .astore_n 2), (78, .astore_n 3), (79, .iastore), (80, .lastore), (83, .aastore), (84, .bastore), (87, .pop), (92, .dup2), (97, .ladd), (100, .isub), (101, .lsub), (104, .imul), (105, .lmul), (108, .idiv), (109, .ldiv), (112, .irem), (113, .lrem), (116, .ineg), (120, .ishl), (121, .lshl), (122, .ishr), (123, .lshr), (124, .iushr), (126, .iand), (128, .ior), (129, .lor), (130, .ixor), (133, .i2l), (136, .l2i), (148, .lcmp), (173, .lreturn)]
def wn1 : List (Nat × (Nat → Instr)) := [(21, .iload), (54, .istore), (25, .aload), (58, .astore), (18, .ldc), (22, .lload), (55, .lstore)]
def wn2 : List (Nat × (Nat → Instr)) := [(180, .getfield), (182, .invokevirtual), (181, .putfield), (184, .invokestatic), (183, .invokespecial), (19, .ldc_w), (20, .ldc2_w), (187, .new), (189, .anewarray)]
def wn3 : List (Nat × (Int → Instr)) := [(17, .sipush), (167, .goto), (153, .ifCond .eq), (154, .ifCond .ne), (155, .ifCond .lt), (156, .ifCond .ge), (157, .ifCond .gt), (158, .ifCond .le), (159, .if_icmp .eq), (160, .if_icmp .ne), (161, .if_icmp .lt), (162, .if_icmp .ge), (163, .if_icmp .gt), (164, .if_icmp .le)]
set_option maxRecDepth 100000 in
theorem wn_tab (pc : Nat) : ∃ f : Nat → Decoder Instr, Decoder.instr pc = (Jvm.ClassFile.Reader.u1 >>= f) ∧ (∀ q ∈ wn0, f q.1 = (Pure.pure q.2 : Decoder Instr)) ∧ (∀ q ∈ wn1, f q.1 = (Jvm.ClassFile.Reader.u1 >>= fun x => Pure.pure (q.2 x))) ∧ (∀ q ∈ wn2, f q.1 = (Jvm.ClassFile.Reader.u2 >>= fun x => Pure.pure (q.2 x))) ∧ (∀ q ∈ wn3, f q.1 = (Jvm.ClassFile.Reader.s2 >>= fun x => Pure.pure (q.2 x))) ∧ f 16 = (Jvm.ClassFile.Reader.s1 >>= fun x => Pure.pure (Instr.bipush x)) ∧ f 132 = (Jvm.ClassFile.Reader.u1 >>= fun x => Jvm.ClassFile.Reader.s1 >>= fun y => Pure.pure (Instr.iinc x y)) := by
  refine ⟨_, rfl, fun q h => ?_, fun q h => ?_, fun q h => ?_, fun q h => ?_, rfl, rfl⟩
  · simp only [wn0, List.mem_cons, List.not_mem_nil, or_false] at h
    rcases h with rfl | rfl | rfl | rfl | rfl | rfl | rfl | rfl | rfl | rfl | rfl | rfl | rfl | rfl | rfl | rfl | rfl | rfl | rfl | rfl | rfl | rfl | rfl | rfl | rfl | rfl | rfl | rfl | rfl | rfl | rfl | rfl | rfl | rfl | rfl | rfl | rfl | rfl | rfl | rfl | rfl | rfl | rfl | rfl | rfl | rfl | rfl | rfl | rfl | rfl | rfl | rfl | rfl | rfl | rfl | rfl | rfl | rfl | rfl | rfl | rfl | rfl | rfl | rfl | rfl | rfl | rfl | rfl | rfl | rfl | rfl <;> rfl
  · simp only [wn1, List.mem_cons, List.not_mem_nil, or_false] at h
    rcases h with rfl | rfl | rfl | rfl | rfl | rfl | rfl <;> rfl
  · simp only [wn2, List.mem_cons, List.not_mem_nil, or_false] at h
    rcases h with rfl | rfl | rfl | rfl | rfl | rfl | rfl | rfl | rfl <;> rfl
  · simp only [wn3, List.mem_cons, List.not_mem_nil, or_false] at h
    rcases h with rfl | rfl | rfl | rfl | rfl | rfl | rfl | rfl | rfl | rfl | rfl | rfl | rfl | rfl <;> rfl
def wnFd {α : Type} : List (Nat × α) → Nat → Option α
  | [], _ => none
  | q :: l, n => match Nat.beq q.1 n with
    | true => some q.2
    | false => wnFd l n
theorem wnFd_in {α : Type} {l : List (Nat × α)} {n : Nat} {x : α} (h : wnFd l n = some x) : (n, x) ∈ l := by
  induction l with
  | nil => cases h
  | cons q l ih =>
    unfold wnFd at h
    split at h
    · rename_i e
      have e := Nat.eq_of_beq_eq_true e
      have h := Option.some.inj h
      subst h
      subst e
      exact List.mem_cons_self
    · exact List.mem_cons_of_mem _ (ih h)
def wnX (l : List UInt8) : Option (Instr × Nat) := match l with
  | [] => none
  | b :: r => match wnFd wn0 b.toNat with
    | some i => some (i, 1)
    | none => match r with
      | [] => none
      | c :: r => match wnFd wn1 b.toNat with
        | some f => some (f c.toNat, 2)
        | none => match Nat.beq b.toNat 16 with
          | true => some (.bipush (Jvm.ClassFile.Reader.signed 8 c.toNat), 2)
          | false => match r with
            | [] => none
            | d :: _ => match wnFd wn2 b.toNat with
              | some f => some (f (c.toNat * 256 + d.toNat), 3)
              | none => match wnFd wn3 b.toNat with
                | some f => some (f (Jvm.ClassFile.Reader.signed 16 (c.toNat * 256 + d.toNat)), 3)
                | none => match Nat.beq b.toNat 132 with
                  | true => some (.iinc c.toNat (Jvm.ClassFile.Reader.signed 8 d.toNat), 3)
                  | false => none
theorem wn_fin {C : ByteArray} {pc n : Nat} {i : Instr} (h : (Decoder.instr pc).runAt C pc = .ok (i, pc + n)) : decode C pc = .ok (i, n) := by
  show ((Decoder.instr pc).runAt C pc >>= fun v => Pure.pure (v.1, v.2 - pc)) = _
  rw [h]
  show Except.ok (i, pc + n - pc) = _
  rw [Nat.add_sub_cancel_left]
theorem wnX_ok {C : ByteArray} {pc n : Nat} {i : Instr} (h : wnX (C.data.toList.drop pc) = some (i, n)) : decode C pc = .ok (i, n) := by
  obtain ⟨f, e, t0, t1, t2, t3, t4, t5⟩ := wn_tab pc
  refine wn_fin ?_
  generalize hl : C.data.toList.drop pc = l at h
  unfold wnX at h
  split at h
  · cases h
  rename_i b r
  obtain ⟨u1, u2⟩ := wn_u1 hl
  rw [e, wn_bE, u1]
  show (f b.toNat).runAt C (pc + 1) = _
  split at h
  · rename_i j ej
    have h := Option.some.inj h
    injection h with h1 h2
    subst h1
    subst h2
    rw [t0 _ (wnFd_in ej)]
    rfl
  split at h
  · cases h
  rename_i c r
  obtain ⟨v1, v2⟩ := wn_u1 u2
  split at h
  · rename_i g eg
    have h := Option.some.inj h
    injection h with h1 h2
    subst h1
    subst h2
    rw [t1 _ (wnFd_in eg), wn_bE, v1]
    rfl
  split at h
  · rename_i eb
    have eb := Nat.eq_of_beq_eq_true eb
    have h := Option.some.inj h
    injection h with h1 h2
    subst h1
    subst h2
    rw [eb, t4, wn_bE, wn_s1 u2]
    rfl
  split at h
  · cases h
  rename_i d r
  split at h
  · rename_i g eg
    have h := Option.some.inj h
    injection h with h1 h2
    subst h1
    subst h2
    rw [t2 _ (wnFd_in eg), wn_bE, wn_u2 u2]
    rfl
  split at h
  · rename_i g eg
    have h := Option.some.inj h
    injection h with h1 h2
    subst h1
    subst h2
    rw [t3 _ (wnFd_in eg), wn_bE, wn_s2 u2]
    rfl
  split at h
  · rename_i eb
    have eb := Nat.eq_of_beq_eq_true eb
    have h := Option.some.inj h
    injection h with h1 h2
    subst h1
    subst h2
    rw [eb, t5, wn_bE, v1]
    show (Jvm.ClassFile.Reader.s1 >>= fun y => Pure.pure (Instr.iinc c.toNat y) : Decoder Instr).runAt C (pc + 1 + 1) = _
    rw [wn_bE, wn_s1 v2]
    rfl
  · cases h
def wnI (l : List UInt8) (i : Instr) (len : Nat) : Bool := match wnX l with
  | some (j, n) => decide (j = i) && Nat.beq n len
  | none => false
theorem wnI_ok {C : ByteArray} {pc len : Nat} {i : Instr} (h : wnI (C.data.toList.drop pc) i len = true) : decode C pc = .ok (i, len) := by
  unfold wnI at h
  split at h
  · rename_i j n e
    rw [Bool.and_eq_true] at h
    have e1 := of_decide_eq_true h.1
    have e2 := Nat.eq_of_beq_eq_true h.2
    subst e1
    subst e2
    exact wnX_ok e
  · cases h
def wnC (mi : Nat) : List UInt8 := (zmCode mi).data.toList
def wnB (code : List UInt8) : Nat → List UInt8 → List zRow → Bool
  | _, _, [] => true
  | pos, l, q :: b => match Nat.beq q.1 pos with
    | true => wnI l q.2.1 q.2.2.1 && wnB code (q.1 + q.2.2.1) (l.drop q.2.2.1) b
    | false => wnI (code.drop q.1) q.2.1 q.2.2.1 && wnB code (q.1 + q.2.2.1) (code.drop (q.1 + q.2.2.1)) b
theorem wnB_ok {C : ByteArray} {b : List zRow} {pos : Nat} (h : wnB C.data.toList pos (C.data.toList.drop pos) b = true) : ∀ q ∈ b, decode C q.1 = .ok (q.2.1, q.2.2.1) := by
  induction b generalizing pos with
  | nil => intro q hq; cases hq
  | cons a b ih =>
    unfold wnB at h
    have key : wnI (C.data.toList.drop a.1) a.2.1 a.2.2.1 = true ∧ wnB C.data.toList (a.1 + a.2.2.1) (C.data.toList.drop (a.1 + a.2.2.1)) b = true := by
      split at h
      · rename_i e
        have e := Nat.eq_of_beq_eq_true e
        subst e
        rw [Bool.and_eq_true, List.drop_drop] at h
        exact h
      · rw [Bool.and_eq_true] at h
        exact h
    intro q hq
    cases hq with
    | head => exact wnI_ok key.1
    | tail _ hq => exact ih key.2 q hq
def zRw (mi : Nat) (b : List zRow) : Bool := wnB (wnC mi) 0 (wnC mi) b && b.all (fun q => zLnOk q.2.1 q.2.2.1 && (zAxOk (zmC mi) (zIsI mi) q.2.1 q.2.2.2 && zAx2 q.2.1 q.2.2.2))
theorem zRw_ok {mi : Nat} {b : List zRow} (h : zRw mi b = true) : zRk mi b = true := by
  unfold zRw at h
  unfold zRk
  rw [Bool.and_eq_true] at h
  have hb := wnB_ok (C := zmCode mi) (pos := 0) h.1
  have h2 := List.all_eq_true.mp h.2
  rw [List.all_eq_true]
  intro q hq
  rw [Bool.and_eq_true]
  refine ⟨?_, h2 q hq⟩
  rw [hb q hq]
  exact decide_eq_true rfl
theorem zCk1_w {mi pc : Nat} {i : Instr} {k cl n : Nat} (h : (wnI ((wnC mi).drop pc) i 3 && (zIsCall i k && (zAxOk (zmC mi) (zIsI mi) i (k, 0, 0) && (Nat.blt k 295 && (!Nat.beq (zmC k) 14 && (Nat.beq (zmC k) cl && Nat.beq n (zNa i k))))))) = true) : zCk1 mi pc i k cl n = true := by
  unfold zCk1
  rw [Bool.and_eq_true] at h ⊢
  refine ⟨?_, h.2⟩
  rw [wnI_ok (C := zmCode mi) h.1]
  exact decide_eq_true rfl
theorem zRe1_w {mi pc : Nat} {i : Instr} {ty : Option FieldType} (h : (wnI ((wnC mi).drop pc) i 1 && decide (zmRet mi = ty)) = true) : zRe1 mi pc i ty = true := by
  unfold zRe1
  rw [Bool.and_eq_true] at h ⊢
  refine ⟨?_, h.2⟩
  rw [wnI_ok (C := zmCode mi) h.1]
  exact decide_eq_true rfl
end WN
