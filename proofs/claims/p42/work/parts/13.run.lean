section
/-! Every instruction but calls. -/
theorem zLn_eq {i : Instr} {len n : Nat} (h : zLnOk i len = true) (h0 : zLn i = n + 1) : len = n + 1 := by
  unfold zLnOk at h
  rw [h0, Bool.or_eq_true] at h
  rcases h with h | h
  · exact (Nat.eq_of_beq_eq_true h).symm
  · exact absurd (Nat.eq_of_beq_eq_true h) (by omega)
theorem zAny_c {cls x : Nat} {v : Int} (h : zLC.any (fun r => Nat.beq r.1 cls && Nat.beq r.2.1 x && decide (r.2.2.1 = v)) = true) : Cond.constant (zOw cls) x (Int32.ofInt v) ∈ zGW ∧ zR32 v := by
  obtain ⟨r, hr, h1⟩ := List.any_eq_true.mp h
  simp only [Bool.and_eq_true, decide_eq_true_eq] at h1
  obtain ⟨⟨a1, a2⟩, a3⟩ := h1
  have e1 := Nat.eq_of_beq_eq_true a1; have e2 := Nat.eq_of_beq_eq_true a2
  have h5 := zMap zLC_at r hr
  have h6 := List.all_eq_true.mp zLC_r r hr
  simp only [Bool.and_eq_true, decide_eq_true_eq] at h6
  rw [e1, e2, a3] at h5
  rw [a3] at h6
  exact ⟨zAt h5 rfl, h6⟩
theorem zAny_j {cls x : Nat} {v : Int} (h : zLJ.any (fun r => Nat.beq r.1 cls && Nat.beq r.2.1 x && decide (r.2.2.1 = v)) = true) : Cond.constantLong (zOw cls) x (Int64.ofInt v) ∈ zGW ∧ zR64 v := by
  obtain ⟨r, hr, h1⟩ := List.any_eq_true.mp h
  simp only [Bool.and_eq_true, decide_eq_true_eq] at h1
  obtain ⟨⟨a1, a2⟩, a3⟩ := h1
  have e1 := Nat.eq_of_beq_eq_true a1; have e2 := Nat.eq_of_beq_eq_true a2
  have h5 := zMap zLJ_at r hr
  have h6 := List.all_eq_true.mp zLJ_r r hr
  simp only [Bool.and_eq_true, decide_eq_true_eq] at h6
  rw [e1, e2, a3] at h5
  rw [a3] at h6
  exact ⟨zAt h5 rfl, h6⟩
theorem zHp_spec {hop : zHop zH1} {i : Instr} {len : Nat} {ax : zAx} {pc : Nat} {L : zLo} {st : List zAv} {h : zH1} {gs : List Prop} {cf : zCf zH1} (hE : zHp hop i len ax (pc, L, st, h) = some (gs, cf)) : ∃ st' h', hop i ax st h = some (gs, st', h') ∧ cf = (pc + len, L, st', h') := by
  unfold zHp at hE
  simp only at hE
  split at hE
  · rename_i g st' h' e1
    cases hE
    exact ⟨st', h', e1, rfl⟩
  · cases hE
theorem zCk_spec {σ : Type} {b : Bool} {r : zRs σ} {gs : List Prop} {cf : zCf σ} (h : zCk b r = some (gs, cf)) : b = true ∧ r = some (gs, cf) := by
  unfold zCk at h
  split at h
  · exact ⟨rfl, h⟩
  · cases h
section ZM
variable {p : Program} {l : Launch} {e : Env} {R : Room} {s : State} {m : MethodId} {args : Array Value} {below : List Frame} {meth : Method} {c : Code} {Q : State → Prop}
variable {D : va_G} {A : Nat → Prop} {H0 : Heap} {b Ls : Nat} {xs : Nat → Int32} {mi n0 s0 : Nat}
variable {pc pc' : Nat} {L : zLo} {st st' : List zAv} {h h' : zH1} {gs : List Prop} {cf : zCf zH1} {as0 : List Nat}
set_option maxHeartbeats 4000000 in
theorem z_step {i : Instr} {len : Nat} {ax : zAx} {d : Int} (X : zCx p R s m args meth c A H0 b Ls xs mi) (hdec : decode (zmCode mi) pc = .ok (i, len)) (hln : zLnOk i len = true) (hax : zAxOk (zmC mi) (zIsI mi) i ax = true)
    (hE : zX (zHop1 Ls (fun j => (xs j).toInt)) i len ax d (pc, L, st, h) = some (gs, cf)) (hg : zAll gs) (hn : n0 ≤ h.length) (hs : s0 ≤ zSl h) (hrc : cf.2.2.2.length - n0 ≤ R.cells) (hrs : zSl cf.2.2.2 - s0 ≤ R.slots)
    (kk : zGoal p l e R s m args below meth c Q D A H0 b mi n0 s0 as0 cf) : zGoal p l e R s m args below meth c Q D A H0 b mi n0 s0 as0 (pc, L, st, h) := by
  obtain ⟨hx, hb, hml, hown, hts, hX'⟩ := id X
  cases i
  case aload n =>
    have hl := zLn_eq (n := 1) hln rfl; subst hl
    exact z_ld (row := fun as t x ls H locs rest k1 k2 hok hl k => by
      obtain ⟨r, hr⟩ := cv_ref (b := b) (as := as) (x := x) hok
      rw [hr] at hl k
      exact lv_aload hx hb hdec hl k) hE kk
  case aload_n n =>
    have hl := zLn_eq (n := 0) hln rfl; subst hl
    exact z_ld (row := fun as t x ls H locs rest k1 k2 hok hl k => by
      obtain ⟨r, hr⟩ := cv_ref (b := b) (as := as) (x := x) hok
      rw [hr] at hl k
      exact lv_aload_n hx hb hdec rfl hl k) hE kk
  case iload n =>
    have hl := zLn_eq (n := 1) hln rfl; subst hl
    exact z_ld (row := fun as t x ls H locs rest k1 k2 hok hl k => by
      have ht := Nat.eq_of_beq_eq_true hok
      subst ht
      exact lv_iload hx hb hdec hl k) hE kk
  case iload_n n =>
    have hl := zLn_eq (n := 0) hln rfl; subst hl
    exact z_ld (row := fun as t x ls H locs rest k1 k2 hok hl k => by
      have ht := Nat.eq_of_beq_eq_true hok
      subst ht
      exact lv_iload_n hx hb hdec rfl hl k) hE kk
  case lload n =>
    have hl := zLn_eq (n := 1) hln rfl; subst hl
    exact z_ld (row := fun as t x ls H locs rest k1 k2 hok hl k => by
      have ht := Nat.eq_of_beq_eq_true hok
      subst ht
      exact lv_lload hx hb hdec hl k) hE kk
  case lload_n n =>
    have hl := zLn_eq (n := 0) hln rfl; subst hl
    exact z_ld (row := fun as t x ls H locs rest k1 k2 hok hl k => by
      have ht := Nat.eq_of_beq_eq_true hok
      subst ht
      exact lv_lload_n hx hb hdec rfl hl k) hE kk
  case astore n =>
    have hl := zLn_eq (n := 1) hln rfl; subst hl
    exact z_sto (row := fun as t x ls H locs rest k1 k2 hok hn hl kk => by
      obtain ⟨r, hr⟩ := cv_ref (b := b) (as := as) (x := x) hok
      rw [hr] at kk ⊢
      exact lv_astore hx hb hdec hl hn rfl kk) hE kk
  case astore_n n =>
    have hl := zLn_eq (n := 0) hln rfl; subst hl
    exact z_sto (row := fun as t x ls H locs rest k1 k2 hok hn hl kk => by
      obtain ⟨r, hr⟩ := cv_ref (b := b) (as := as) (x := x) hok
      rw [hr] at kk ⊢
      exact lv_astore_n hx hb hdec rfl hl hn rfl kk) hE kk
  case istore n =>
    have hl := zLn_eq (n := 1) hln rfl; subst hl
    exact z_sto (row := fun as t x ls H locs rest k1 k2 hok hn hl kk => by
      have ht := Nat.eq_of_beq_eq_true hok
      subst ht
      exact lv_istore hx hb hdec hl hn rfl kk) hE kk
  case istore_n n =>
    have hl := zLn_eq (n := 0) hln rfl; subst hl
    exact z_sto (row := fun as t x ls H locs rest k1 k2 hok hn hl kk => by
      have ht := Nat.eq_of_beq_eq_true hok
      subst ht
      exact lv_istore_n hx hb hdec rfl hl hn rfl kk) hE kk
  case lstore n =>
    have hl := zLn_eq (n := 1) hln rfl; subst hl
    exact z_stoL (row := fun as x ls H locs rest k1 k2 hn hl kk => lv_lstore hx hb hdec hl hn rfl kk) hE kk
  case lstore_n n =>
    have hl := zLn_eq (n := 0) hln rfl; subst hl
    exact z_stoL (row := fun as x ls H locs rest k1 k2 hn hl kk => lv_lstore_n hx hb hdec rfl hl hn rfl kk) hE kk
  case iconst n =>
    have hl := zLn_eq (n := 0) hln rfl; subst hl
    obtain ⟨e1, e2⟩ := zCk_spec hE
    simp only [Bool.and_eq_true, decide_eq_true_eq] at e1
    exact z_pu (v := (0, n)) (hv := fun _ => (⟨by omega, by omega⟩ : zR32 n)) (row := fun as ls H locs rest k1 k2 k => lv_iconst hx hb hdec rfl k) e2 kk
  case lconst n =>
    have hl := zLn_eq (n := 0) hln rfl; subst hl
    have hn2 : (n : Nat) < 2 := n.isLt
    exact z_pu (v := (1, ((n : Nat) : Int))) (hv := fun _ => (⟨by omega, by omega⟩ : zR64 ((n : Nat) : Int))) (row := fun as ls H locs rest k1 k2 k => lv_lconst hx hb hdec Int64.ofInt_eq_ofNat.symm k) hE kk
  case bipush n =>
    have hl := zLn_eq (n := 1) hln rfl; subst hl
    obtain ⟨e1, e2⟩ := zCk_spec hE
    simp only [Bool.and_eq_true, decide_eq_true_eq] at e1
    exact z_pu (v := (0, n)) (hv := fun _ => (⟨by omega, by omega⟩ : zR32 n)) (row := fun as ls H locs rest k1 k2 k => lv_bipush hx hb hdec (Int8.toInt32_ofInt (by show -128 ≤ n; omega) (by show n ≤ 127; omega)) k) e2 kk
  case sipush n =>
    have hl := zLn_eq (n := 2) hln rfl; subst hl
    obtain ⟨e1, e2⟩ := zCk_spec hE
    simp only [Bool.and_eq_true, decide_eq_true_eq] at e1
    exact z_pu (v := (0, n)) (hv := fun _ => (⟨by omega, by omega⟩ : zR32 n)) (row := fun as ls H locs rest k1 k2 k => lv_sipush hx hb hdec (Int16.toInt32_ofInt (by show -32768 ≤ n; omega) (by show n ≤ 32767; omega)) k) e2 kk
  case ldc x =>
    have hl := zLn_eq (n := 1) hln rfl; subst hl
    obtain ⟨w1, w2⟩ := zAny_c hax
    exact z_pu (v := (0, ax.2.2)) (hv := fun _ => w2) (row := fun as ls H locs rest k1 k2 k => lv_ldc hx hb hown (hts _ w1) hdec k) hE kk
  case ldc_w x =>
    have hl := zLn_eq (n := 2) hln rfl; subst hl
    obtain ⟨w1, w2⟩ := zAny_c hax
    exact z_pu (v := (0, ax.2.2)) (hv := fun _ => w2) (row := fun as ls H locs rest k1 k2 k => lv_ldcw hx hb hown (hts _ w1) hdec k) hE kk
  case ldc2_w x =>
    have hl := zLn_eq (n := 2) hln rfl; subst hl
    obtain ⟨w1, w2⟩ := zAny_j hax
    exact z_pu (v := (1, ax.2.2)) (hv := fun _ => w2) (row := fun as ls H locs rest k1 k2 k => lv_ldc2 hx hb hown (hts _ w1) hdec k) hE kk
  case iadd =>
    have hl := zLn_eq (n := 0) hln rfl; subst hl
    exact z_b0 (hf := fun _ _ => rfl) (row := fun x y ls H locs rest k1 k2 k => lv_iadd hx hb hdec k) hE kk
  case isub =>
    have hl := zLn_eq (n := 0) hln rfl; subst hl
    exact z_b0 (hf := fun _ _ => rfl) (row := fun x y ls H locs rest k1 k2 k => lv_isub hx hb hdec k) hE kk
  case imul =>
    have hl := zLn_eq (n := 0) hln rfl; subst hl
    exact z_b0 (hf := fun _ _ => rfl) (row := fun x y ls H locs rest k1 k2 k => lv_imul hx hb hdec k) hE kk
  case iand =>
    have hl := zLn_eq (n := 0) hln rfl; subst hl
    exact z_b0 (hf := fun _ _ => rfl) (row := fun x y ls H locs rest k1 k2 k => lv_iand hx hb hdec k) hE kk
  case ior =>
    have hl := zLn_eq (n := 0) hln rfl; subst hl
    exact z_b0 (hf := fun _ _ => rfl) (row := fun x y ls H locs rest k1 k2 k => lv_ior hx hb hdec k) hE kk
  case ixor =>
    have hl := zLn_eq (n := 0) hln rfl; subst hl
    exact z_b0 (hf := fun _ _ => rfl) (row := fun x y ls H locs rest k1 k2 k => lv_ixor hx hb hdec k) hE kk
  case ishl =>
    have hl := zLn_eq (n := 0) hln rfl; subst hl
    exact z_b0 (hf := fun _ _ => rfl) (row := fun x y ls H locs rest k1 k2 k => lv_ishl hx hb hdec k) hE kk
  case ishr =>
    have hl := zLn_eq (n := 0) hln rfl; subst hl
    exact z_b0 (hf := fun _ _ => rfl) (row := fun x y ls H locs rest k1 k2 k => lv_ishr hx hb hdec k) hE kk
  case iushr =>
    have hl := zLn_eq (n := 0) hln rfl; subst hl
    exact z_b0 (F := fun x y => (x.toUInt32 >>> (y.toUInt32 &&& Int32.toUInt32 31)).toInt32) (hf := fun _ _ => rfl) (row := fun x y ls H locs rest k1 k2 k => lv_iushr hx hb hdec rfl k) hE kk
  case idiv =>
    have hl := zLn_eq (n := 0) hln rfl; subst hl
    exact z_b0d (hf := fun _ _ => rfl) (row := fun x y ls H locs rest k1 k2 hy k => lv_idiv hx hb hdec hy k) hE hg kk
  case irem =>
    have hl := zLn_eq (n := 0) hln rfl; subst hl
    exact z_b0d (F := fun x y => x - x / y * y) (hf := fun _ _ => rfl) (row := fun x y ls H locs rest k1 k2 hy k => lv_irem hx hb hdec hy k) hE hg kk
  case ladd =>
    have hl := zLn_eq (n := 0) hln rfl; subst hl
    exact z_b1 (hf := fun _ _ => rfl) (row := fun x y ls H locs rest k1 k2 k => lv_ladd hx hb hdec k) hE kk
  case lsub =>
    have hl := zLn_eq (n := 0) hln rfl; subst hl
    exact z_b1 (hf := fun _ _ => rfl) (row := fun x y ls H locs rest k1 k2 k => lv_lsub hx hb hdec k) hE kk
  case lmul =>
    have hl := zLn_eq (n := 0) hln rfl; subst hl
    exact z_b1 (hf := fun _ _ => rfl) (row := fun x y ls H locs rest k1 k2 k => lv_lmul hx hb hdec k) hE kk
  case lor =>
    have hl := zLn_eq (n := 0) hln rfl; subst hl
    exact z_b1 (hf := fun _ _ => rfl) (row := fun x y ls H locs rest k1 k2 k => lv_lor hx hb hdec k) hE kk
  case ldiv =>
    have hl := zLn_eq (n := 0) hln rfl; subst hl
    exact z_b1d (hf := fun _ _ => rfl) (row := fun x y ls H locs rest k1 k2 hy k => lv_ldiv hx hb hdec hy k) hE hg kk
  case lrem =>
    have hl := zLn_eq (n := 0) hln rfl; subst hl
    exact z_b1d (F := fun x y => x - x / y * y) (hf := fun _ _ => rfl) (row := fun x y ls H locs rest k1 k2 hy k => lv_lrem hx hb hdec hy k) hE hg kk
  case lshl =>
    have hl := zLn_eq (n := 0) hln rfl; subst hl
    exact z_b10 (F := fun x y => x <<< (y.toInt64 &&& 63)) (hf := fun _ _ => rfl) (row := fun x y ls H locs rest k1 k2 k => lv_lshl hx hb hdec rfl k) hE kk
  case lshr =>
    have hl := zLn_eq (n := 0) hln rfl; subst hl
    exact z_b10 (F := fun x y => x >>> (y.toInt64 &&& 63)) (hf := fun _ _ => rfl) (row := fun x y ls H locs rest k1 k2 k => lv_lshr hx hb hdec rfl k) hE kk
  case lcmp =>
    have hl := zLn_eq (n := 0) hln rfl; subst hl
    exact z_cp (row := fun x y ls H locs rest k1 k2 k => W.lcmp hx hb hdec k) hE kk
  case ineg =>
    have hl := zLn_eq (n := 0) hln rfl; subst hl
    exact z_u (u := 0) (t := 0) (f := wneg) (hf := fun _ x _ => r32 _) (row := fun n as x ls H locs rest k1 k2 hv k => lv_ineg hx hb hdec (by
      simp only [cv, wneg, Int32.ofInt_toInt] at k
      exact k)) hE kk
  case i2l =>
    have hl := zLn_eq (n := 0) hln rfl; subst hl
    exact z_u (u := 0) (t := 1) (f := fun x => x) (hf := fun _ x hv => (⟨by have := hv.1; omega, by have := hv.2; omega⟩ : zR64 x)) (row := fun n as x ls H locs rest k1 k2 hv k => lv_i2l hx hb hdec (Int32.toInt64_ofInt (by show -2147483648 ≤ x; exact hv.1) (by show x ≤ 2147483647; have := hv.2; omega)) k) hE kk
  case l2i =>
    have hl := zLn_eq (n := 0) hln rfl; subst hl
    exact z_u (u := 1) (t := 0) (f := wl2i) (hf := fun _ x _ => r32 _) (row := fun n as x ls H locs rest k1 k2 hv k => lv_l2i hx hb hdec rfl (by
      simp only [cv, wl2i, Int32.ofInt_toInt] at k
      exact k)) hE kk
  case dup =>
    have hl := zLn_eq (n := 0) hln rfl; subst hl
    exact z_dup (row := fun va ls H locs rest k1 k2 hv k => lv_dup hx hb hdec hv k) hE kk
  case pop =>
    have hl := zLn_eq (n := 0) hln rfl; subst hl
    exact z_pop (row := fun va ls H locs rest k1 k2 hv k => lv_pop hx hb hdec hv k) hE kk
  case dup2 =>
    have hl := zLn_eq (n := 0) hln rfl; subst hl
    exact z_dup2 (row := fun va vb ls H locs rest k1 k2 hv hw k => lv_dup2_11 hx hb hdec hv hw k) hE kk
  case iinc n k =>
    have hl := zLn_eq (n := 2) hln rfl; subst hl
    exact z_ii (n := n) (k := k) (row := fun as x j ls H locs rest k1 k2 hn hl hj kk => lv_iinc hx hb hdec hl hj (v := Int32.ofInt (wadd x k)) (by
      rw [wadd, Int32.ofInt_toInt]) hn rfl kk) hE kk
  case ifCond k off =>
    have hl := zLn_eq (n := 2) hln rfl; subst hl
    cases k
    case eq => exact z_if (k := .eq) (off := off) (P := fun x : Int32 => x = 0) (hP := fun x hx2 => o32_eq hx2 r32_0) (row := fun tgt x ls H locs rest k1 k2 ht kt kf => lv_if_eq hx hb hdec ht kt kf) hE hg kk
    case ne => exact z_if (k := .ne) (off := off) (P := fun x : Int32 => ¬ x = 0) (hP := fun x hx2 => not_congr (o32_eq hx2 r32_0)) (row := fun tgt x ls H locs rest k1 k2 ht kt kf => lv_if_ne hx hb hdec ht kt (fun q => kf (fun z => z q))) hE hg kk
    case lt => exact z_if (k := .lt) (off := off) (P := fun x : Int32 => x < 0) (hP := fun x hx2 => o32_lt hx2 r32_0) (row := fun tgt x ls H locs rest k1 k2 ht kt kf => lv_if_lt hx hb hdec ht kt kf) hE hg kk
    case ge => exact z_if (k := .ge) (off := off) (P := fun x : Int32 => 0 ≤ x) (hP := fun x hx2 => o32_le r32_0 hx2) (row := fun tgt x ls H locs rest k1 k2 ht kt kf => lv_if_ge hx hb hdec ht kt kf) hE hg kk
    case gt => exact z_if (k := .gt) (off := off) (P := fun x : Int32 => 0 < x) (hP := fun x hx2 => o32_lt r32_0 hx2) (row := fun tgt x ls H locs rest k1 k2 ht kt kf => lv_if_gt hx hb hdec ht kt kf) hE hg kk
    case le => exact z_if (k := .le) (off := off) (P := fun x : Int32 => x ≤ 0) (hP := fun x hx2 => o32_le hx2 r32_0) (row := fun tgt x ls H locs rest k1 k2 ht kt kf => lv_if_le hx hb hdec ht kt kf) hE hg kk
  case if_icmp k off =>
    have hl := zLn_eq (n := 2) hln rfl; subst hl
    cases k
    case eq => exact z_ic (k := .eq) (off := off) (P := fun x y : Int32 => x = y) (hP := fun x y hx2 hy2 => o32_eq hx2 hy2) (row := fun tgt x y ls H locs rest k1 k2 ht kt kf => lv_icmp_eq hx hb hdec ht kt kf) hE hg kk
    case ne => exact z_ic (k := .ne) (off := off) (P := fun x y : Int32 => ¬ x = y) (hP := fun x y hx2 hy2 => not_congr (o32_eq hx2 hy2)) (row := fun tgt x y ls H locs rest k1 k2 ht kt kf => lv_icmp_ne hx hb hdec ht kt (fun q => kf (fun z => z q))) hE hg kk
    case lt => exact z_ic (k := .lt) (off := off) (P := fun x y : Int32 => x < y) (hP := fun x y hx2 hy2 => o32_lt hx2 hy2) (row := fun tgt x y ls H locs rest k1 k2 ht kt kf => lv_icmp_lt hx hb hdec ht kt kf) hE hg kk
    case ge => exact z_ic (k := .ge) (off := off) (P := fun x y : Int32 => y ≤ x) (hP := fun x y hx2 hy2 => o32_le hy2 hx2) (row := fun tgt x y ls H locs rest k1 k2 ht kt kf => lv_icmp_ge hx hb hdec ht kt kf) hE hg kk
    case gt => exact z_ic (k := .gt) (off := off) (P := fun x y : Int32 => y < x) (hP := fun x y hx2 hy2 => o32_lt hy2 hx2) (row := fun tgt x y ls H locs rest k1 k2 ht kt kf => lv_icmp_gt hx hb hdec ht kt kf) hE hg kk
    case le => exact z_ic (k := .le) (off := off) (P := fun x y : Int32 => x ≤ y) (hP := fun x y hx2 hy2 => o32_le hx2 hy2) (row := fun tgt x y ls H locs rest k1 k2 ht kt kf => lv_icmp_le hx hb hdec ht kt kf) hE hg kk
  case goto off =>
    have hl := zLn_eq (n := 2) hln rfl; subst hl
    exact z_go (row := fun tgt ls H locs rest k1 k2 ht k => lv_goto hx hb hdec ht k) hE kk
  case tableswitch dflt lo hi offs =>
    exact z_ts (len := len) (rowO := fun tgt x ls H locs rest k1 k2 h1 ht k => lv_tableOut hx hb hdec h1 ht k) (rowI := fun tgt off x ls H locs rest k1 k2 h1 h2 ho ht k => lv_tableIn hx hb hdec h1 h2 ho ht k) hE hg kk
  case lookupswitch dflt ps =>
    exact z_ls (row := fun tgt off x ls H locs rest k1 k2 hp ho ht k => lv_lookup hx hb hdec hp ho ht k) hE hg kk
  case getfield x =>
    have hl := zLn_eq (n := 2) hln rfl; subst hl
    obtain ⟨st', h', e1, rfl⟩ := zHp_spec hE
    exact z_getf (len := 3) X hdec hax e1 hg kk
  case putfield x =>
    have hl := zLn_eq (n := 2) hln rfl; subst hl
    obtain ⟨st', h', e1, rfl⟩ := zHp_spec hE
    exact z_putf X hdec hax e1 hg kk
  case iaload =>
    have hl := zLn_eq (n := 0) hln rfl; subst hl
    obtain ⟨st', h', e1, rfl⟩ := zHp_spec hE
    exact z_sld X hdec hax e1 hg kk
  case laload =>
    have hl := zLn_eq (n := 0) hln rfl; subst hl
    obtain ⟨st', h', e1, rfl⟩ := zHp_spec hE
    exact z_lald X hdec e1 hg kk
  case baload =>
    have hl := zLn_eq (n := 0) hln rfl; subst hl
    obtain ⟨st', h', e1, rfl⟩ := zHp_spec hE
    exact z_zald X hdec e1 hg kk
  case aaload =>
    have hl := zLn_eq (n := 0) hln rfl; subst hl
    obtain ⟨st', h', e1, rfl⟩ := zHp_spec hE
    simp only [zHop1] at e1
    split at e1
    · rename_i e2
      rw [Bool.or_eq_true] at e2
      exact z_aald (e2.imp (fun z => Nat.eq_of_beq_eq_true z) (fun z => Nat.eq_of_beq_eq_true z)) X hdec e1 hg kk
    · cases e1
  case iastore =>
    have hl := zLn_eq (n := 0) hln rfl; subst hl
    obtain ⟨st', h', e1, rfl⟩ := zHp_spec hE
    exact z_iast X hdec e1 hg kk
  case lastore =>
    have hl := zLn_eq (n := 0) hln rfl; subst hl
    obtain ⟨st', h', e1, rfl⟩ := zHp_spec hE
    exact z_last X hdec e1 hg kk
  case bastore =>
    have hl := zLn_eq (n := 0) hln rfl; subst hl
    obtain ⟨st', h', e1, rfl⟩ := zHp_spec hE
    exact z_zast X hdec e1 hg kk
  case aastore =>
    have hl := zLn_eq (n := 0) hln rfl; subst hl
    obtain ⟨st', h', e1, rfl⟩ := zHp_spec hE
    exact z_aast X hdec e1 hg kk
  case arraylength =>
    have hl := zLn_eq (n := 0) hln rfl; subst hl
    obtain ⟨st', h', e1, rfl⟩ := zHp_spec hE
    exact z_alen X hdec hax e1 kk
  case new x =>
    have hl := zLn_eq (n := 2) hln rfl; subst hl
    obtain ⟨st', h', e1, rfl⟩ := zHp_spec (hop := zHop1 Ls (fun j => (xs j).toInt)) (i := .new x) (len := 3) (ax := ax) (pc := pc) (L := L) (st := st) (h := h) hE
    exact z_new X hdec hax e1 hn hs hrc hrs kk
  case newarray ty =>
    have hl := zLn_eq (n := 1) hln rfl; subst hl
    obtain ⟨st', h', e1, rfl⟩ := zHp_spec hE
    exact z_newa X hdec e1 hg hn hs hrc hrs kk
  case anewarray x =>
    have hl := zLn_eq (n := 2) hln rfl; subst hl
    obtain ⟨st', h', e1, rfl⟩ := zHp_spec hE
    exact z_newq X hdec hax e1 hg hn hs hrc hrs kk
  case invokestatic x =>
    have hl := zLn_eq (n := 2) hln rfl; subst hl
    obtain ⟨st', h', e1, rfl⟩ := zHp_spec hE
    by_cases h1 : ax.1 = 5001
    · have hax : zLY.any (fun r => Nat.beq r.1 (zmC mi) && Nat.beq r.2.1 x) = true := by
        simp only [zAxOk, h1] at hax
        exact hax
      exact z_copy h1 X hdec hax e1 hg kk
    by_cases h2 : ax.1 = 5002
    · have hax : zLM.any (fun r => Nat.beq r.1 (zmC mi) && Nat.beq r.2.1 x && Nat.beq r.2.2.1 2) = true := by
        simp only [zAxOk, h2] at hax
        exact hax
      exact z_mabs h2 X hdec hax hrc hrs e1 kk
    by_cases h3 : ax.1 = 5003
    · have hax : zLM.any (fun r => Nat.beq r.1 (zmC mi) && Nat.beq r.2.1 x && Nat.beq r.2.2.1 3) = true := by
        simp only [zAxOk, h3] at hax
        exact hax
      exact z_mmin h3 X hdec hax hrc hrs e1 kk
    by_cases h4 : ax.1 = 5004
    · have hax : zLM.any (fun r => Nat.beq r.1 (zmC mi) && Nat.beq r.2.1 x && Nat.beq r.2.2.1 4) = true := by
        simp only [zAxOk, h4] at hax
        exact hax
      exact z_mmax h4 X hdec hax hrc hrs e1 kk
    exfalso
    simp only [zHop1] at e1
    cases e1
  case invokespecial x =>
    have hl := zLn_eq (n := 2) hln rfl; subst hl
    obtain ⟨st', h', e1, rfl⟩ := zHp_spec hE
    exact z_obj X hdec (fun q => by
      simp only [zAxOk, q] at hax
      exact hax) e1 kk
  all_goals (have q : (none : zRs zH1) = some (gs, cf) := hE; cases q)
end ZM
end
section
/-! Runs of the abstract machine: places of one method, calls by depth. -/
def zFl : List zAv → zLo
  | [] => []
  | (t, x) :: r => match Nat.beq t 1 with
    | true => some (t, x) :: none :: zFl r
    | false => some (t, x) :: zFl r
def zEntry (args : List zAv) (n : Nat) : zLo := zFl args ++ List.replicate (n - (zFl args).length) none
def zNa (i : Instr) (k : Nat) : Nat := match i with
  | .invokestatic _ => zmN k
  | _ => zmN k + 1
def zIsCall (i : Instr) (k : Nat) : Bool := match i with
  | .invokestatic _ => true
  | .invokevirtual _ => true
  | .invokespecial _ => true
  | _ => false
def zSub (L L' : zLo) : Prop := L.length = L'.length ∧ ∀ (i : Nat) (a : zAv), zGl L i = some a → zGl L' i = some a
/-- words of a stack -/
def zWt : List zAv → Nat
  | [] => 0
  | a :: r => (match zEq1 a.1 with
    | true => 2
    | false => 1) + zWt r
section ZR
variable {σ : Type}
abbrev zRn (σ : Type) : Type := Nat → List zAv → σ → Option zAv → σ → Prop
abbrev zRc (σ : Type) : Type := σ → zAv → Nat → Prop
def zStepX (hop : zHop σ) (mi : Nat) (c c' : zCf σ) : Prop := ∃ (i : Instr) (len : Nat) (ax : zAx) (d : Int) (gs : List Prop), decode (zmCode mi) c.1 = .ok (i, len) ∧ zLnOk i len = true ∧ zAxOk (zmC mi) (zIsI mi) i ax = true ∧ zX hop i len ax d c = some (gs, c') ∧ zAll gs
def zStepC (rc : zRc σ) (run : zRn σ) (mi : Nat) (c c' : zCf σ) : Prop := ∃ (i : Instr) (ax : zAx) (args rest : List zAv) (r : Option zAv) (h1 : σ), decode (zmCode mi) c.1 = .ok (i, 3) ∧ zIsCall i ax.1 = true ∧ zAxOk (zmC mi) (zIsI mi) i ax = true ∧ ax.1 < 295 ∧ ¬ zmC ax.1 = 14 ∧ c.2.2.1 = args.reverse ++ rest ∧ args.length = zNa i ax.1 ∧ (∀ x, i = .invokevirtual x → ∃ a, args[0]? = some a ∧ rc c.2.2.2 a (zmC ax.1)) ∧ (∀ x, i = .invokespecial x → ∃ a, args[0]? = some a ∧ zGe2 a.1 = true) ∧ Nat.ble (zWt rest) 8 = true ∧ args.all (fun a => !Nat.beq a.1 5) = true ∧ run ax.1 args c.2.2.2 r h1 ∧ c' = (c.1 + 3, c.2.1, r.toList ++ rest, h1)
def zStepF (c c' : zCf σ) : Prop := c'.1 = c.1 ∧ c'.2.2 = c.2.2 ∧ zSub c'.2.1 c.2.1
def zStep (hop : zHop σ) (rc : zRc σ) (run : zRn σ) (mi : Nat) (c c' : zCf σ) : Prop := zStepX hop mi c c' ∨ zStepC rc run mi c c' ∨ zStepF c c'
def zReach (hop : zHop σ) (rc : zRc σ) (run : zRn σ) (mi : Nat) : Nat → zCf σ → zCf σ → Prop
  | 0, c, c' => c = c'
  | n + 1, c, c' => ∃ c1, zStep hop rc run mi c c1 ∧ zReach hop rc run mi n c1 c'
def zRet (mi : Nat) (c : zCf σ) (r : Option zAv) : Prop :=
  (decode (zmCode mi) c.1 = .ok (.ireturn, 1) ∧ ∃ v, c.2.2.1 = [(0, v)] ∧ r = some (0, v) ∧ (zmRet mi = some .int ∨ (zmRet mi = some .boolean ∧ (v = 0 ∨ v = 1)))) ∨
  (decode (zmCode mi) c.1 = .ok (.lreturn, 1) ∧ ∃ v, c.2.2.1 = [(1, v)] ∧ r = some (1, v) ∧ zmRet mi = some .long) ∨
  (decode (zmCode mi) c.1 = .ok (.return_, 1) ∧ c.2.2.1 = [] ∧ r = none ∧ zmRet mi = none)
/-- spec: methods that are told, not run -/
def zRun (hop : zHop σ) (rc : zRc σ) (spec : zRn σ) : Nat → zRn σ
  | 0 => fun _ _ _ _ _ => False
  | d + 1 => fun mi args h r h' => (7 ≤ d ∧ spec mi args h r h') ∨ (mi < 295 ∧ ¬ zmC mi = 14 ∧ (zFl args).length ≤ zmMax mi ∧ ∃ (n pc : Nat) (L : zLo) (st : List zAv), zReach hop rc (zRun hop rc spec d) mi n (0, zEntry args (zmMax mi), [], h) (pc, L, st, h') ∧ zRet mi (pc, L, st, h') r)
end ZR
theorem zl_set {h : zH1} {k : Nat} {c' : zCe} : (h.set k c').length = h.length := List.length_set
theorem zX_mono {Ls : Nat} {xs : Nat → Int} {i : Instr} {ax : zAx} {st st' : List zAv} {h h' : zH1} {gs : List Prop} (hE : zHop1 Ls xs i ax st h = some (gs, st', h')) : h.length ≤ h'.length ∧ zSl h ≤ zSl h' := by
  have sA : ∀ {kd t : Nat} {g : Int → List Prop}, zStA kd t g st h = some (gs, st', h') → h.length ≤ h'.length ∧ zSl h ≤ zSl h' := by
    intro kd t g hE
    unfold zStA at hE
    split at hE
    · split at hE
      · rename_i e1
        split at hE
        · cases hE
          refine ⟨by rw [zl_set]; exact Nat.le_refl _, ?_⟩
          exact Nat.le_of_eq (Eq.symm (zSl_set e1 rfl))
        · cases hE
      · cases hE
    · cases hE
  have lA : ∀ {kd t : Nat} {b : Bool}, zLdA kd t b st h = some (gs, st', h') → h.length ≤ h'.length ∧ zSl h ≤ zSl h' := by
    intro kd t b hE
    unfold zLdA at hE
    split at hE
    · split at hE
      · split at hE
        · cases hE
          exact ⟨Nat.le_refl _, Nat.le_refl _⟩
        · cases hE
      · cases hE
    · cases hE
  cases i
  case getfield x =>
    simp only [zHop1] at hE
    repeat' split at hE
    all_goals first | (cases hE; exact ⟨Nat.le_refl _, Nat.le_refl _⟩) | cases hE
  case putfield x =>
    simp only [zHop1] at hE
    split at hE
    · split at hE
      · rename_i e1
        split at hE
        · cases hE
          refine ⟨by rw [zl_set]; exact Nat.le_refl _, ?_⟩
          exact Nat.le_of_eq (Eq.symm (zSl_set e1 rfl))
        · cases hE
      · cases hE
    · cases hE
  case iaload =>
    simp only [zHop1] at hE
    split at hE
    · split at hE
      · cases hE; exact ⟨Nat.le_refl _, Nat.le_refl _⟩
      · cases hE
    · exact lA hE
  case laload => exact lA (kd := 21) (t := 1) (b := false) hE
  case baload => exact lA (kd := 22) (t := 0) (b := false) hE
  case aaload =>
    simp only [zHop1] at hE
    split at hE
    · exact lA hE
    · cases hE
  case iastore => exact sA hE
  case lastore => exact sA hE
  case bastore => exact sA hE
  case aastore =>
    simp only [zHop1] at hE
    split at hE
    · split at hE
      · split at hE
        · exact sA hE
        · cases hE
      · cases hE
    · cases hE
  case arraylength =>
    simp only [zHop1] at hE
    repeat' split at hE
    all_goals first | (cases hE; exact ⟨Nat.le_refl _, Nat.le_refl _⟩) | cases hE
  case new x =>
    cases hE
    rw [zSl_app]
    simp
  case newarray ty =>
    simp only [zHop1] at hE
    split at hE
    · split at hE
      · cases hE
        rw [zSl_app]
        simp
      · cases hE
    · cases hE
  case anewarray x =>
    simp only [zHop1] at hE
    split at hE
    · split at hE
      · cases hE
        rw [zSl_app]
        simp
      · cases hE
    · cases hE
  case invokestatic x =>
    simp only [zHop1] at hE
    split at hE
    · split at hE
      · split at hE
        · rename_i e0 e1
          split at hE
          · cases hE
            refine ⟨by rw [zl_set]; exact Nat.le_refl _, ?_⟩
            exact Nat.le_of_eq (Eq.symm (zSl_set e1 rfl))
          · cases hE
        · cases hE
      · cases hE
    all_goals (repeat' split at hE)
    all_goals first | (cases hE; exact ⟨Nat.le_refl _, Nat.le_refl _⟩) | cases hE
  case invokespecial x =>
    simp only [zHop1] at hE
    repeat' split at hE
    all_goals first | (cases hE; exact ⟨Nat.le_refl _, Nat.le_refl _⟩) | cases hE
  all_goals (have q : (none : Option (List Prop × List zAv × zH1)) = some (gs, st', h') := hE; cases q)
/-- all but the heap's instructions leave the heap -/
theorem zX_heap {σ : Type} {hop : zHop σ} {i : Instr} {len : Nat} {ax : zAx} {d : Int} {c c' : zCf σ} {gs : List Prop} (hE : zX hop i len ax d c = some (gs, c')) : c'.2.2.2 = c.2.2.2 ∨ ∃ (n : Nat) (st' : List zAv), hop i ax c.2.2.1 c.2.2.2 = some (gs, st', c'.2.2.2) ∧ c' = (c.1 + n, c.2.1, st', c'.2.2.2) := by
  obtain ⟨pc, L, st, h⟩ := c
  have hp : ∀ {n : Nat}, zHp hop i n ax (pc, L, st, h) = some (gs, c') → ∃ (n : Nat) (st' : List zAv), hop i ax st h = some (gs, st', c'.2.2.2) ∧ c' = (pc + n, L, st', c'.2.2.2) := by
    intro n hE
    unfold zHp at hE
    simp only at hE
    split at hE
    · rename_i e1
      cases hE
      exact ⟨n, _, e1, rfl⟩
    · cases hE
  have br : ∀ {g : Prop} {off d : Int} {r : List zAv}, zBr g off d r (pc, L, st, h) = some (gs, c') → c'.2.2.2 = h := by
    intro g off d r hE
    unfold zBr at hE
    repeat' split at hE
    all_goals first | (cases hE; rfl) | cases hE
  cases i
  case getfield x => exact Or.inr (hp hE)
  case putfield x => exact Or.inr (hp hE)
  case iaload => exact Or.inr (hp hE)
  case iastore => exact Or.inr (hp hE)
  case laload => exact Or.inr (hp hE)
  case lastore => exact Or.inr (hp hE)
  case baload => exact Or.inr (hp hE)
  case bastore => exact Or.inr (hp hE)
  case aaload => exact Or.inr (hp hE)
  case aastore => exact Or.inr (hp hE)
  case arraylength => exact Or.inr (hp hE)
  case new x => exact Or.inr (hp hE)
  case newarray x => exact Or.inr (hp hE)
  case anewarray x => exact Or.inr (hp hE)
  case invokestatic x => exact Or.inr (hp hE)
  case invokespecial x => exact Or.inr (hp hE)
  case ifCond k off =>
    left
    simp only [zX, zIf] at hE
    split at hE
    · exact br hE
    · cases hE
  case if_icmp k off =>
    left
    simp only [zX, zIc] at hE
    split at hE
    · exact br hE
    · cases hE
  all_goals left
  all_goals simp only [zX, zLd, zSto, zStoL, zCk, zPu, zB0, zB0d, zB1, zB1d, zB10, zCp, zU, zDup, zPop, zDup2, zIi, zGo, zTs, zLs] at hE
  all_goals (repeat' split at hE)
  all_goals first | (cases hE; rfl) | cases hE
end
section
/-! What the abstract machine runs the real one runs: a contract a method. -/
def zKnH (D : va_G) (U : State) (ca : Nat → ClassId) (h : zH1) : Prop := (∃ tys, va_K D vwCl tys U ∧ ∀ (k : Nat) (c : zCe), h[k]? = some c → 20 ≤ c.1 → ∃ t0 : Nat, tys[t0]? = some (ca k, zAk c.1))
def zPre (D : va_G) (as : List Nat) (ca : Nat → ClassId) (h : zH1) (U : State) : Prop :=
  as.length = h.length ∧ zKnH D U ca h ∧ va_P D vwCl (zWs as ca h) U.heap ∧ va_D (fun _ => True) (zWs as ca h) ∧ (∀ (k : Nat) (c : zCe), h[k]? = some c → wfc h.length c) ∧ zKnS U
def zQc (D : va_G) (b : Nat) (as : List Nat) (ca : Nat → ClassId) (h : zH1) (sz : Nat) (r : Option zAv) (h' : zH1) : Array Value → State → Outcome → State → Prop := fun _ st o t =>
  (∃ (as' : List Nat) (ca' : Nat → ClassId), o = .returned (r.map (cv b as')) ∧ as <+: as' ∧ as'.length = h'.length ∧ zKnH D t ca' h' ∧ va_P D vwCl (zWs as' ca' h') t.heap ∧ va_D (va_A (zWs as ca h) sz) (zWs as' ca' h') ∧ (∀ (k : Nat) (c : zCe), h'[k]? = some c → wfc h'.length c) ∧ ∀ a, r = some a → wfv h'.length False a) ∧ va_F (va_A (zWs as ca h) sz) st t
def zWd (mi : Nat) : List Cond := Cond.code (zmY mi) (zmCode mi) (zmMax mi) (zmRet mi) :: zGW
def zRm1 (d mc ms : Nat) : Room := { frames := d, cells := mc, slots := ms, locals := 60 * d }
/-- the contract of a run of method mi, at depth d -/
def zMet (l : Launch) (d mi : Nat) (args : List zAv) (h : zH1) (r : Option zAv) (h' : zH1) : Prop :=
  h.length ≤ h'.length ∧ zSl h ≤ zSl h' ∧ ∀ (D : va_G) (b : Nat) (as : List Nat) (ca : Nat → ClassId) (sz : Nat), (∀ a ∈ args, wfv h.length False a) →
    Met l (zmY mi) (zWd mi) (zRm1 d (h'.length - h.length) (zSl h' - zSl h)) (va_Pc (args.map (cv b as)) (fun U => U.heap.size = sz ∧ zPre D as ca h U)) (zQc D b as ca h sz r h') (h'.length - h.length) (zSl h' - zSl h) (va_A (zWs as ca h) sz)
theorem zKnS_warm {s U : State} (hW : s.WarmedH U.vm) (h : zKnS s) : zKnS U :=
  ⟨va_AO.moved hW.alike h.1, va_AO.moved hW.alike h.2.1, fun r hr => va_Nw.warmM hW (h.2.2.1 r hr), fun r hr => va_Nw.warmM hW (h.2.2.2 r hr)⟩
theorem zKnS_same {u U : State} (hv : u.vm = U.vm) (h : zKnS u) : zKnS U :=
  ⟨va_AO.moved (by rw [← hv]; exact Vm.Alike.refl _) h.1, va_AO.moved (by rw [← hv]; exact Vm.Alike.refl _) h.2.1, fun r hr => va_Nw.same rfl hv (h.2.2.1 r hr), fun r hr => va_Nw.same rfl hv (h.2.2.2 r hr)⟩
theorem zKnH.moved {D : va_G} {u U : State} {ca : Nat → ClassId} {h : zH1} (hv : u.vm.Alike U.vm) (hk : zKnH D u ca h) : zKnH D U ca h := by
  obtain ⟨tys, h1, h2⟩ := hk
  exact ⟨tys, va_K.moved hv h1, h2⟩
theorem zBlind {D : va_G} {av : List Value} {as : List Nat} {ca : Nat → ClassId} {h : zH1} {sz : Nat} : FrameBlind (va_Pc av (fun U => U.heap.size = sz ∧ zPre D as ca h U)) := fun a U g mk q =>
  ⟨q.1, q.2.1, q.2.2.1, zKnH.moved (u := U) (U := U.calling g mk a) (Vm.Alike.refl U.vm) q.2.2.2.1, q.2.2.2.2.1, q.2.2.2.2.2.1, q.2.2.2.2.2.2.1, zKnS_same (u := U) (U := U.calling g mk a) rfl q.2.2.2.2.2.2.2⟩
theorem cv_pre {b : Nat} {as as' : List Nat} {sc : Prop} {a : zAv} (hp : as <+: as') (h : wfv as.length sc a) : cv b as' a = cv b as a := by
  obtain ⟨tl, rfl⟩ := hp
  obtain ⟨t, x⟩ := a
  unfold cv wfv at *
  simp only at *
  split
  · rfl
  · rfl
  · obtain ⟨h1, h2⟩ := h
    rw [List.getD_eq_getElem?_getD, List.getElem?_append_left (by omega), ← List.getD_eq_getElem?_getD]
  · rfl
theorem wfv_sc {n : Nat} {sc : Prop} {a : zAv} (h : wfv n False a) : wfv n sc a := by
  obtain ⟨t, x⟩ := a
  unfold wfv at *
  simp only at *
  split at h
  · exact h
  · exact h
  · exact h
  · exact h.elim
  · exact h.elim
section ZC
variable {p : Program} {l : Launch} {e : Env} {R : Room} {s : State} {m : MethodId} {args : Array Value} {below : List Frame} {meth : Method} {c : Code} {Q : State → Prop}
variable {D : va_G} {A : Nat → Prop} {H0 : Heap} {b Ls : Nat} {xs : Nat → Int32} {mi n0 s0 : Nat}
theorem zA_of {as : List Nat} {ca : Nat → ClassId} {h : zH1} {H : Heap} {locs : List Loc} (hD : va_D A (zWs as ca h)) (hS : va_S A H0 H locs) (hA : ∀ q, H0.size ≤ q → A q) : ∀ q, va_A (zWs as ca h) H.size q → A q := by
  intro q hq
  rcases hq with ⟨k, ee, hk⟩ | hq
  · exact hD.2 k (q, ee) hk
  · exact hA q (Nat.le_trans hS.1 hq)
/-- behind a call -/
theorem z_back {as : List Nat} {ca : Nat → ClassId} {h h1 : zH1} {H : Heap} {locs : List Loc} {ls : Array Slot} {L : zLo} {pc mc ms k1 k2 : Nat} {st0 : List Value} {rest : List zAv} {r : Option zAv} {as0 : List Nat} {a : Array Value}
    (hA : ∀ q, H0.size ≤ q → A q) (hH : zHR s D A H0 as ca h H locs) (hF : zFR b (zmC mi = 16) as h.length L rest ls (zmMax mi)) (hp : as0 <+: as) (hle : h.length ≤ h1.length) (ek1 : k1 + mc = h1.length - n0) (ek2 : k2 + ms = zSl h1 - s0)
    (hr : va_Run p l e R s m args below meth c H locs k1 k2 mc ms (F0 m pc ls st0) (rest.map (cv b as)) (zQc D b as ca h H.size r h1 a) (va_A (zWs as ca h) H.size))
    (kk : zGoal p l e R s m args below meth c Q D A H0 b mi n0 s0 as0 (pc + 3, L, r.toList ++ rest, h1)) : W p l e R s m args below meth c H locs k1 k2 Q (F0 m pc ls st0) := by
  obtain ⟨a1, -, -, hD, hS, -⟩ := id hH
  have hfr := zA_of hD hS hA
  intro T hT X
  obtain ⟨v, st₀, t, T', LL, h0, X', hL, e1, e2, ⟨⟨as', ca', hv, hpf, b1, b2, b3, b4, b5, b6⟩, hz, hk⟩, st⟩ := hr T hT X
  cases hv
  rw [h0] at hz hk
  have hS' : va_S A H0 T'.heap (locs ++ LL) := ⟨Nat.le_trans hS.1 (by rw [e1]; exact hz), fun q h1 h2 => by rw [e1, hk q (Nat.lt_of_lt_of_le h1 hS.1) (fun z => h2 (hfr q z))]; exact hS.2.1 q h1 h2, fun q hq => by
      rcases List.mem_append.mp hq with h | h
      · exact hS.2.2 q h
      · exact hfr _ (hL q h)⟩
  have hal : s.vm.Alike t.vm := by rw [← e2]; exact X'.warmed.alike
  have hH' : zHR s D A H0 as' ca' h1 T'.heap (locs ++ LL) := by
    obtain ⟨tys, c1, c2⟩ := b2
    exact ⟨b1, ⟨tys, va_K.moved hal.symm c1, c2⟩, by rw [e1]; exact b3, ⟨b4.1, fun k q hq => hfr _ (b4.2 k q hq)⟩, hS', b5⟩
  have hcv : ∀ x, wfv h.length (zmC mi = 16) x → cv b as' x = cv b as x := by
    intro x hx
    exact cv_pre hpf (by rw [a1]; exact hx)
  have hF' : zFR b (zmC mi = 16) as' h1.length L (r.toList ++ rest) ls (zmMax mi) := by
    refine ⟨⟨hF.1.1, hF.1.2.1, fun i x hx => by rw [hcv x (hF.2.2.1 i x hx)]; exact hF.1.2.2 i x hx⟩, hF.2.1, fun i x hx => wfv_up hle (hF.2.2.1 i x hx), fun x hx => ?_⟩
    rcases List.mem_append.mp hx with hx | hx
    · cases r with
      | none => cases hx
      | some y =>
        have : x = y := by simpa using hx
        subst this
        exact wfv_sc (b6 x rfl)
    · exact wfv_up hle (hF.2.2.2 x hx)
  have := kk as' ca' ls T'.heap (locs ++ LL) hH' hF' (hp.trans hpf)
  rw [← ek1, ← ek2] at this
  have hst : (r.map (cv b as')).toList ++ rest.map (cv b as) = (r.toList ++ rest).map (cv b as') := by
    rw [List.map_append]
    congr 1
    · cases r <;> rfl
    · exact List.map_congr_left fun x hx => (hcv x (hF.2.2.2 x hx)).symm
  obtain ⟨t2, a2, b2⟩ := this T' rfl X'
  refine ⟨t2, st t2 ?_, b2⟩
  show Steps p.tables e below (T'.setTop { (F0 m pc ls st0) with pc := pc + 3, stack := (r.map (cv b as')).toList ++ rest.map (cv b as) }) t2
  rw [hst]
  exact a2
end ZC
section ZD
variable {p : Program} {l : Launch} {e : Env} {R : Room} {s : State} {m : MethodId} {args : Array Value} {below : List Frame} {meth : Method} {c : Code} {Q : State → Prop}
variable {D : va_G} {A : Nat → Prop} {H0 : Heap} {b Ls : Nat} {xs : Nat → Int32} {mi n0 s0 : Nat}
def zRc1 : zRc zH1 := fun h a ci => ci < 13 ∧ a.1 = 2 ∧ ∃ (n : Nat) (f : Nat → Int), h[a.2.toNat]? = some (ci, n, f)
theorem zAny_v {cls x k : Nat} (h : zLV.any (fun r => Nat.beq r.1 cls && Nat.beq r.2.1 x && Nat.beq r.2.2.1 k) = true) : Cond.methodLink (zOw cls) x (zmY k) ∈ zGW ∧ Cond.instanceMethod (zmY k) ∈ zGW ∧ Cond.selects (zmY k).cls (zmY k) (zmY k) ∈ zGW := by
  obtain ⟨r, hr, h1⟩ := List.any_eq_true.mp h
  simp only [Bool.and_eq_true] at h1
  obtain ⟨⟨a1, a2⟩, a3⟩ := h1
  have e1 := Nat.eq_of_beq_eq_true a1; have e2 := Nat.eq_of_beq_eq_true a2; have e3 := Nat.eq_of_beq_eq_true a3
  have h5 := zMap zLV_at r hr
  simp only [Prod.mk.injEq] at h5
  rw [e1, e2, e3] at h5
  exact ⟨zAt h5.1 rfl, zAt h5.2.1 rfl, zAt h5.2.2 rfl⟩
theorem zAny_s {cls x k : Nat} (h : zLS.any (fun r => Nat.beq r.1 cls && Nat.beq r.2.1 x && Nat.beq r.2.2.1 k) = true) : Cond.methodLink (zOw cls) x (zmY k) ∈ zGW ∧ Cond.static (zmY k) ∈ zGW := by
  obtain ⟨r, hr, h1⟩ := List.any_eq_true.mp h
  simp only [Bool.and_eq_true] at h1
  obtain ⟨⟨a1, a2⟩, a3⟩ := h1
  have e1 := Nat.eq_of_beq_eq_true a1; have e2 := Nat.eq_of_beq_eq_true a2; have e3 := Nat.eq_of_beq_eq_true a3
  have h5 := zMap zLS_at r hr
  simp only [Prod.mk.injEq] at h5
  rw [e1, e2, e3] at h5
  exact ⟨zAt h5.1 rfl, zAt h5.2 rfl⟩
theorem zAny_sn {cls x k : Nat} {s : State} (hk : zKnS s) (h : zLSN.any (fun r => Nat.beq r.1 cls && Nat.beq r.2.1 x && Nat.beq r.2.2.1 k) = true) : va_Nw (.methodLinkNest (zOw cls) x (zmY k) "EchoVale") s ∧ Cond.static (zmY k) ∈ zGW := by
  obtain ⟨r, hr, h1⟩ := List.any_eq_true.mp h
  simp only [Bool.and_eq_true] at h1
  obtain ⟨⟨a1, a2⟩, a3⟩ := h1
  have e1 := Nat.eq_of_beq_eq_true a1; have e2 := Nat.eq_of_beq_eq_true a2; have e3 := Nat.eq_of_beq_eq_true a3
  have h5 := zMap zLSN_at r hr
  simp only [Prod.mk.injEq] at h5
  have h6 := hk.2.2.1 r hr
  rw [e1, e2, e3] at h5 h6
  exact ⟨h6, zAt h5.2 rfl⟩
theorem zAny_p {cls x k : Nat} (h : zLP.any (fun r => Nat.beq r.1 cls && Nat.beq r.2.1 x && Nat.beq r.2.2.1 k) = true) : Cond.methodLink (zOw cls) x (zmY k) ∈ zGW ∧ Cond.instanceMethod (zmY k) ∈ zGW ∧ (zmY k).name = "<init>" ∧ zmRet k = none := by
  obtain ⟨r, hr, h1⟩ := List.any_eq_true.mp h
  simp only [Bool.and_eq_true] at h1
  obtain ⟨⟨a1, a2⟩, a3⟩ := h1
  have e1 := Nat.eq_of_beq_eq_true a1; have e2 := Nat.eq_of_beq_eq_true a2; have e3 := Nat.eq_of_beq_eq_true a3
  have h5 := zMap zLP_at r hr
  simp only [Prod.mk.injEq] at h5
  rw [e1, e2, e3] at h5
  exact ⟨zAt h5.1 rfl, zAt h5.2.1 rfl, h5.2.2.1, h5.2.2.2⟩
theorem zAny_pn {cls x k : Nat} {s : State} (hk : zKnS s) (h : zLPN.any (fun r => Nat.beq r.1 cls && Nat.beq r.2.1 x && Nat.beq r.2.2.1 k) = true) : va_Nw (.methodLinkNest (zOw cls) x (zmY k) "EchoVale") s ∧ Cond.instanceMethod (zmY k) ∈ zGW ∧ (zmY k).name = "<init>" ∧ zmRet k = none := by
  obtain ⟨r, hr, h1⟩ := List.any_eq_true.mp h
  simp only [Bool.and_eq_true] at h1
  obtain ⟨⟨a1, a2⟩, a3⟩ := h1
  have e1 := Nat.eq_of_beq_eq_true a1; have e2 := Nat.eq_of_beq_eq_true a2; have e3 := Nat.eq_of_beq_eq_true a3
  have h5 := zMap zLPN_at r hr
  simp only [Prod.mk.injEq] at h5
  have h6 := hk.2.2.2 r hr
  rw [e1, e2, e3] at h5 h6
  exact ⟨h6, zAt h5.2.1 rfl, h5.2.2.1, h5.2.2.2⟩
theorem zWd_good {k : Nat} (h : k < 295) : ∀ w ∈ zWd k, w ∈ zGW := by
  intro w hw
  rcases List.mem_cons.mp hw with rfl | hw
  · exact zm_code (by rw [zMs_len]; exact h)
  · exact hw
theorem zWd_pay {k : Nat} {s : State} {args : Array Value} (h : k < 295) (hts : ∀ w ∈ zGW, w.before args s = true) : ∀ w ∈ zWd k, ∀ (a' : Array Value) (U : State), s.WarmedH U.vm → w.before a' U = true :=
  pay_in hts (zGW_good (zWd_good h))
theorem z_call {d : Nat} {as0 : List Nat} {cf cf' : zCf zH1} {run : zRn zH1} (hRf : d + 1 ≤ R.frames) (hRl : 60 * d + 40 ≤ R.locals) (X : zCx p R s m args meth c A H0 b Ls xs mi) (hC : zStepC zRc1 run mi cf cf') (hm : ∀ k args h r h', run k args h r h' → zMet l d k args h r h')
    (hn : n0 ≤ cf.2.2.2.length) (hs : s0 ≤ zSl cf.2.2.2) (hrc : cf'.2.2.2.length - n0 ≤ R.cells) (hrs : zSl cf'.2.2.2 - s0 ≤ R.slots) (kk : zGoal p l e R s m args below meth c Q D A H0 b mi n0 s0 as0 cf') : zGoal p l e R s m args below meth c Q D A H0 b mi n0 s0 as0 cf := by
  obtain ⟨i, ax, as1, rest, r, h1, hdec, hic, hax, hk, h14, hst, hlen, hrcv, hrcs, hrl, h5, hrun, rfl⟩ := hC
  obtain ⟨hx, hb, hml, hown, hts, hkn, hA, hnm, -⟩ := X
  obtain ⟨pc, L, st, h⟩ := cf
  dsimp only at *
  subst hst
  obtain ⟨hle1, hle2, hmet⟩ := hm _ _ _ _ _ hrun
  have hkl : ax.1 < zMs.length := by rw [zMs_len]; exact hk
  obtain ⟨hpl, hc1, hc2⟩ := zm_plain hkl h14
  obtain ⟨hpar, hmx, -⟩ := zm_par hkl
  intro as ca ls H locs hH hF hp
  dsimp only at hH hF ⊢
  have hpre : ∀ U : State, U.heap = H → s.WarmedH U.vm → U.heap.size = H.size ∧ zPre D as ca h U := by
    intro U hU hW
    obtain ⟨a1, a2, a3, a4, a5, a6⟩ := id hH
    exact ⟨by rw [hU], a1, zKnH.moved hW.alike a2, by rw [hU]; exact a3, ⟨a4.1, fun _ _ _ => trivial⟩, a6, zKnS_warm hW hkn⟩
  have hwa : ∀ a ∈ as1, wfv h.length False a := by
    intro a ha
    have h1 := hF.2.2.2 a (List.mem_append_left _ (List.mem_reverse.mpr ha))
    have h2 := List.all_eq_true.mp h5 a ha
    obtain ⟨t, z⟩ := a
    unfold wfv at *
    simp only at *
    split at h1
    · exact h1
    · exact h1
    · exact h1
    · simp at h2
    · exact h1
  have hM := hmet D b as ca H.size hwa
  have hFr : zFR b (zmC mi = 16) as h.length L rest ls (zmMax mi) := ⟨hF.1, hF.2.1, hF.2.2.1, fun x hx => hF.2.2.2 x (List.mem_append_right _ hx)⟩
  have hroom : 2 * (F0 m pc ls ((as1.reverse ++ rest).map (cv b as))).monitorRoom + ((rest.map (cv b as)).map fun v => v.category).sum ≤ 8 := by
    have hl : zWt rest ≤ 8 := Nat.le_of_ble_eq_true hrl
    have key : ∀ r : List zAv, ((r.map (cv b as)).map fun v => v.category).sum ≤ zWt r := by
      intro r
      induction r with
      | nil => exact Nat.le_refl 0
      | cons a r ih =>
        simp only [List.map_cons, List.sum_cons]
        have ha : (cv b as a).category ≤ (match zEq1 a.1 with
          | true => 2
          | false => 1) := by
          obtain ⟨t, x⟩ := a
          match t with
          | 0 => exact Nat.le_refl 1
          | 1 => exact Nat.le_refl 2
          | 2 => exact Nat.le_refl 1
          | t + 3 => exact Nat.le_refl 1
        exact Nat.add_le_add ha ih
    have := key rest
    show 2 * 0 + _ ≤ 8
    omega
  have hfit : h.length - n0 + (h1.length - h.length) ≤ R.cells ∧ zSl h - s0 + (zSl h1 - zSl h) ≤ R.slots := ⟨by omega, by omega⟩
  have hpp : ∀ sig, parseMethodDescriptor (zmY ax.1).desc = some sig → zmN ax.1 = sig.parameters.length := by
    intro sig q
    rw [q] at hpar
    exact (Option.some.inj hpar).symm
  have hRl2 : 8 + (zmMax ax.1 + 11) + (zRm1 d (h1.length - h.length) (zSl h1 - zSl h)).locals ≤ R.locals := by
    show 8 + (zmMax ax.1 + 11) + 60 * d ≤ R.locals
    omega
  have hcal : CallFix p m c (zmCode mi) (zmMax mi) s args zGW (zOw (zmC mi)) := ⟨hx, hb, hml, hown, hts⟩
  have hB : ∀ x ret, zmRet ax.1 = ret → (Cond.methodLink (zOw (zmC mi)) x (zmY ax.1)).before args s = true → CallB R s args (zOw (zmC mi)) x (zmY ax.1) (zmCode ax.1) (zmMax ax.1) ret (zWd ax.1) (zRm1 d (h1.length - h.length) (zSl h1 - zSl h)) (h1.length - h.length) (zSl h1 - zSl h) (zmN ax.1) := by
    intro x ret hret hl
    subst hret
    exact ⟨rfl, rfl, hRf, hRl2, zWd_pay hk hts, List.mem_cons_self, hts _ (zm_code hkl), hts _ (zm_ini hkl), ⟨hc1, hc2⟩, hpp, hl⟩
  have hN : ∀ x ret, zmRet ax.1 = ret → va_Nw (.methodLinkNest (zOw (zmC mi)) x (zmY ax.1) "EchoVale") s → va_CN R s args (zOw (zmC mi)) x (zmY ax.1) "EchoVale" (zmCode ax.1) (zmMax ax.1) ret (zWd ax.1) (zRm1 d (h1.length - h.length) (zSl h1 - zSl h)) (h1.length - h.length) (zSl h1 - zSl h) (zmN ax.1) := by
    intro x ret hret hl
    subst hret
    exact ⟨⟨rfl, rfl, hRf, hRl2, zWd_pay hk hts, List.mem_cons_self⟩, hts _ (zm_code hkl), hts _ (zm_ini hkl), ⟨hc1, hc2⟩, hpp, va_Nw.use rfl hl⟩
  have fin : ∀ {a : Array Value}, va_Run p l e R s m args below meth c H locs (h.length - n0) (zSl h - s0) (h1.length - h.length) (zSl h1 - zSl h) (F0 m pc ls ((as1.reverse ++ rest).map (cv b as))) (rest.map (cv b as)) (zQc D b as ca h H.size r h1 a) (va_A (zWs as ca h) H.size) → W p l e R s m args below meth c H locs (h.length - n0) (zSl h - s0) Q (F0 m pc ls ((as1.reverse ++ rest).map (cv b as))) :=
    fun hr => z_back hA hH hFr hp hle1 (by omega) (by omega) hr kk
  have hrev : (as1.reverse ++ rest).map (cv b as) = (as1.map (cv b as)).reverse ++ rest.map (cv b as) := by rw [List.map_append, List.map_reverse]
  cases i
  case invokestatic x =>
    have hS : PreS s H (va_Pc (as1.map (cv b as)) (fun U => U.heap.size = H.size ∧ zPre D as ca h U)) (as1.map (cv b as)) := ⟨zBlind, fun U hU hW => ⟨rfl, hpre U hU hW⟩⟩
    have hax2 : zLS.any (fun r => Nat.beq r.1 (zmC mi) && Nat.beq r.2.1 x && Nat.beq r.2.2.1 ax.1) = true ∨ zLSN.any (fun r => Nat.beq r.1 (zmC mi) && Nat.beq r.2.1 x && Nat.beq r.2.2.1 ax.1) = true := by
      simp only [zAxOk] at hax
      split at hax
      · omega
      · omega
      · omega
      · omega
      · exact Bool.or_eq_true _ _ ▸ hax
    rcases hax2 with hax2 | hax2
    · obtain ⟨w1, w2⟩ := zAny_s hax2
      exact fin (va_runS (g := F0 m pc ls ((as1.reverse ++ rest).map (cv b as))) hcal hM ⟨hB x _ rfl (hts _ w1), hts _ w2⟩ hS rfl (by rw [List.length_map]; exact hlen) hF.1.1 hrev hroom hdec hfit)
    · obtain ⟨w1, w2⟩ := zAny_sn hkn hax2
      exact fin (va_runSN (g := F0 m pc ls ((as1.reverse ++ rest).map (cv b as))) hcal hM ⟨hN x _ rfl w1, hts _ w2, trivial⟩ hS rfl (by rw [List.length_map]; exact hlen) hF.1.1 hrev hroom hdec hfit)
  case invokevirtual x =>
    obtain ⟨w1, w2, w3⟩ := zAny_v hax
    obtain ⟨a0, ha0, hci, ht, nn, ff, hcell⟩ := hrcv x rfl
    cases as1 with
    | nil => cases ha0
    | cons a As =>
      cases ha0
      obtain ⟨t, o⟩ := a0
      simp only at ht
      subst ht
      obtain ⟨a1, ⟨tys, a2, a3⟩, a4, a5, a6, a7⟩ := id hH
      have he := zWs_at (as := as) (ca := ca) hcell
      rw [zEnt_o (by omega)] at he
      have hrec := va_recv a2 a4 (zCl_at hci) he
      have hV : PreV s H (zmY ax.1).cls (as.getD o.toNat 0) (va_Pc (((2, o) :: As).map (cv b as)) (fun U => U.heap.size = H.size ∧ zPre D as ca h U)) (As.map (cv b as)) := ⟨zBlind, by rw [zm_cls hkl]; exact hrec, fun U hU hW => ⟨rfl, hpre U hU hW⟩⟩
      have hlen2 : (As.map (cv b as)).length = zmN ax.1 := by
        rw [List.length_map]
        have : As.length + 1 = zmN ax.1 + 1 := hlen
        omega
      have hrev2 : (((2, o) :: As).reverse ++ rest).map (cv b as) = (As.map (cv b as)).reverse ++ .ref (as.getD o.toNat 0) :: rest.map (cv b as) := by
        rw [hrev]
        simp [cv]
      exact fin (va_runV (g := F0 m pc ls ((((2, o) :: As).reverse ++ rest).map (cv b as))) hcal hM ⟨hB x _ rfl (hts _ w1), hts _ w2, hts _ w3⟩ hV rfl hlen2 hF.1.1 hrev2 hroom hdec hfit)
  case invokespecial x =>
    have hax2 : zLP.any (fun r => Nat.beq r.1 (zmC mi) && Nat.beq r.2.1 x && Nat.beq r.2.2.1 ax.1) = true ∨ zLPN.any (fun r => Nat.beq r.1 (zmC mi) && Nat.beq r.2.1 x && Nat.beq r.2.2.1 ax.1) = true := by
      simp only [zAxOk] at hax
      split at hax
      · omega
      · exact Bool.or_eq_true _ _ ▸ hax
    cases as1 with
    | nil => simp [zNa] at hlen
    | cons a As =>
      obtain ⟨v0, hv0⟩ : ∃ v0 : Nat, cv b as a = .ref v0 := by
        obtain ⟨a9, q1, q2⟩ := hrcs x rfl
        cases q1
        obtain ⟨t9, z9⟩ := a
        exact cv_ref q2
      have hS : PreS s H (va_Pc ((a :: As).map (cv b as)) (fun U => U.heap.size = H.size ∧ zPre D as ca h U)) (.ref v0 :: As.map (cv b as)) := ⟨zBlind, fun U hU hW => ⟨by rw [List.map_cons, hv0], hpre U hU hW⟩⟩
      have hlen2 : (As.map (cv b as)).length = zmN ax.1 := by
        rw [List.length_map]
        have : As.length + 1 = zmN ax.1 + 1 := hlen
        omega
      have hrev2 : ((a :: As).reverse ++ rest).map (cv b as) = (As.map (cv b as)).reverse ++ .ref v0 :: rest.map (cv b as) := by
        rw [hrev]
        simp [hv0]
      rcases hax2 with hax2 | hax2
      · obtain ⟨w1, w2, w3, w4⟩ := zAny_p hax2
        exact fin (va_runI (g := F0 m pc ls (((a :: As).reverse ++ rest).map (cv b as))) hcal hM ⟨hB x none w4 (hts _ w1), w3, hts _ w2⟩ hS rfl hlen2 hF.1.1 hrev2 hroom hdec hfit)
      · obtain ⟨w1, w2, w3, w4⟩ := zAny_pn hkn hax2
        exact fin (va_runIN (g := F0 m pc ls (((a :: As).reverse ++ rest).map (cv b as))) hcal hM ⟨hN x none w4 w1, w3, hts _ w2⟩ hS rfl hlen2 hF.1.1 hrev2 hroom hdec hfit)
  all_goals cases hic
theorem z_forget {as0 : List Nat} {cf cf' : zCf zH1} (hC : zStepF cf cf') (kk : zGoal p l e R s m args below meth c Q D A H0 b mi n0 s0 as0 cf') : zGoal p l e R s m args below meth c Q D A H0 b mi n0 s0 as0 cf := by
  obtain ⟨pc, L, st, h⟩ := cf
  obtain ⟨pc', L', st', h'⟩ := cf'
  obtain ⟨h1, h2, h3⟩ := hC
  dsimp only at h1 h2 h3
  cases h2
  subst h1
  intro as ca ls H locs hH hF hp
  exact kk as ca ls H locs hH ⟨⟨hF.1.1, hF.1.2.1, fun i a ha => hF.1.2.2 i a (h3.2 i a ha)⟩, h3.1.trans hF.2.1, fun i a ha => hF.2.2.1 i a (h3.2 i a ha), hF.2.2.2⟩ hp
theorem zStep_mono {Ls : Nat} {xs : Nat → Int} {d : Nat} {cf cf' : zCf zH1} {run : zRn zH1} (hm : ∀ k args h r h', run k args h r h' → zMet l d k args h r h') (hS : zStep (zHop1 Ls xs) zRc1 run mi cf cf') : cf.2.2.2.length ≤ cf'.2.2.2.length ∧ zSl cf.2.2.2 ≤ zSl cf'.2.2.2 := by
  rcases hS with ⟨i, len, ax, d, gs, -, -, -, hE, -⟩ | ⟨i, ax, as1, rest, r, h1, -, -, -, -, -, -, -, -, -, -, -, hrun, rfl⟩ | ⟨-, h2, -⟩
  · rcases zX_heap hE with h | ⟨n, st', h, -⟩
    · rw [h]; exact ⟨Nat.le_refl _, Nat.le_refl _⟩
    · exact zX_mono h
  · obtain ⟨h1, h2, -⟩ := hm _ _ _ _ _ hrun
    exact ⟨h1, h2⟩
  · rw [h2]; exact ⟨Nat.le_refl _, Nat.le_refl _⟩
theorem zReach_mono {Ls : Nat} {xs : Nat → Int} {d n : Nat} {cf cf' : zCf zH1} {run : zRn zH1} (hm : ∀ k args h r h', run k args h r h' → zMet l d k args h r h') (hS : zReach (zHop1 Ls xs) zRc1 run mi n cf cf') : cf.2.2.2.length ≤ cf'.2.2.2.length ∧ zSl cf.2.2.2 ≤ zSl cf'.2.2.2 := by
  induction n generalizing cf with
  | zero => cases hS; exact ⟨Nat.le_refl _, Nat.le_refl _⟩
  | succ n ih =>
    obtain ⟨c1, h1, h2⟩ := hS
    have q1 := zStep_mono hm h1
    have q2 := ih h2
    omega
theorem z_reach {d n : Nat} {as0 : List Nat} {cf cf' : zCf zH1} {run : zRn zH1} (hRf : d + 1 ≤ R.frames) (hRl : 60 * d + 40 ≤ R.locals) (X : zCx p R s m args meth c A H0 b Ls xs mi) (hm : ∀ k args h r h', run k args h r h' → zMet l d k args h r h')
    (hS : zReach (zHop1 Ls (fun j => (xs j).toInt)) zRc1 run mi n cf cf') (hn : n0 ≤ cf.2.2.2.length) (hs : s0 ≤ zSl cf.2.2.2) (hrc : cf'.2.2.2.length - n0 ≤ R.cells) (hrs : zSl cf'.2.2.2 - s0 ≤ R.slots)
    (kk : zGoal p l e R s m args below meth c Q D A H0 b mi n0 s0 as0 cf') : zGoal p l e R s m args below meth c Q D A H0 b mi n0 s0 as0 cf := by
  induction n generalizing cf with
  | zero => cases hS; exact kk
  | succ n ih =>
    obtain ⟨c1, h1, h2⟩ := hS
    have q1 := zStep_mono hm h1
    have q2 := zReach_mono hm h2
    have k1 := ih h2 (by omega) (by omega)
    rcases h1 with ⟨i, len, ax, d, gs, g1, g2, g3, g4, g5⟩ | h1 | h1
    · obtain ⟨pc, L, st, h⟩ := cf
      exact z_step X g1 g2 g3 g4 g5 hn hs (by omega) (by omega) k1
    · exact z_call hRf hRl X h1 hm hn hs (by omega) (by omega) k1
    · exact z_forget h1 k1
end ZD
theorem zFl_len {b : Nat} {as : List Nat} {args : List zAv} : (lg_sl (args.map (cv b as))).length = (zFl args).length := by
  induction args with
  | nil => rfl
  | cons a r ih =>
    obtain ⟨t, x⟩ := a
    unfold zFl
    split
    · rename_i h1
      have h1 := Nat.eq_of_beq_eq_true h1
      subst h1
      simp only [List.map_cons, lg_sl, List.flatMap_cons, List.length_append, List.length_cons]
      have : (cv b as (1, x)).category = 2 := rfl
      rw [if_pos this]
      simp only [lg_sl] at ih
      simp [ih]
      omega
    · rename_i h1
      have h1 := Nat.ne_of_beq_eq_false h1
      simp only [List.map_cons, lg_sl, List.flatMap_cons, List.length_append, List.length_cons]
      have : ¬ (cv b as (t, x)).category = 2 := fun q => h1 (cv_cat2 q)
      rw [if_neg this]
      simp only [lg_sl] at ih
      simp [ih]
      omega
theorem zGl_cons {x : Option zAv} {L : zLo} {i : Nat} : zGl (x :: L) (i + 1) = zGl L i := rfl
theorem zEntry_in {b : Nat} {as : List Nat} {n : Nat} : ∀ (args : List zAv) (k i : Nat) (a : zAv), zGl (zFl args ++ List.replicate n none) i = some a → (k + i, cv b as a) ∈ lv_args k (args.map (cv b as)) := by
  intro args
  induction args with
  | nil =>
    intro k i a h
    exfalso
    simp only [zFl, List.nil_append] at h
    unfold zGl at h
    split at h
    · rename_i e
      have := List.mem_of_getElem? e
      have := List.eq_of_mem_replicate this
      cases this
    · cases h
  | cons y r ih =>
    intro k i a h
    obtain ⟨t, x⟩ := y
    unfold zFl at h
    split at h
    · rename_i h1
      have h1 := Nat.eq_of_beq_eq_true h1
      subst h1
      have hc : (cv b as (1, x)).category = 2 := rfl
      rw [List.map_cons]
      unfold lv_args
      rw [if_pos hc]
      match i, h with
      | 0, h =>
        cases h
        exact List.mem_cons_self
      | 1, h => cases h
      | i + 2, h =>
        have := ih (k + 2) i a h
        rw [show k + 2 + i = k + (i + 2) by omega] at this
        exact List.mem_cons_of_mem _ this
    · rename_i h1
      have h1 := Nat.ne_of_beq_eq_false h1
      have hc : ¬ (cv b as (t, x)).category = 2 := fun q => h1 (cv_cat2 q)
      rw [List.map_cons]
      unfold lv_args
      rw [if_neg hc]
      match i, h with
      | 0, h =>
        cases h
        exact List.mem_cons_self
      | i + 1, h =>
        have := ih (k + 1) i a h
        rw [show k + 1 + i = k + (i + 1) by omega] at this
        exact List.mem_cons_of_mem _ this
theorem zEntry_mem {n : Nat} : ∀ (args : List zAv) (i : Nat) (a : zAv), zGl (zFl args ++ List.replicate n none) i = some a → a ∈ args := by
  intro args
  induction args with
  | nil =>
    intro i a h
    exfalso
    simp only [zFl, List.nil_append] at h
    unfold zGl at h
    split at h
    · rename_i e
      have := List.eq_of_mem_replicate (List.mem_of_getElem? e)
      cases this
    · cases h
  | cons y r ih =>
    intro i a h
    obtain ⟨t, x⟩ := y
    unfold zFl at h
    split at h
    · match i, h with
      | 0, h => cases h; exact List.mem_cons_self
      | 1, h => cases h
      | i + 2, h => exact List.mem_cons_of_mem _ (ih i a h)
    · match i, h with
      | 0, h => cases h; exact List.mem_cons_self
      | i + 1, h => exact List.mem_cons_of_mem _ (ih i a h)
set_option maxHeartbeats 2000000 in
theorem z_met {l : Launch} {spec : zRn zH1} (hsp : ∀ d k args h r h', 7 ≤ d → spec k args h r h' → zMet l (d + 1) k args h r h') : ∀ (d mi : Nat) (args : List zAv) (h : zH1) (r : Option zAv) (h' : zH1), zRun (zHop1 0 (fun _ => 0)) zRc1 spec d mi args h r h' → zMet l d mi args h r h' := by
  intro d
  induction d with
  | zero => intro mi args h r h' q; exact q.elim
  | succ d ih =>
    intro mi args h r h' q
    rcases q with ⟨q1, q2⟩ | ⟨hk, h14, hfl, n, pc, L, st, hS, hret⟩
    · exact hsp d _ _ _ _ _ q1 q2
    have hmono := zReach_mono ih hS
    dsimp only at hmono
    refine ⟨hmono.1, hmono.2, fun D b as ca sz hwa => ?_⟩
    have hkl : mi < zMs.length := by rw [zMs_len]; exact hk
    obtain ⟨hpl, -, -⟩ := zm_plain hkl h14
    refine Met.ofW (cc := zmCode mi) (maxL := zmMax mi) (ret := zmRet mi) hpl rfl ?_
    intro p e s m args1 below meth c s₁ B hml hv
    obtain ⟨rfl, hsz, hpre⟩ := hv
    obtain ⟨a1, a2, a3, a4, a5, a6⟩ := hpre
    have hx := B.exec
    have hb := B.bytes
    have hr := B.returns
    have hts0 := atoms_spec (ws := zWd mi) B.pre
    have hts : ∀ w ∈ zGW, w.before ((args.map (cv b as)).toArray) s = true := fun w hw => hts0 w (List.mem_cons_of_mem _ hw)
    have hown : s.vm.findClass (zmY mi).cls = some m.cls := findClass_of_methodNamed B.named
    rw [zm_cls hkl] at hown
    have hlocks := B.notSynchronized
    have hin : meth.name = (zmY mi).name := (name_of_methodNamed B.named B.method).1
    subst hsz
    generalize hAe : va_A (zWs as ca h) s.heap.size = A
    have hA : ∀ q : Nat, s.heap.size ≤ q → A q := fun q h => by rw [← hAe]; exact Or.inr h
    have hD : va_D A (zWs as ca h) := by rw [← hAe]; exact a4.self
    have X : zCx p (headSpec (zWd mi) (zRm1 (d + 1) (h'.length - h.length) (zSl h' - zSl h))).room s m ((args.map (cv b as)).toArray) meth c A s.heap b 0 (fun _ => 0) mi :=
      ⟨hx, hb, hml, hown, hts, a6, hA, hin, fun q => absurd q (zm_notlaw hkl), by show 1 ≤ d + 1; omega, by show 40 ≤ 60 * (d + 1); omega⟩
    have hl := lv_entry (args.map (cv b as)) (n := zmMax mi) (by rw [zFl_len]; exact hfl)
    rw [lg_entry_eq]
    generalize (lg_sl (args.map (cv b as)) ++ List.replicate (zmMax mi - (lg_sl (args.map (cv b as))).length) Slot.unset).toArray = ls at hl ⊢
    have hF : zFR b (zmC mi = 16) as h.length (zEntry args (zmMax mi)) [] ls (zmMax mi) := by
      refine ⟨⟨hl.1, hl.2.1, fun i a ha => ?_⟩, by unfold zEntry; rw [List.length_append, List.length_replicate]; omega, fun i a ha => wfv_sc (hwa a (zEntry_mem _ _ _ ha)), fun a ha => by cases ha⟩
      have := zEntry_in (b := b) (as := as) args 0 i a ha
      rw [Nat.zero_add] at this
      exact hl.2.2 _ this
    have hH : zHR s D A s.heap as ca h s.heap [] := ⟨a1, a2, a3, hD, va_S.rf, a5⟩
    have key : zGoal p l e (headSpec (zWd mi) (zRm1 (d + 1) (h'.length - h.length) (zSl h' - zSl h))).room s m ((args.map (cv b as)).toArray) below meth c (MQ below (zQc D b as ca h s.heap.size r h') ((args.map (cv b as)).toArray) s (h'.length - h.length) (zSl h' - zSl h) A) D A s.heap b mi h.length (zSl h) as (0, zEntry args (zmMax mi), [], h) := by
      refine z_reach (d := d) (n := n) (Nat.le_refl _) (by show 60 * d + 40 ≤ 60 * (d + 1); omega) X ih (by simpa using hS) (Nat.le_refl _) (Nat.le_refl _) (Nat.le_refl _) (Nat.le_refl _) ?_
      intro as' ca' ls' H' locs' hH' hF' hp'
      dsimp only at hH' hF' hret ⊢
      obtain ⟨b1, b2, b3, b4, b5, b6⟩ := hH'
      have hq : ∀ rr : Option zAv, rr = r → (∀ a, rr = some a → wfv h'.length False a) → ∀ t : State, t.heap = H' → s.WarmedH t.vm → zQc D b as ca h s.heap.size r h' ((args.map (cv b as)).toArray) s (.returned (rr.map (cv b as'))) t := by
        intro rr hrr hwr t ht hW
        subst hrr
        refine ⟨⟨as', ca', rfl, hp', b1, zKnH.moved hW.alike b2, by rw [ht]; exact b3, by rw [hAe]; exact b4, b6, hwr⟩, ?_⟩
        rw [hAe]
        exact b5.F ht
      rcases hret with ⟨g1, v, g2, g3, g4⟩ | ⟨g1, v, g2, g3, g4⟩ | ⟨g1, g2, g3, g4⟩
      · subst g2
        subst g3
        have hwv : wfv h'.length False (0, v) := hF'.hd
        have hn : ∃ ty, zmRet mi = some ty ∧ narrow ty (.int (Int32.ofInt v)) = .int (Int32.ofInt v) := by
          rcases g4 with g4 | ⟨g4, rfl | rfl⟩
          · exact ⟨.int, g4, rfl⟩
          · exact ⟨.boolean, g4, by decide⟩
          · exact ⟨.boolean, g4, by decide⟩
        obtain ⟨ty, hty, hnn⟩ := hn
        exact W.zret hx hb (hr.trans hty) hnn (hq (some (0, v)) rfl (fun a ha => by cases ha; exact hwv)) b5.2.2 g1 hlocks
      · subst g2
        subst g3
        have hwv : wfv h'.length False (1, v) := hF'.hd
        exact W.lret hx hb (hr.trans g4) (hq (some (1, v)) rfl (fun a ha => by cases ha; exact hwv)) b5.2.2 g1 hlocks
      · subst g2
        subst g3
        exact W.vret hx hb (hr.trans g4) (hq none rfl (fun a ha => by cases ha)) b5.2.2 g1 hlocks
    have := key as ca ls s.heap [] hH hF (List.prefix_refl _)
    simp only [Nat.sub_self] at this
    exact this
end
section
/-! The second heap: a region is a field (class * 64 + place), or the row that a field holds; instance; index. The class's, the model's, the answer's row apart. -/
abbrev zHC : Type := Nat → Int → Int → Int
abbrev zHM : Type := Nat → Int → Int
abbrev zH2 : Type := zHC × zHM × (Int → Int)
def hset (h : zHC) (r : Nat) (n i v : Int) : zHC := fun r' n' i' => if r' = r ∧ n' = n ∧ i' = i then v else h r' n' i'
def mset (h : zHM) (k : Nat) (i v : Int) : zHM := fun k' i' => if k' = k ∧ i' = i then v else h k' i'
def hcpy (h : zHC) (rd : Nat) (nd : Int) (rs : Nat) (ns sp dp n : Int) : zHC := fun r' n' i' => if r' = rd ∧ n' = nd ∧ dp ≤ i' ∧ i' < dp + n then h rs ns (sp + (i' - dp)) else h r' n' i'
def zGt (g : zH2) (r : Nat) (n i : Int) : Int := match Nat.ble 768 r with
  | false => g.1 r n i
  | true => g.2.1 (r - 768) i
def zPt (g : zH2) (r : Nat) (n i v : Int) : zH2 := match Nat.ble 768 r with
  | false => (hset g.1 r n i v, g.2)
  | true => (g.1, mset g.2.1 (r - 768) i v, g.2.2)
/-- of a row's tag: its region, its kind, its length -/
def zTr (t : Nat) : Nat := (t - 1000) % 1024
def zTk (t : Nat) : Nat := (t - 1000) / 1024 / 65536
def zTl (t : Nat) : Nat := (t - 1000) / 1024 % 65536
def zTg2 (r x : Nat) : Nat := 1000 + r + 1024 * x
def zLd2 (kd t : Nat) (st : List zAv) (g : zH2) : Option (List Prop × List zAv × zH2) := match st with
  | (0, i) :: (a, n) :: r => match Nat.ble 1000 a && Nat.beq (zTk a) kd with
    | true => some ([0 ≤ i ∧ i < (zTl a : Int)], (t, zGt g (zTr a) n i) :: r, g)
    | false => none
  | _ => none
def zSt2 (kd t : Nat) (b : Bool) (st : List zAv) (g : zH2) : Option (List Prop × List zAv × zH2) := match st with
  | (u, v) :: (0, i) :: (a, n) :: r => match (Nat.ble 1000 a && Nat.beq (zTk a) kd) && Nat.beq u t with
    | true => some ((match b with
      | true => [0 ≤ i ∧ i < (zTl a : Int), v = 0 ∨ v = 1]
      | false => [0 ≤ i ∧ i < (zTl a : Int)]), r, zPt g (zTr a) n i v)
    | false => none
  | _ => none
def zHop2 (L : Nat) (xs : Nat → Int) : zHop zH2 := fun i ax st g => match i with
  | .getfield _ => match st with
    | (t, n) :: r => match Nat.beq t (10 + ax.1) with
      | true => match ax.2.2.toNat % 4 with
        | 0 => some ([], (0, zGt g (ax.1 * 64 + ax.2.1) n 0) :: r, g)
        | 1 => some ([], (1, zGt g (ax.1 * 64 + ax.2.1) n 0) :: r, g)
        | 2 => some ([], (zTg2 (ax.1 * 64 + ax.2.1) (ax.2.2.toNat / 4), n) :: r, g)
        | _ => match ax.2.2.toNat / 64 % 2 with
          | 0 => some ([], (10 + ax.2.2.toNat / 4 % 16, ((ax.2.2.toNat / 128 : Nat) : Int)) :: r, g)
          | _ => some ([], (10 + ax.2.2.toNat / 4 % 16, n + ((ax.2.2.toNat / 128 : Nat) : Int)) :: r, g)
      | false => none
    | _ => none
  | .putfield _ => match st with
    | (u, v) :: (t, n) :: r => match Nat.beq t (10 + ax.1) && (Nat.ble ax.2.2.toNat 1 && Nat.beq u ax.2.2.toNat) with
      | true => some ((match zIsB ax.1 ax.2.1 with
        | true => [v = 0 ∨ v = 1]
        | false => []), r, zPt g (ax.1 * 64 + ax.2.1) n 0 v)
      | false => none
    | _ => none
  | .iaload => match Nat.beq ax.1 1 with
    | true => match st with
      | (0, j) :: (5, _) :: r => some ([0 ≤ j ∧ j < (L : Int)], (0, xs j.toNat) :: r, g)
      | _ => none
    | false => zLd2 20 0 st g
  | .laload => match st with
    | (0, i) :: (6, _) :: r => some ([i = 0], (1, g.2.2 0) :: r, g)
    | _ => zLd2 21 1 st g
  | .baload => zLd2 22 0 st g
  | .aaload => match st with
    | (0, i) :: (a, _) :: r => match Nat.ble 1000 a && Nat.beq (zTk a) ax.1 with
      | true => match ax.1 with
        | 23 => some ([0 ≤ i ∧ i < (zTl a : Int)], (11, 2 + i) :: r, g)
        | 24 => some ([0 ≤ i ∧ i < (zTl a : Int)], (13, i) :: r, g)
        | _ => none
      | false => none
    | _ => none
  | .iastore => zSt2 20 0 false st g
  | .lastore => zSt2 21 1 false st g
  | .bastore => zSt2 22 0 true st g
  | .arraylength => match Nat.beq ax.1 1 with
    | true => match st with
      | (5, _) :: r => some ([], (0, (L : Int)) :: r, g)
      | _ => none
    | false => match st with
      | (a, _) :: r => match Nat.ble 1000 a with
        | true => some ([], (0, (zTl a : Int)) :: r, g)
        | false => none
      | _ => none
  | .invokestatic _ => match ax.1 with
    | 5001 => match st with
      | (0, n) :: (0, dp) :: (a, d) :: (0, sp) :: (a1, s) :: r => match (((Nat.ble 1000 a && Nat.ble 1000 a1) && (Nat.beq (zTk a) (zTk a1) && (Nat.beq (zTk a) 20 || Nat.beq (zTk a) 21))) && (Nat.blt (zTr a) 768 && Nat.blt (zTr a1) 768)) && zRm r with
        | true => some ([0 ≤ sp, 0 ≤ dp, 0 ≤ n, sp + n ≤ (zTl a1 : Int), dp + n ≤ (zTl a : Int)], r, (hcpy g.1 (zTr a) d (zTr a1) s sp dp n, g.2))
        | false => none
      | _ => none
    | 5002 => match st with
      | (0, x) :: r => match zRm r with
        | true => some ([], (0, if x < 0 then wneg x else x) :: r, g)
        | false => none
      | _ => none
    | 5003 => match st with
      | (0, y) :: (0, x) :: r => match zRm r with
        | true => some ([], (0, if y < x then y else x) :: r, g)
        | false => none
      | _ => none
    | 5004 => match st with
      | (0, y) :: (0, x) :: r => match zRm r with
        | true => some ([], (0, if x < y then y else x) :: r, g)
        | false => none
      | _ => none
    | _ => none
  | _ => none
def zFws : List (List Nat) := [[0, 23],
  [0, 0, 0, 5242906, 5243602, 5243602, 5243842, 5246482, 5243002],
  [0, 0, 0],
  [0, 359, 1351, 347],
  [0, 5243082, 0, 5242906, 5242906, 5242906],
  [5246642, 0, 0, 0, 0, 0, 0, 1, 0, 0, 5505110],
  [0, 0, 5243362, 5767330],
  [155, 23],
  [0, 0, 6029346],
  [0, 0, 0, 0, 0, 0, 0, 5505050, 5242906, 5242906, 5242906, 5505050, 5242906, 5242906, 5242962, 5242962, 5242962, 5242914, 5242906, 5242906],
  [167, 0, 23],
  [23, 39, 43, 3, 27, 31, 7, 135, 35, 6291466, 19, 11, 5244418, 5243266, 0, 0, 0],
  [0, 5246642, 0, 0, 0, 0, 0, 0, 0, 0, 0, 0, 1, 0, 5251442, 5243718, 5260002, 5296930, 5249638, 5505074, 5505074, 5505122, 5767178, 0, 0, 5244418, 5242906, 5242906, 5242906, 5243082, 5242906, 5242906, 5242906, 5242906, 0, 0, 0, 0, 0, 0, 0, 5242890, 5243682, 5242910, 0, 5243842, 0, 0, 0, 0]]
def zW (ci k : Nat) : Nat := (zFws.getD ci []).getD k 0
def zCnt (ci : Nat) : Nat := ([1, 12, 1, 2, 1, 1, 4, 1, 1, 4, 1, 1, 1] : List Nat).getD ci 0
/-- are the second heap's codes as the table has them? -/
def zAx2 (i : Instr) (ax : zAx) : Bool := match i with
  | .getfield _ => decide (ax.2.2 = (zW ax.1 ax.2.1 : Int)) && Nat.blt ax.2.1 (zNf ax.1) && Nat.blt ax.1 13
  | .putfield _ => decide (ax.2.2 = (zW ax.1 ax.2.1 : Int)) && Nat.blt ax.2.1 (zNf ax.1) && Nat.blt ax.1 13
  | _ => true
/-- where things lie: lO an object of a class, by instance; lA the row of a region -/
def zVR (lO lA : Nat → Int → Nat) (sc : Prop) (a2 a1 : zAv) : Prop :=
  (a2.1 = 0 ∧ a1 = a2) ∨ (a2.1 = 1 ∧ a1 = a2) ∨ (a2.1 = 5 ∧ a1 = a2 ∧ sc) ∨ (a2.1 = 6 ∧ a1 = (2, (lO 20 0 : Int))) ∨
  (∃ ci, ci < 13 ∧ a2.1 = 10 + ci ∧ 0 ≤ a2.2 ∧ a2.2 < (zCnt ci : Int) ∧ a1 = (2, (lO ci a2.2 : Int))) ∨
  (∃ ci k x, ci < 13 ∧ k < zNf ci ∧ zW ci k = 2 + 4 * x ∧ a2.1 = zTg2 (ci * 64 + k) x ∧ 0 ≤ a2.2 ∧ a2.2 < (zCnt ci : Int) ∧ a1 = (2, (lA (ci * 64 + k) a2.2 : Int)))
/-- what a field of an object holds -/
def zFl2 (lO lA : Nat → Int → Nat) (g : zH2) (ci k : Nat) (n v : Int) : Prop :=
  match zW ci k % 4 with
  | 0 => v = zGt g (ci * 64 + k) n 0
  | 1 => v = zGt g (ci * 64 + k) n 0
  | 2 => v = (lA (ci * 64 + k) n : Int)
  | _ => match zW ci k / 64 % 2 with
    | 0 => v = (lO (zW ci k / 4 % 16) ((zW ci k / 128 : Nat) : Int) : Int)
    | _ => v = (lO (zW ci k / 4 % 16) (n + ((zW ci k / 128 : Nat) : Int)) : Int)
/-- what a row holds -/
def zRw2 (lO : Nat → Int → Nat) (g : zH2) (kd r : Nat) (n : Int) (i : Nat) (v : Int) : Prop :=
  match kd with
  | 23 => v = (lO 1 (2 + (i : Int)) : Int)
  | 24 => v = (lO 3 (i : Int) : Int)
  | _ => v = zGt g r n i
def zR2 (lO lA : Nat → Int → Nat) (g : zH2) (h : zH1) : Prop :=
  (∀ (ci : Nat) (n : Int), ci < 13 → 0 ≤ n → n < (zCnt ci : Int) → ∃ f, h[lO ci n]? = some (ci, zNf ci, f) ∧ ∀ k, k < zNf ci → zFl2 lO lA g ci k n (f k)) ∧
  (∀ (ci k x : Nat) (n : Int), ci < 13 → k < zNf ci → zW ci k = 2 + 4 * x → 0 ≤ n → n < (zCnt ci : Int) → ∃ f, h[lA (ci * 64 + k) n]? = some (x / 65536, x % 65536, f) ∧ ∀ i, i < x % 65536 → zRw2 lO g (x / 65536) (ci * 64 + k) n i (f i)) ∧
  ∃ f, h[lO 20 0]? = some (21, 1, f) ∧ f 0 = g.2.2 0
/-- apart -/
def zAp (lO lA : Nat → Int → Nat) : Prop :=
  (∀ (ci k x : Nat) (n : Int), ci < 13 → k < zNf ci → zW ci k = 2 + 4 * x → 0 ≤ n → n < (zCnt ci : Int) → ¬ lA (ci * 64 + k) n = lO 20 0) ∧
  (∀ (ci cj : Nat) (n n' : Int), ci < 13 → cj < 13 → 0 ≤ n → n < (zCnt ci : Int) → 0 ≤ n' → n' < (zCnt cj : Int) → lO ci n = lO cj n' → ci = cj ∧ n = n') ∧
  (∀ (ci k x cj k' x' : Nat) (n n' : Int), ci < 13 → k < zNf ci → zW ci k = 2 + 4 * x → 0 ≤ n → n < (zCnt ci : Int) → cj < 13 → k' < zNf cj → zW cj k' = 2 + 4 * x' → 0 ≤ n' → n' < (zCnt cj : Int) → lA (ci * 64 + k) n = lA (cj * 64 + k') n' → ci = cj ∧ k = k' ∧ n = n')
theorem zTg2_r {r x : Nat} (h : r < 1024) : zTr (zTg2 r x) = r ∧ zTk (zTg2 r x) = x / 65536 ∧ zTl (zTg2 r x) = x % 65536 ∧ 1000 ≤ zTg2 r x := by
  unfold zTr zTk zTl zTg2
  have h1 : 1000 + r + 1024 * x - 1000 = r + 1024 * x := by omega
  rw [h1]
  have h2 : (r + 1024 * x) / 1024 = x := by omega
  rw [h2]
  refine ⟨by omega, rfl, rfl, by omega⟩
theorem zNf_le2 {ci k : Nat} (h : ci < 13) (hk : k < zNf ci) : ci * 64 + k < 1024 ∧ k < 64 := by
  have := zNf_le h
  omega
theorem zW_all : ((List.range 13).all (fun ci => (List.range (zNf ci)).all (fun k => (match zW ci k % 4 with
  | 0 => Nat.beq (zTag ci k) 0 && Nat.beq (zW ci k) 0
  | 1 => Nat.beq (zTag ci k) 1 && Nat.beq (zW ci k) 1
  | 2 => Nat.beq (zTag ci k) 2 && ((Nat.ble 20 (zW ci k / 4 / 65536) && Nat.ble (zW ci k / 4 / 65536) 24) && (Nat.beq (zW ci k / 4 / 65536) 23 == (Nat.beq ci 8 && Nat.beq k 2)) && (Nat.beq (zW ci k / 4 / 65536) 24 == (Nat.beq ci 11 && Nat.beq k 9)))
  | _ => Nat.beq (zTag ci k) 2 && (Nat.blt (zW ci k / 4 % 16) 13 && (match zW ci k / 64 % 2 with
    | 0 => Nat.blt (zW ci k / 128) (zCnt (zW ci k / 4 % 16))
    | _ => Nat.ble (zCnt ci + zW ci k / 128) (zCnt (zW ci k / 4 % 16)))))))) = true := by decide +kernel
end
