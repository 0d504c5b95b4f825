/-! Every instruction but calls. -/
theorem zLn_eq {i : Instr} {len n : Nat} (h : zLnOk i len = true) (h0 : zLn i = n + 1) : len = n + 1 := by
  unfold zLnOk at h
  rw [h0, Bool.or_eq_true] at h
  rcases h with h | h
  · exact (Nat.eq_of_beq_eq_true h).symm
  · exact absurd (Nat.eq_of_beq_eq_true h) (by omega)
theorem zAny_c {cls x : Nat} {v : Int} (h : zLC.any (fun r => Nat.beq r.1 cls && Nat.beq r.2.1 x && decide (r.2.2.1 = v)) = true) : Cond.constant (zOw cls) x (Int32.ofInt v) ∈ zGW ∧ zR32 v := by
  obtain ⟨r, hr, h1⟩ := List.any_eq_true.mp h
  simp only [Bool.and_eq_true, decide_eq_true_eq] at h1
  obtain ⟨⟨a1, a2⟩, a3⟩ := h1
  have e1 := Nat.eq_of_beq_eq_true a1; have e2 := Nat.eq_of_beq_eq_true a2
  have h5 := zMap zLC_at r hr
  have h6 := List.all_eq_true.mp zLC_r r hr
  simp only [Bool.and_eq_true, decide_eq_true_eq] at h6
  rw [e1, e2, a3] at h5
  rw [a3] at h6
  exact ⟨zAt h5 rfl, h6⟩
theorem zAny_j {cls x : Nat} {v : Int} (h : zLJ.any (fun r => Nat.beq r.1 cls && Nat.beq r.2.1 x && decide (r.2.2.1 = v)) = true) : Cond.constantLong (zOw cls) x (Int64.ofInt v) ∈ zGW ∧ zR64 v := by
  obtain ⟨r, hr, h1⟩ := List.any_eq_true.mp h
  simp only [Bool.and_eq_true, decide_eq_true_eq] at h1
  obtain ⟨⟨a1, a2⟩, a3⟩ := h1
  have e1 := Nat.eq_of_beq_eq_true a1; have e2 := Nat.eq_of_beq_eq_true a2
  have h5 := zMap zLJ_at r hr
  have h6 := List.all_eq_true.mp zLJ_r r hr
  simp only [Bool.and_eq_true, decide_eq_true_eq] at h6
  rw [e1, e2, a3] at h5
  rw [a3] at h6
  exact ⟨zAt h5 rfl, h6⟩
theorem zHp_spec {hop : zHop zH1} {i : Instr} {len : Nat} {ax : zAx} {pc : Nat} {L : zLo} {st : List zAv} {h : zH1} {gs : List Prop} {cf : zCf zH1} (hE : zHp hop i len ax (pc, L, st, h) = some (gs, cf)) : ∃ st' h', hop i ax st h = some (gs, st', h') ∧ cf = (pc + len, L, st', h') := by
  unfold zHp at hE
  simp only at hE
  split at hE
  · rename_i g st' h' e1
    cases hE
    exact ⟨st', h', e1, rfl⟩
  · cases hE
theorem zCk_spec {σ : Type} {b : Bool} {r : zRs σ} {gs : List Prop} {cf : zCf σ} (h : zCk b r = some (gs, cf)) : b = true ∧ r = some (gs, cf) := by
  unfold zCk at h
  split at h
  · exact ⟨rfl, h⟩
  · cases h
section ZM
variable {p : Program} {l : Launch} {e : Env} {R : Room} {s : State} {m : MethodId} {args : Array Value} {below : List Frame} {meth : Method} {c : Code} {Q : State → Prop}
variable {D : va_G} {A : Nat → Prop} {H0 : Heap} {b Ls : Nat} {xs : Nat → Int32} {mi n0 s0 : Nat}
variable {pc pc' : Nat} {L : zLo} {st st' : List zAv} {h h' : zH1} {gs : List Prop} {cf : zCf zH1} {as0 : List Nat}
set_option maxHeartbeats 4000000 in
theorem z_step {i : Instr} {len : Nat} {ax : zAx} {d : Int} (X : zCx p R s m args meth c A H0 b Ls xs mi) (hdec : decode (zmCode mi) pc = .ok (i, len)) (hln : zLnOk i len = true) (hax : zAxOk (zmC mi) (zIsI mi) i ax = true)
    (hE : zX (zHop1 Ls (fun j => (xs j).toInt)) i len ax d (pc, L, st, h) = some (gs, cf)) (hg : zAll gs) (hn : n0 ≤ h.length) (hs : s0 ≤ zSl h) (hrc : cf.2.2.2.length - n0 ≤ R.cells) (hrs : zSl cf.2.2.2 - s0 ≤ R.slots)
    (kk : zGoal p l e R s m args below meth c Q D A H0 b mi n0 s0 as0 cf) : zGoal p l e R s m args below meth c Q D A H0 b mi n0 s0 as0 (pc, L, st, h) := by
  obtain ⟨hx, hb, hml, hown, hts, hX'⟩ := id X
  cases i
  case aload n =>
    have hl := zLn_eq (n := 1) hln rfl; subst hl
    exact z_ld (row := fun as t x ls H locs rest k1 k2 hok hl k => by
      obtain ⟨r, hr⟩ := cv_ref (b := b) (as := as) (x := x) hok
      rw [hr] at hl k
      exact lv_aload hx hb hdec hl k) hE kk
  case aload_n n =>
    have hl := zLn_eq (n := 0) hln rfl; subst hl
    exact z_ld (row := fun as t x ls H locs rest k1 k2 hok hl k => by
      obtain ⟨r, hr⟩ := cv_ref (b := b) (as := as) (x := x) hok
      rw [hr] at hl k
      exact lv_aload_n hx hb hdec rfl hl k) hE kk
  case iload n =>
    have hl := zLn_eq (n := 1) hln rfl; subst hl
    exact z_ld (row := fun as t x ls H locs rest k1 k2 hok hl k => by
      have ht := Nat.eq_of_beq_eq_true hok
      subst ht
      exact lv_iload hx hb hdec hl k) hE kk
  case iload_n n =>
    have hl := zLn_eq (n := 0) hln rfl; subst hl
    exact z_ld (row := fun as t x ls H locs rest k1 k2 hok hl k => by
      have ht := Nat.eq_of_beq_eq_true hok
      subst ht
      exact lv_iload_n hx hb hdec rfl hl k) hE kk
  case lload n =>
    have hl := zLn_eq (n := 1) hln rfl; subst hl
    exact z_ld (row := fun as t x ls H locs rest k1 k2 hok hl k => by
      have ht := Nat.eq_of_beq_eq_true hok
      subst ht
      exact lv_lload hx hb hdec hl k) hE kk
  case lload_n n =>
    have hl := zLn_eq (n := 0) hln rfl; subst hl
    exact z_ld (row := fun as t x ls H locs rest k1 k2 hok hl k => by
      have ht := Nat.eq_of_beq_eq_true hok
      subst ht
      exact lv_lload_n hx hb hdec rfl hl k) hE kk
  case astore n =>
    have hl := zLn_eq (n := 1) hln rfl; subst hl
    exact z_sto (row := fun as t x ls H locs rest k1 k2 hok hn hl kk => by
      obtain ⟨r, hr⟩ := cv_ref (b := b) (as := as) (x := x) hok
      rw [hr] at kk ⊢
      exact lv_astore hx hb hdec hl hn rfl kk) hE kk
  case astore_n n =>
    have hl := zLn_eq (n := 0) hln rfl; subst hl
    exact z_sto (row := fun as t x ls H locs rest k1 k2 hok hn hl kk => by
      obtain ⟨r, hr⟩ := cv_ref (b := b) (as := as) (x := x) hok
      rw [hr] at kk ⊢
      exact lv_astore_n hx hb hdec rfl hl hn rfl kk) hE kk
  case istore n =>
    have hl := zLn_eq (n := 1) hln rfl; subst hl
    exact z_sto (row := fun as t x ls H locs rest k1 k2 hok hn hl kk => by
      have ht := Nat.eq_of_beq_eq_true hok
      subst ht
      exact lv_istore hx hb hdec hl hn rfl kk) hE kk
  case istore_n n =>
    have hl := zLn_eq (n := 0) hln rfl; subst hl
    exact z_sto (row := fun as t x ls H locs rest k1 k2 hok hn hl kk => by
      have ht := Nat.eq_of_beq_eq_true hok
      subst ht
      exact lv_istore_n hx hb hdec rfl hl hn rfl kk) hE kk
  case lstore n =>
    have hl := zLn_eq (n := 1) hln rfl; subst hl
    exact z_stoL (row := fun as x ls H locs rest k1 k2 hn hl kk => lv_lstore hx hb hdec hl hn rfl kk) hE kk
  case lstore_n n =>
    have hl := zLn_eq (n := 0) hln rfl; subst hl
    exact z_stoL (row := fun as x ls H locs rest k1 k2 hn hl kk => lv_lstore_n hx hb hdec rfl hl hn rfl kk) hE kk
  case iconst n =>
    have hl := zLn_eq (n := 0) hln rfl; subst hl
    obtain ⟨e1, e2⟩ := zCk_spec hE
    simp only [Bool.and_eq_true, decide_eq_true_eq] at e1
    exact z_pu (v := (0, n)) (hv := fun _ => (⟨by omega, by omega⟩ : zR32 n)) (row := fun as ls H locs rest k1 k2 k => lv_iconst hx hb hdec rfl k) e2 kk
  case lconst n =>
    have hl := zLn_eq (n := 0) hln rfl; subst hl
    have hn2 : (n : Nat) < 2 := n.isLt
    exact z_pu (v := (1, ((n : Nat) : Int))) (hv := fun _ => (⟨by omega, by omega⟩ : zR64 ((n : Nat) : Int))) (row := fun as ls H locs rest k1 k2 k => lv_lconst hx hb hdec Int64.ofInt_eq_ofNat.symm k) hE kk
  case bipush n =>
    have hl := zLn_eq (n := 1) hln rfl; subst hl
    obtain ⟨e1, e2⟩ := zCk_spec hE
    simp only [Bool.and_eq_true, decide_eq_true_eq] at e1
    exact z_pu (v := (0, n)) (hv := fun _ => (⟨by omega, by omega⟩ : zR32 n)) (row := fun as ls H locs rest k1 k2 k => lv_bipush hx hb hdec (Int8.toInt32_ofInt (by show -128 ≤ n; omega) (by show n ≤ 127; omega)) k) e2 kk
  case sipush n =>
    have hl := zLn_eq (n := 2) hln rfl; subst hl
    obtain ⟨e1, e2⟩ := zCk_spec hE
    simp only [Bool.and_eq_true, decide_eq_true_eq] at e1
    exact z_pu (v := (0, n)) (hv := fun _ => (⟨by omega, by omega⟩ : zR32 n)) (row := fun as ls H locs rest k1 k2 k => lv_sipush hx hb hdec (Int16.toInt32_ofInt (by show -32768 ≤ n; omega) (by show n ≤ 32767; omega)) k) e2 kk
  case ldc x =>
    have hl := zLn_eq (n := 1) hln rfl; subst hl
    obtain ⟨w1, w2⟩ := zAny_c hax
    exact z_pu (v := (0, ax.2.2)) (hv := fun _ => w2) (row := fun as ls H locs rest k1 k2 k => lv_ldc hx hb hown (hts _ w1) hdec k) hE kk
  case ldc_w x =>
    have hl := zLn_eq (n := 2) hln rfl; subst hl
    obtain ⟨w1, w2⟩ := zAny_c hax
    exact z_pu (v := (0, ax.2.2)) (hv := fun _ => w2) (row := fun as ls H locs rest k1 k2 k => lv_ldcw hx hb hown (hts _ w1) hdec k) hE kk
  case ldc2_w x =>
    have hl := zLn_eq (n := 2) hln rfl; subst hl
    obtain ⟨w1, w2⟩ := zAny_j hax
    exact z_pu (v := (1, ax.2.2)) (hv := fun _ => w2) (row := fun as ls H locs rest k1 k2 k => lv_ldc2 hx hb hown (hts _ w1) hdec k) hE kk
  case iadd =>
    have hl := zLn_eq (n := 0) hln rfl; subst hl
    exact z_b0 (hf := fun _ _ => rfl) (row := fun x y ls H locs rest k1 k2 k => lv_iadd hx hb hdec k) hE kk
  case isub =>
    have hl := zLn_eq (n := 0) hln rfl; subst hl
    exact z_b0 (hf := fun _ _ => rfl) (row := fun x y ls H locs rest k1 k2 k => lv_isub hx hb hdec k) hE kk
  case imul =>
    have hl := zLn_eq (n := 0) hln rfl; subst hl
    exact z_b0 (hf := fun _ _ => rfl) (row := fun x y ls H locs rest k1 k2 k => lv_imul hx hb hdec k) hE kk
  case iand =>
    have hl := zLn_eq (n := 0) hln rfl; subst hl
    exact z_b0 (hf := fun _ _ => rfl) (row := fun x y ls H locs rest k1 k2 k => lv_iand hx hb hdec k) hE kk
  case ior =>
    have hl := zLn_eq (n := 0) hln rfl; subst hl
    exact z_b0 (hf := fun _ _ => rfl) (row := fun x y ls H locs rest k1 k2 k => lv_ior hx hb hdec k) hE kk
  case ixor =>
    have hl := zLn_eq (n := 0) hln rfl; subst hl
    exact z_b0 (hf := fun _ _ => rfl) (row := fun x y ls H locs rest k1 k2 k => lv_ixor hx hb hdec k) hE kk
  case ishl =>
    have hl := zLn_eq (n := 0) hln rfl; subst hl
    exact z_b0 (hf := fun _ _ => rfl) (row := fun x y ls H locs rest k1 k2 k => lv_ishl hx hb hdec k) hE kk
  case ishr =>
    have hl := zLn_eq (n := 0) hln rfl; subst hl
    exact z_b0 (hf := fun _ _ => rfl) (row := fun x y ls H locs rest k1 k2 k => lv_ishr hx hb hdec k) hE kk
  case iushr =>
    have hl := zLn_eq (n := 0) hln rfl; subst hl
    exact z_b0 (F := fun x y => (x.toUInt32 >>> (y.toUInt32 &&& Int32.toUInt32 31)).toInt32) (hf := fun _ _ => rfl) (row := fun x y ls H locs rest k1 k2 k => lv_iushr hx hb hdec rfl k) hE kk
  case idiv =>
    have hl := zLn_eq (n := 0) hln rfl; subst hl
    exact z_b0d (hf := fun _ _ => rfl) (row := fun x y ls H locs rest k1 k2 hy k => lv_idiv hx hb hdec hy k) hE hg kk
  case irem =>
    have hl := zLn_eq (n := 0) hln rfl; subst hl
    exact z_b0d (F := fun x y => x - x / y * y) (hf := fun _ _ => rfl) (row := fun x y ls H locs rest k1 k2 hy k => lv_irem hx hb hdec hy k) hE hg kk
  case ladd =>
    have hl := zLn_eq (n := 0) hln rfl; subst hl
    exact z_b1 (hf := fun _ _ => rfl) (row := fun x y ls H locs rest k1 k2 k => lv_ladd hx hb hdec k) hE kk
  case lsub =>
    have hl := zLn_eq (n := 0) hln rfl; subst hl
    exact z_b1 (hf := fun _ _ => rfl) (row := fun x y ls H locs rest k1 k2 k => lv_lsub hx hb hdec k) hE kk
  case lmul =>
    have hl := zLn_eq (n := 0) hln rfl; subst hl
    exact z_b1 (hf := fun _ _ => rfl) (row := fun x y ls H locs rest k1 k2 k => lv_lmul hx hb hdec k) hE kk
  case lor =>
    have hl := zLn_eq (n := 0) hln rfl; subst hl
    exact z_b1 (hf := fun _ _ => rfl) (row := fun x y ls H locs rest k1 k2 k => lv_lor hx hb hdec k) hE kk
  case ldiv =>
    have hl := zLn_eq (n := 0) hln rfl; subst hl
    exact z_b1d (hf := fun _ _ => rfl) (row := fun x y ls H locs rest k1 k2 hy k => lv_ldiv hx hb hdec hy k) hE hg kk
  case lrem =>
    have hl := zLn_eq (n := 0) hln rfl; subst hl
    exact z_b1d (F := fun x y => x - x / y * y) (hf := fun _ _ => rfl) (row := fun x y ls H locs rest k1 k2 hy k => lv_lrem hx hb hdec hy k) hE hg kk
  case lshl =>
    have hl := zLn_eq (n := 0) hln rfl; subst hl
    exact z_b10 (F := fun x y => x <<< (y.toInt64 &&& 63)) (hf := fun _ _ => rfl) (row := fun x y ls H locs rest k1 k2 k => lv_lshl hx hb hdec rfl k) hE kk
  case lshr =>
    have hl := zLn_eq (n := 0) hln rfl; subst hl
    exact z_b10 (F := fun x y => x >>> (y.toInt64 &&& 63)) (hf := fun _ _ => rfl) (row := fun x y ls H locs rest k1 k2 k => lv_lshr hx hb hdec rfl k) hE kk
  case lcmp =>
    have hl := zLn_eq (n := 0) hln rfl; subst hl
    exact z_cp (row := fun x y ls H locs rest k1 k2 k => W.lcmp hx hb hdec k) hE kk
  case ineg =>
    have hl := zLn_eq (n := 0) hln rfl; subst hl
    exact z_u (u := 0) (t := 0) (f := wneg) (hf := fun _ x _ => r32 _) (row := fun n as x ls H locs rest k1 k2 hv k => lv_ineg hx hb hdec (by
      simp only [cv, wneg, Int32.ofInt_toInt] at k
      exact k)) hE kk
  case i2l =>
    have hl := zLn_eq (n := 0) hln rfl; subst hl
    exact z_u (u := 0) (t := 1) (f := fun x => x) (hf := fun _ x hv => (⟨by have := hv.1; omega, by have := hv.2; omega⟩ : zR64 x)) (row := fun n as x ls H locs rest k1 k2 hv k => lv_i2l hx hb hdec (Int32.toInt64_ofInt (by show -2147483648 ≤ x; exact hv.1) (by show x ≤ 2147483647; have := hv.2; omega)) k) hE kk
  case l2i =>
    have hl := zLn_eq (n := 0) hln rfl; subst hl
    exact z_u (u := 1) (t := 0) (f := wl2i) (hf := fun _ x _ => r32 _) (row := fun n as x ls H locs rest k1 k2 hv k => lv_l2i hx hb hdec rfl (by
      simp only [cv, wl2i, Int32.ofInt_toInt] at k
      exact k)) hE kk
  case dup =>
    have hl := zLn_eq (n := 0) hln rfl; subst hl
    exact z_dup (row := fun va ls H locs rest k1 k2 hv k => lv_dup hx hb hdec hv k) hE kk
  case pop =>
    have hl := zLn_eq (n := 0) hln rfl; subst hl
    exact z_pop (row := fun va ls H locs rest k1 k2 hv k => lv_pop hx hb hdec hv k) hE kk
  case dup2 =>
    have hl := zLn_eq (n := 0) hln rfl; subst hl
    exact z_dup2 (row := fun va vb ls H locs rest k1 k2 hv hw k => lv_dup2_11 hx hb hdec hv hw k) hE kk
  case iinc n k =>
    have hl := zLn_eq (n := 2) hln rfl; subst hl
    exact z_ii (n := n) (k := k) (row := fun as x j ls H locs rest k1 k2 hn hl hj kk => lv_iinc hx hb hdec hl hj (v := Int32.ofInt (wadd x k)) (by
      rw [wadd, Int32.ofInt_toInt]) hn rfl kk) hE kk
  case ifCond k off =>
    have hl := zLn_eq (n := 2) hln rfl; subst hl
    cases k
    case eq => exact z_if (k := .eq) (off := off) (P := fun x : Int32 => x = 0) (hP := fun x hx2 => o32_eq hx2 r32_0) (row := fun tgt x ls H locs rest k1 k2 ht kt kf => lv_if_eq hx hb hdec ht kt kf) hE hg kk
    case ne => exact z_if (k := .ne) (off := off) (P := fun x : Int32 => ¬ x = 0) (hP := fun x hx2 => not_congr (o32_eq hx2 r32_0)) (row := fun tgt x ls H locs rest k1 k2 ht kt kf => lv_if_ne hx hb hdec ht kt (fun q => kf (fun z => z q))) hE hg kk
    case lt => exact z_if (k := .lt) (off := off) (P := fun x : Int32 => x < 0) (hP := fun x hx2 => o32_lt hx2 r32_0) (row := fun tgt x ls H locs rest k1 k2 ht kt kf => lv_if_lt hx hb hdec ht kt kf) hE hg kk
    case ge => exact z_if (k := .ge) (off := off) (P := fun x : Int32 => 0 ≤ x) (hP := fun x hx2 => o32_le r32_0 hx2) (row := fun tgt x ls H locs rest k1 k2 ht kt kf => lv_if_ge hx hb hdec ht kt kf) hE hg kk
    case gt => exact z_if (k := .gt) (off := off) (P := fun x : Int32 => 0 < x) (hP := fun x hx2 => o32_lt r32_0 hx2) (row := fun tgt x ls H locs rest k1 k2 ht kt kf => lv_if_gt hx hb hdec ht kt kf) hE hg kk
    case le => exact z_if (k := .le) (off := off) (P := fun x : Int32 => x ≤ 0) (hP := fun x hx2 => o32_le hx2 r32_0) (row := fun tgt x ls H locs rest k1 k2 ht kt kf => lv_if_le hx hb hdec ht kt kf) hE hg kk
  case if_icmp k off =>
    have hl := zLn_eq (n := 2) hln rfl; subst hl
    cases k
    case eq => exact z_ic (k := .eq) (off := off) (P := fun x y : Int32 => x = y) (hP := fun x y hx2 hy2 => o32_eq hx2 hy2) (row := fun tgt x y ls H locs rest k1 k2 ht kt kf => lv_icmp_eq hx hb hdec ht kt kf) hE hg kk
    case ne => exact z_ic (k := .ne) (off := off) (P := fun x y : Int32 => ¬ x = y) (hP := fun x y hx2 hy2 => not_congr (o32_eq hx2 hy2)) (row := fun tgt x y ls H locs rest k1 k2 ht kt kf => lv_icmp_ne hx hb hdec ht kt (fun q => kf (fun z => z q))) hE hg kk
    case lt => exact z_ic (k := .lt) (off := off) (P := fun x y : Int32 => x < y) (hP := fun x y hx2 hy2 => o32_lt hx2 hy2) (row := fun tgt x y ls H locs rest k1 k2 ht kt kf => lv_icmp_lt hx hb hdec ht kt kf) hE hg kk
    case ge => exact z_ic (k := .ge) (off := off) (P := fun x y : Int32 => y ≤ x) (hP := fun x y hx2 hy2 => o32_le hy2 hx2) (row := fun tgt x y ls H locs rest k1 k2 ht kt kf => lv_icmp_ge hx hb hdec ht kt kf) hE hg kk
    case gt => exact z_ic (k := .gt) (off := off) (P := fun x y : Int32 => y < x) (hP := fun x y hx2 hy2 => o32_lt hy2 hx2) (row := fun tgt x y ls H locs rest k1 k2 ht kt kf => lv_icmp_gt hx hb hdec ht kt kf) hE hg kk
    case le => exact z_ic (k := .le) (off := off) (P := fun x y : Int32 => x ≤ y) (hP := fun x y hx2 hy2 => o32_le hx2 hy2) (row := fun tgt x y ls H locs rest k1 k2 ht kt kf => lv_icmp_le hx hb hdec ht kt kf) hE hg kk
  case goto off =>
    have hl := zLn_eq (n := 2) hln rfl; subst hl
    exact z_go (row := fun tgt ls H locs rest k1 k2 ht k => lv_goto hx hb hdec ht k) hE kk
  case tableswitch dflt lo hi offs =>
    exact z_ts (len := len) (rowO := fun tgt x ls H locs rest k1 k2 h1 ht k => lv_tableOut hx hb hdec h1 ht k) (rowI := fun tgt off x ls H locs rest k1 k2 h1 h2 ho ht k => lv_tableIn hx hb hdec h1 h2 ho ht k) hE hg kk
  case lookupswitch dflt ps =>
    exact z_ls (row := fun tgt off x ls H locs rest k1 k2 hp ho ht k => lv_lookup hx hb hdec hp ho ht k) hE hg kk
  case getfield x =>
    have hl := zLn_eq (n := 2) hln rfl; subst hl
    obtain ⟨st', h', e1, rfl⟩ := zHp_spec hE
    exact z_getf (len := 3) X hdec hax e1 hg kk
  case putfield x =>
    have hl := zLn_eq (n := 2) hln rfl; subst hl
    obtain ⟨st', h', e1, rfl⟩ := zHp_spec hE
    exact z_putf X hdec hax e1 hg kk
  case iaload =>
    have hl := zLn_eq (n := 0) hln rfl; subst hl
    obtain ⟨st', h', e1, rfl⟩ := zHp_spec hE
    exact z_sld X hdec hax e1 hg kk
  case laload =>
    have hl := zLn_eq (n := 0) hln rfl; subst hl
    obtain ⟨st', h', e1, rfl⟩ := zHp_spec hE
    exact z_lald X hdec e1 hg kk
  case baload =>
    have hl := zLn_eq (n := 0) hln rfl; subst hl
    obtain ⟨st', h', e1, rfl⟩ := zHp_spec hE
    exact z_zald X hdec e1 hg kk
  case aaload =>
    have hl := zLn_eq (n := 0) hln rfl; subst hl
    obtain ⟨st', h', e1, rfl⟩ := zHp_spec hE
    simp only [zHop1] at e1
    split at e1
    · rename_i e2
      rw [Bool.or_eq_true] at e2
      exact z_aald (e2.imp (fun z => Nat.eq_of_beq_eq_true z) (fun z => Nat.eq_of_beq_eq_true z)) X hdec e1 hg kk
    · cases e1
  case iastore =>
    have hl := zLn_eq (n := 0) hln rfl; subst hl
    obtain ⟨st', h', e1, rfl⟩ := zHp_spec hE
    exact z_iast X hdec e1 hg kk
  case lastore =>
    have hl := zLn_eq (n := 0) hln rfl; subst hl
    obtain ⟨st', h', e1, rfl⟩ := zHp_spec hE
    exact z_last X hdec e1 hg kk
  case bastore =>
    have hl := zLn_eq (n := 0) hln rfl; subst hl
    obtain ⟨st', h', e1, rfl⟩ := zHp_spec hE
    exact z_zast X hdec e1 hg kk
  case aastore =>
    have hl := zLn_eq (n := 0) hln rfl; subst hl
    obtain ⟨st', h', e1, rfl⟩ := zHp_spec hE
    exact z_aast X hdec e1 hg kk
  case arraylength =>
    have hl := zLn_eq (n := 0) hln rfl; subst hl
    obtain ⟨st', h', e1, rfl⟩ := zHp_spec hE
    exact z_alen X hdec hax e1 kk
  case new x =>
    have hl := zLn_eq (n := 2) hln rfl; subst hl
    obtain ⟨st', h', e1, rfl⟩ := zHp_spec (hop := zHop1 Ls (fun j => (xs j).toInt)) (i := .new x) (len := 3) (ax := ax) (pc := pc) (L := L) (st := st) (h := h) hE
    exact z_new X hdec hax e1 hn hs hrc hrs kk
  case newarray ty =>
    have hl := zLn_eq (n := 1) hln rfl; subst hl
    obtain ⟨st', h', e1, rfl⟩ := zHp_spec hE
    exact z_newa X hdec e1 hg hn hs hrc hrs kk
  case anewarray x =>
    have hl := zLn_eq (n := 2) hln rfl; subst hl
    obtain ⟨st', h', e1, rfl⟩ := zHp_spec hE
    exact z_newq X hdec hax e1 hg hn hs hrc hrs kk
  case invokestatic x =>
    have hl := zLn_eq (n := 2) hln rfl; subst hl
    obtain ⟨st', h', e1, rfl⟩ := zHp_spec hE
    by_cases h1 : ax.1 = 5001
    · have hax : zLY.any (fun r => Nat.beq r.1 (zmC mi) && Nat.beq r.2.1 x) = true := by
        simp only [zAxOk, h1] at hax
        exact hax
      exact z_copy h1 X hdec hax e1 hg kk
    by_cases h2 : ax.1 = 5002
    · have hax : zLM.any (fun r => Nat.beq r.1 (zmC mi) && Nat.beq r.2.1 x && Nat.beq r.2.2.1 2) = true := by
        simp only [zAxOk, h2] at hax
        exact hax
      exact z_mabs h2 X hdec hax hrc hrs e1 kk
    by_cases h3 : ax.1 = 5003
    · have hax : zLM.any (fun r => Nat.beq r.1 (zmC mi) && Nat.beq r.2.1 x && Nat.beq r.2.2.1 3) = true := by
        simp only [zAxOk, h3] at hax
        exact hax
      exact z_mmin h3 X hdec hax hrc hrs e1 kk
    by_cases h4 : ax.1 = 5004
    · have hax : zLM.any (fun r => Nat.beq r.1 (zmC mi) && Nat.beq r.2.1 x && Nat.beq r.2.2.1 4) = true := by
        simp only [zAxOk, h4] at hax
        exact hax
      exact z_mmax h4 X hdec hax hrc hrs e1 kk
    exfalso
    simp only [zHop1] at e1
    cases e1
  case invokespecial x =>
    have hl := zLn_eq (n := 2) hln rfl; subst hl
    obtain ⟨st', h', e1, rfl⟩ := zHp_spec hE
    exact z_obj X hdec (fun q => by
      simp only [zAxOk, q] at hax
      exact hax) e1 kk
  all_goals (have q : (none : zRs zH1) = some (gs, cf) := hE; cases q)
end ZM
