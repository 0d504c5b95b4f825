section ZS2
variable {p : Program} {l : Launch} {e : Env} {R : Room} {s : State} {m : MethodId} {args : Array Value} {below : List Frame} {meth : Method} {c : Code} {Q : State → Prop}
variable {D : va_G} {A : Nat → Prop} {H0 : Heap} {b Ls : Nat} {xs : Nat → Int32} {mi n0 s0 : Nat}
variable {pc : Nat} {L : zLo} {st : List zAv} {h : zH1} {gs : List Prop} {cf : zCf zH1} {as0 : List Nat}
theorem z_cp (row : ∀ (x y : Int64) (ls : Array Slot) (H : Heap) (locs : List Loc) (rest : List Value) (k1 k2 : Nat), W p l e R s m args below meth c H locs k1 k2 Q (F0 m (pc + 1) ls (.int (lg_cmp x y) :: rest)) → W p l e R s m args below meth c H locs k1 k2 Q (F0 m pc ls (.long y :: .long x :: rest)))
    (hE : zCp (pc, L, st, h) = some (gs, cf)) (kk : zGoal p l e R s m args below meth c Q D A H0 b mi n0 s0 as0 cf) : zGoal p l e R s m args below meth c Q D A H0 b mi n0 s0 as0 (pc, L, st, h) := by
  unfold zCp at hE
  simp only at hE
  split at hE
  · rename_i y x r
    cases hE
    intro as ca ls H locs hH hF hp
    refine row (Int64.ofInt x) (Int64.ofInt y) ls H locs _ _ _ ?_
    have hx : zR64 x := hF.tl.hd
    have hy : zR64 y := hF.hd
    have e1 : Int32.ofInt (qcmp x y) = lg_cmp (Int64.ofInt x) (Int64.ofInt y) := by
      unfold qcmp lg_cmp
      simp only [gt_iff_lt, o64_lt hy hx, o64_eq hx hy]
      repeat' split
      all_goals rfl
    have := kk as ca ls H locs hH (hF.tl.tl.push (a := (0, qcmp x y)) (by
      show zR32 _
      unfold qcmp
      repeat' split
      all_goals exact ⟨by decide, by decide⟩)) hp
    simpa only [List.map_cons, cv, e1] using this
  · cases hE
theorem z_u {u t : Nat} {f : Int → Int} (hf : ∀ n x, wfv n (zmC mi = 16) (u, x) → wfv n (zmC mi = 16) (t, f x))
    (row : ∀ (n : Nat) (as : List Nat) (x : Int) (ls : Array Slot) (H : Heap) (locs : List Loc) (rest : List Value) (k1 k2 : Nat), wfv n (zmC mi = 16) (u, x) → W p l e R s m args below meth c H locs k1 k2 Q (F0 m (pc + 1) ls (cv b as (t, f x) :: rest)) → W p l e R s m args below meth c H locs k1 k2 Q (F0 m pc ls (cv b as (u, x) :: rest)))
    (hE : zU u t f (pc, L, st, h) = some (gs, cf)) (kk : zGoal p l e R s m args below meth c Q D A H0 b mi n0 s0 as0 cf) : zGoal p l e R s m args below meth c Q D A H0 b mi n0 s0 as0 (pc, L, st, h) := by
  unfold zU at hE
  simp only at hE
  split at hE
  · rename_i u' x r
    split at hE
    · rename_i e1
      cases hE
      have e2 := Nat.eq_of_beq_eq_true e1
      subst e2
      intro as ca ls H locs hH hF hp
      exact row _ as x ls H locs _ _ _ hF.hd (kk as ca ls H locs hH (hF.tl.push (hf _ x hF.hd)) hp)
    · cases hE
  · cases hE
theorem z_dup (row : ∀ (va : Value) (ls : Array Slot) (H : Heap) (locs : List Loc) (rest : List Value) (k1 k2 : Nat), va.category = 1 → W p l e R s m args below meth c H locs k1 k2 Q (F0 m (pc + 1) ls (va :: va :: rest)) → W p l e R s m args below meth c H locs k1 k2 Q (F0 m pc ls (va :: rest)))
    (hE : zDup (pc, L, st, h) = some (gs, cf)) (kk : zGoal p l e R s m args below meth c Q D A H0 b mi n0 s0 as0 cf) : zGoal p l e R s m args below meth c Q D A H0 b mi n0 s0 as0 (pc, L, st, h) := by
  unfold zDup at hE
  simp only at hE
  split at hE
  · rename_i t x r
    split at hE
    · cases hE
    · rename_i e1
      cases hE
      intro as ca ls H locs hH hF hp
      exact row _ ls H locs _ _ _ (cv_cat1 (Nat.ne_of_beq_eq_false e1)) (kk as ca ls H locs hH (hF.push hF.hd) hp)
  · cases hE
theorem z_pop (row : ∀ (va : Value) (ls : Array Slot) (H : Heap) (locs : List Loc) (rest : List Value) (k1 k2 : Nat), va.category = 1 → W p l e R s m args below meth c H locs k1 k2 Q (F0 m (pc + 1) ls (rest)) → W p l e R s m args below meth c H locs k1 k2 Q (F0 m pc ls (va :: rest)))
    (hE : zPop (pc, L, st, h) = some (gs, cf)) (kk : zGoal p l e R s m args below meth c Q D A H0 b mi n0 s0 as0 cf) : zGoal p l e R s m args below meth c Q D A H0 b mi n0 s0 as0 (pc, L, st, h) := by
  unfold zPop at hE
  simp only at hE
  split at hE
  · rename_i t x r
    split at hE
    · cases hE
    · rename_i e1
      cases hE
      intro as ca ls H locs hH hF hp
      exact row _ ls H locs _ _ _ (cv_cat1 (Nat.ne_of_beq_eq_false e1)) (kk as ca ls H locs hH hF.tl hp)
  · cases hE
theorem z_dup2 (row : ∀ (va vb : Value) (ls : Array Slot) (H : Heap) (locs : List Loc) (rest : List Value) (k1 k2 : Nat), va.category = 1 → vb.category = 1 → W p l e R s m args below meth c H locs k1 k2 Q (F0 m (pc + 1) ls (va :: vb :: va :: vb :: rest)) → W p l e R s m args below meth c H locs k1 k2 Q (F0 m pc ls (va :: vb :: rest)))
    (hE : zDup2 (pc, L, st, h) = some (gs, cf)) (kk : zGoal p l e R s m args below meth c Q D A H0 b mi n0 s0 as0 cf) : zGoal p l e R s m args below meth c Q D A H0 b mi n0 s0 as0 (pc, L, st, h) := by
  unfold zDup2 at hE
  simp only at hE
  split at hE
  · rename_i t x u y r
    split at hE
    · cases hE
    · rename_i e1
      cases hE
      rw [Bool.or_eq_false_iff] at e1
      intro as ca ls H locs hH hF hp
      exact row _ _ ls H locs _ _ _ (cv_cat1 (Nat.ne_of_beq_eq_false e1.1)) (cv_cat1 (Nat.ne_of_beq_eq_false e1.2)) (kk as ca ls H locs hH ((hF.push hF.tl.hd).push hF.hd) hp)
  · cases hE
theorem zJ_spec {off : Int} {pc t : Nat} (h : zJ off pc = some t) : (pc : Int) + off = (t : Int) := by
  unfold zJ at h
  split at h
  · rename_i e1
    cases h
    have := of_decide_eq_true e1
    omega
  · cases h
theorem z_go {off : Int} (row : ∀ (tgt : Nat) (ls : Array Slot) (H : Heap) (locs : List Loc) (rest : List Value) (k1 k2 : Nat), (pc : Int) + off = (tgt : Int) → W p l e R s m args below meth c H locs k1 k2 Q (F0 m tgt ls rest) → W p l e R s m args below meth c H locs k1 k2 Q (F0 m pc ls rest))
    (hE : zGo off (pc, L, st, h) = some (gs, cf)) (kk : zGoal p l e R s m args below meth c Q D A H0 b mi n0 s0 as0 cf) : zGoal p l e R s m args below meth c Q D A H0 b mi n0 s0 as0 (pc, L, st, h) := by
  unfold zGo at hE
  simp only at hE
  split at hE
  · rename_i t e1
    cases hE
    intro as ca ls H locs hH hF hp
    exact row _ ls H locs _ _ _ (zJ_spec e1) (kk as ca ls H locs hH hF hp)
  · cases hE
/-- a branch on a condition over the stack's top -/
theorem z_br {g : Prop} {off d : Int} {r : List zAv}
    (hE : zBr g off d r (pc, L, st, h) = some (gs, cf)) (hg : zAll gs) (kk : zGoal p l e R s m args below meth c Q D A H0 b mi n0 s0 as0 cf) :
    (∃ t : Nat, (pc : Int) + off = (t : Int) ∧ g ∧ zGoal p l e R s m args below meth c Q D A H0 b mi n0 s0 as0 (t, L, r, h)) ∨ (∃ t : Nat, (pc : Int) + off = (t : Int) ∧ ¬ g ∧ zGoal p l e R s m args below meth c Q D A H0 b mi n0 s0 as0 (pc + 3, L, r, h)) := by
  unfold zBr at hE
  simp only at hE
  split at hE
  · rename_i t e1
    split at hE
    · cases hE
      exact Or.inl ⟨t, zJ_spec e1, hg.1, kk⟩
    · cases hE
      exact Or.inr ⟨t, zJ_spec e1, hg.1, kk⟩
  · cases hE
theorem z_if {k : ClassFile.Cond} {off d : Int} {P : Int32 → Prop} (hP : ∀ x, zR32 x → (P (Int32.ofInt x) ↔ zCo k x 0))
    (row : ∀ (tgt : Nat) (x : Int32) (ls : Array Slot) (H : Heap) (locs : List Loc) (rest : List Value) (k1 k2 : Nat), (pc : Int) + off = (tgt : Int) → (P x → W p l e R s m args below meth c H locs k1 k2 Q (F0 m tgt ls rest)) → (¬ P x → W p l e R s m args below meth c H locs k1 k2 Q (F0 m (pc + 3) ls rest)) → W p l e R s m args below meth c H locs k1 k2 Q (F0 m pc ls (.int x :: rest)))
    (hE : zIf k off d (pc, L, st, h) = some (gs, cf)) (hg : zAll gs) (kk : zGoal p l e R s m args below meth c Q D A H0 b mi n0 s0 as0 cf) : zGoal p l e R s m args below meth c Q D A H0 b mi n0 s0 as0 (pc, L, st, h) := by
  unfold zIf at hE
  simp only at hE
  split at hE
  · rename_i x r
    intro as ca ls H locs hH hF hp
    rcases z_br hE hg kk with ⟨t, e1, e2, k1⟩ | ⟨t, e1, e2, k1⟩
    · exact row t (Int32.ofInt x) ls H locs _ _ _ e1 (fun _ => k1 as ca ls H locs hH hF.tl hp) (fun q => absurd ((hP x hF.hd).mpr e2) q)
    · exact row t (Int32.ofInt x) ls H locs _ _ _ e1 (fun q => absurd ((hP x hF.hd).mp q) e2) (fun _ => k1 as ca ls H locs hH hF.tl hp)
  · cases hE
theorem z_ic {k : ClassFile.Cond} {off d : Int} {P : Int32 → Int32 → Prop} (hP : ∀ x y, zR32 x → zR32 y → (P (Int32.ofInt x) (Int32.ofInt y) ↔ zCo k x y))
    (row : ∀ (tgt : Nat) (x y : Int32) (ls : Array Slot) (H : Heap) (locs : List Loc) (rest : List Value) (k1 k2 : Nat), (pc : Int) + off = (tgt : Int) → (P x y → W p l e R s m args below meth c H locs k1 k2 Q (F0 m tgt ls rest)) → (¬ P x y → W p l e R s m args below meth c H locs k1 k2 Q (F0 m (pc + 3) ls rest)) → W p l e R s m args below meth c H locs k1 k2 Q (F0 m pc ls (.int y :: .int x :: rest)))
    (hE : zIc k off d (pc, L, st, h) = some (gs, cf)) (hg : zAll gs) (kk : zGoal p l e R s m args below meth c Q D A H0 b mi n0 s0 as0 cf) : zGoal p l e R s m args below meth c Q D A H0 b mi n0 s0 as0 (pc, L, st, h) := by
  unfold zIc at hE
  simp only at hE
  split at hE
  · rename_i y x r
    intro as ca ls H locs hH hF hp
    have hx : zR32 x := hF.tl.hd
    have hy : zR32 y := hF.hd
    rcases z_br hE hg kk with ⟨t, e1, e2, k1⟩ | ⟨t, e1, e2, k1⟩
    · exact row t (Int32.ofInt x) (Int32.ofInt y) ls H locs _ _ _ e1 (fun _ => k1 as ca ls H locs hH hF.tl.tl hp) (fun q => absurd ((hP x y hx hy).mpr e2) q)
    · exact row t (Int32.ofInt x) (Int32.ofInt y) ls H locs _ _ _ e1 (fun q => absurd ((hP x y hx hy).mp q) e2) (fun _ => k1 as ca ls H locs hH hF.tl.tl hp)
  · cases hE
theorem z_ii {n : Nat} {k : Int}
    (row : ∀ (as : List Nat) (x : Int) (j : Nat) (ls : Array Slot) (H : Heap) (locs : List Loc) (rest : List Value) (k1 k2 : Nat), n < zmMax mi → lv_has ls (zmMax mi) (zAs b as L) → (zAs b as L)[j]? = some (n, .int (Int32.ofInt x)) → (∀ ls' : Array Slot, lv_has ls' (zmMax mi) ((n, cv b as (0, wadd x k)) :: (zAs b as L).filter (fun q => !(q.1 == n) && !(q.1 + 1 == n && q.2.category == 2))) → W p l e R s m args below meth c H locs k1 k2 Q (F0 m (pc + 3) ls' rest)) → W p l e R s m args below meth c H locs k1 k2 Q (F0 m pc ls rest))
    (hE : zIi n k (pc, L, st, h) = some (gs, cf)) (kk : zGoal p l e R s m args below meth c Q D A H0 b mi n0 s0 as0 cf) : zGoal p l e R s m args below meth c Q D A H0 b mi n0 s0 as0 (pc, L, st, h) := by
  unfold zIi at hE
  simp only at hE
  split at hE
  · rename_i x e1
    cases hE
    intro as ca ls H locs hH hF hp
    have hn : n < zmMax mi := by rw [← hF.2.1]; exact zGl_lt e1
    obtain ⟨j, hj⟩ := List.getElem?_of_mem (zAs_in (b := b) (as := as) e1)
    exact row as x j ls H locs _ _ _ hn hF.1.has hj (fun ls' hl => kk as ca ls' H locs hH (hF.sto (k := 0) (a := (0, wadd x k)) (r32 _) (lvF.sto hl) zSt_len zSt_or) hp)
  · cases hE
theorem z_ts {dflt lo hi d : Int} {offs : Array Int} {len : Nat}
    (rowO : ∀ (tgt : Nat) (x : Int32) (ls : Array Slot) (H : Heap) (locs : List Loc) (rest : List Value) (k1 k2 : Nat), x.toInt < lo ∨ hi < x.toInt → (pc : Int) + dflt = (tgt : Int) → W p l e R s m args below meth c H locs k1 k2 Q (F0 m tgt ls rest) → W p l e R s m args below meth c H locs k1 k2 Q (F0 m pc ls (.int x :: rest)))
    (rowI : ∀ (tgt : Nat) (off : Int) (x : Int32) (ls : Array Slot) (H : Heap) (locs : List Loc) (rest : List Value) (k1 k2 : Nat), ¬ x.toInt < lo → ¬ hi < x.toInt → offs[(x.toInt - lo).toNat]? = some off → (pc : Int) + off = (tgt : Int) → W p l e R s m args below meth c H locs k1 k2 Q (F0 m tgt ls rest) → W p l e R s m args below meth c H locs k1 k2 Q (F0 m pc ls (.int x :: rest)))
    (hE : zTs dflt lo hi offs d (pc, L, st, h) = some (gs, cf)) (hg : zAll gs) (kk : zGoal p l e R s m args below meth c Q D A H0 b mi n0 s0 as0 cf) : zGoal p l e R s m args below meth c Q D A H0 b mi n0 s0 as0 (pc, L, st, h) := by
  unfold zTs at hE
  simp only at hE
  split at hE
  · rename_i x r
    intro as ca ls H locs hH hF hp
    have hx : zR32 x := hF.hd
    split at hE
    · rename_i e1
      rw [Bool.and_eq_true, decide_eq_true_eq, decide_eq_true_eq] at e1
      split at hE
      · rename_i off e2
        split at hE
        · rename_i t e3
          cases hE
          have hxd : x = d := hg.1
          subst hxd
          refine rowI t off (Int32.ofInt x) ls H locs _ _ _ (by rw [o32 hx]; omega) (by rw [o32 hx]; omega) (by rw [o32 hx]; rw [← Array.getElem?_toList]; exact e2) (zJ_spec e3) (kk as ca ls H locs hH hF.tl hp)
        · cases hE
      · cases hE
    · split at hE
      · rename_i t e3
        cases hE
        exact rowO t (Int32.ofInt x) ls H locs _ _ _ (by rw [o32 hx]; exact hg.1) (zJ_spec e3) (kk as ca ls H locs hH hF.tl hp)
      · cases hE
  · cases hE
theorem zLk_off {ps : List (Int × Int)} {d o : Int} (dflt : Int) (h : zLk ps d = some o) : Op.lookupswitch.offset ps dflt d = o := by
  induction ps with
  | nil => cases h
  | cons q r ih =>
    obtain ⟨k, o'⟩ := q
    unfold zLk at h
    split at h
    · rename_i e1
      cases h
      have := of_decide_eq_true e1
      subst this
      simp [Op.lookupswitch.offset]
    · rename_i e1
      have hk := of_decide_eq_false e1
      have := ih h
      simpa [Op.lookupswitch.offset, hk] using this
theorem zLk_dflt {ps : List (Int × Int)} {x : Int} (dflt : Int) (h : zAll (ps.map (fun q => ¬ x = q.1))) : Op.lookupswitch.offset ps dflt x = dflt := by
  induction ps with
  | nil => rfl
  | cons q r ih =>
    obtain ⟨k, o'⟩ := q
    have h1 : ¬ x = k := h.1
    have := ih h.2
    have hk : ¬ k = x := fun q => h1 q.symm
    simpa [Op.lookupswitch.offset, hk] using this
theorem z_ls {dflt d : Int} {ps : Array (Int × Int)}
    (row : ∀ (tgt : Nat) (off : Int) (x : Int32) (ls : Array Slot) (H : Heap) (locs : List Loc) (rest : List Value) (k1 k2 : Nat), (ps.toList.zip (ps.toList.drop 1)).all (fun (a, next) => a.1 < next.1) = true → Op.lookupswitch.offset ps.toList dflt x.toInt = off → (pc : Int) + off = (tgt : Int) → W p l e R s m args below meth c H locs k1 k2 Q (F0 m tgt ls rest) → W p l e R s m args below meth c H locs k1 k2 Q (F0 m pc ls (.int x :: rest)))
    (hE : zLs dflt ps d (pc, L, st, h) = some (gs, cf)) (hg : zAll gs) (kk : zGoal p l e R s m args below meth c Q D A H0 b mi n0 s0 as0 cf) : zGoal p l e R s m args below meth c Q D A H0 b mi n0 s0 as0 (pc, L, st, h) := by
  unfold zLs at hE
  simp only at hE
  split at hE
  · rename_i x r
    intro as ca ls H locs hH hF hp
    have hx : zR32 x := hF.hd
    split at hE
    · rename_i e0
      split at hE
      · rename_i off e1
        split at hE
        · rename_i t e3
          cases hE
          have hxd : x = d := hg.1
          subst hxd
          exact row t off (Int32.ofInt x) ls H locs _ _ _ e0 (by rw [o32 hx]; exact zLk_off dflt e1) (zJ_spec e3) (kk as ca ls H locs hH hF.tl hp)
        · cases hE
      · split at hE
        · rename_i t e3
          cases hE
          exact row t dflt (Int32.ofInt x) ls H locs _ _ _ e0 (by rw [o32 hx]; exact zLk_dflt dflt hg) (zJ_spec e3) (kk as ca ls H locs hH hF.tl hp)
        · cases hE
    · cases hE
  · cases hE
end ZS2
