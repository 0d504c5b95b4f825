/-! Arrays. -/
theorem zLdA_spec {kd t : Nat} {b : Bool} {st st' : List zAv} {h h' : zH1} {gs : List Prop} (hE : zLdA kd t b st h = some (gs, st', h')) (hg : zAll gs) :
    ∃ (i a : Int) (r : List zAv) (n : Nat) (f : Nat → Int), st = (0, i) :: (2, a) :: r ∧ h[a.toNat]? = some (kd, n, f) ∧ st' = (t, f i.toNat) :: r ∧ h' = h ∧ 0 ≤ i ∧ i < (n : Int) ∧ (b = true → 0 ≤ f i.toNat) := by
  unfold zLdA at hE
  split at hE
  · rename_i i a r
    split at hE
    · rename_i k n f e1
      split at hE
      · rename_i e2
        have e2 := Nat.eq_of_beq_eq_true e2
        subst e2
        cases b with
        | true => cases hE; exact ⟨i, a, r, n, f, rfl, e1, rfl, rfl, hg.1.1, hg.1.2, fun _ => hg.2.1⟩
        | false => cases hE; exact ⟨i, a, r, n, f, rfl, e1, rfl, rfl, hg.1.1, hg.1.2, fun q => by cases q⟩
      · cases hE
    · cases hE
  · cases hE
theorem zStA_spec {kd t : Nat} {g : Int → List Prop} {st st' : List zAv} {h h' : zH1} {gs : List Prop} (hE : zStA kd t g st h = some (gs, st', h')) (hg : zAll gs) :
    ∃ (v i a : Int) (n : Nat) (f : Nat → Int), st = (t, v) :: (0, i) :: (2, a) :: st' ∧ h[a.toNat]? = some (kd, n, f) ∧ h' = h.set a.toNat (kd, n, zUp f i.toNat v) ∧ 0 ≤ i ∧ i < (n : Int) ∧ zAll (g v) := by
  unfold zStA at hE
  split at hE
  · rename_i u v i a r
    split at hE
    · rename_i k n f e1
      split at hE
      · rename_i e2
        rw [Bool.and_eq_true] at e2
        have e3 := Nat.eq_of_beq_eq_true e2.1
        have e4 := Nat.eq_of_beq_eq_true e2.2
        subst e3
        subst e4
        cases hE
        exact ⟨v, i, a, n, f, rfl, e1, rfl, hg.1.1, hg.1.2, hg.2⟩
      · cases hE
    · cases hE
  · cases hE
theorem zEnt_I {as : List Nat} {cA : ClassId} {n : Nat} {f : Nat → Int} : zEnt as cA (20, n, f) = .inl (cA, n, .inl (fun j => Int32.ofInt (f j))) := rfl
theorem zEnt_J {as : List Nat} {cA : ClassId} {n : Nat} {f : Nat → Int} : zEnt as cA (21, n, f) = .inl (cA, n, .inr (.inl (fun j => Int64.ofInt (f j)))) := rfl
theorem zEnt_Z {as : List Nat} {cA : ClassId} {n : Nat} {f : Nat → Int} : zEnt as cA (22, n, f) = .inl (cA, n, .inl (fun j => Int32.ofInt (f j))) := rfl
theorem zEnt_C {as : List Nat} {cA : ClassId} {n : Nat} {f : Nat → Int} : zEnt as cA (23, n, f) = .inl (cA, n, .inr (.inr (.inr (.inr (fun j => zEr as (f j)))))) := rfl
theorem zEnt_M {as : List Nat} {cA : ClassId} {n : Nat} {f : Nat → Int} : zEnt as cA (24, n, f) = .inl (cA, n, .inr (.inr (.inr (.inr (fun j => zEr as (f j)))))) := rfl
theorem wfc_arr {n : Nat} {c : zCe} (h : wfc n c) (h20 : 20 ≤ c.1) : c.2.1 ≤ 100000 ∧ ∀ k, k < c.2.1 → wff n (zKt c.1) (c.2.2 k) := by
  rcases h with ⟨h1, -⟩ | ⟨h1, h2, h3, h4⟩
  · omega
  · exact ⟨h3, h4⟩
theorem upd_of {f : Nat → Int} {k : Nat} {v : Int} : (fun j => Int32.ofInt (zUp f k v j)) = upd (fun j => Int32.ofInt (f j)) k (Int32.ofInt v) := by
  funext j
  unfold zUp upd
  split <;> rfl
theorem updL_of {f : Nat → Int} {k : Nat} {v : Int} : (fun j => Int64.ofInt (zUp f k v j)) = vp_updL (fun j => Int64.ofInt (f j)) k (Int64.ofInt v) := by
  funext j
  unfold zUp vp_updL
  split <;> rfl
theorem updR_of {as : List Nat} {f : Nat → Int} {k : Nat} {v : Int} (hv : 0 ≤ v) : (fun j => zEr as (zUp f k v j)) = va_up (fun j => zEr as (f j)) k (some (as.getD v.toNat 0)) := by
  funext j
  unfold zUp va_up
  split
  · unfold zEr
    rw [if_neg (by omega)]
  · rfl
section ZA
variable {p : Program} {l : Launch} {e : Env} {R : Room} {s : State} {m : MethodId} {args : Array Value} {below : List Frame} {meth : Method} {c : Code} {Q : State → Prop}
variable {D : va_G} {A : Nat → Prop} {H0 : Heap} {b Ls : Nat} {xs : Nat → Int32} {mi n0 s0 : Nat}
variable {pc : Nat} {L : zLo} {st st' : List zAv} {h h' : zH1} {gs : List Prop} {cf : zCf zH1} {as0 : List Nat}
theorem z_iald (X : zCx p R s m args meth c A H0 b Ls xs mi) (hdec : decode (zmCode mi) pc = .ok (.iaload, 1)) (hE : zLdA 20 0 false st h = some (gs, st', h')) (hg : zAll gs) (kk : zGoal p l e R s m args below meth c Q D A H0 b mi n0 s0 as0 (pc + 1, L, st', h')) : zGoal p l e R s m args below meth c Q D A H0 b mi n0 s0 as0 (pc, L, st, h) := by
  obtain ⟨hx, hb, -⟩ := X
  obtain ⟨i, a, r, n, f, rfl, e1, rfl, rfl, h0, h1, -⟩ := zLdA_spec hE hg
  intro as ca ls H locs hH hF hp
  obtain ⟨a1, ⟨tys, a2, a3⟩, a4, a5, a6, a7⟩ := id hH
  obtain ⟨t0, ht⟩ := a3 _ _ e1 (Nat.le_refl 20)
  have hi : zR32 i := hF.hd
  have hw := wfc_arr (a7 _ _ e1) (Nat.le_refl 20)
  have he := zWs_at (as := as) (ca := ca) e1
  rw [zEnt_I] at he
  refine va_iald hx hb a2 a4 a.toNat t0 he ht (i := Int32.ofInt i) (o32_in hi ⟨h0, h1⟩) hdec ?_
  rw [o32_cl hi h0]
  exact kk as ca ls H locs hH (hF.tl.tl.push (hw.2 _ (by show i.toNat < n; omega))) hp
theorem z_zald (X : zCx p R s m args meth c A H0 b Ls xs mi) (hdec : decode (zmCode mi) pc = .ok (.baload, 1)) (hE : zLdA 22 0 false st h = some (gs, st', h')) (hg : zAll gs) (kk : zGoal p l e R s m args below meth c Q D A H0 b mi n0 s0 as0 (pc + 1, L, st', h')) : zGoal p l e R s m args below meth c Q D A H0 b mi n0 s0 as0 (pc, L, st, h) := by
  obtain ⟨hx, hb, -⟩ := X
  obtain ⟨i, a, r, n, f, rfl, e1, rfl, rfl, h0, h1, -⟩ := zLdA_spec hE hg
  intro as ca ls H locs hH hF hp
  obtain ⟨a1, ⟨tys, a2, a3⟩, a4, a5, a6, a7⟩ := id hH
  obtain ⟨t0, ht⟩ := a3 _ _ e1 (Nat.le_of_ble_eq_true rfl)
  have hi : zR32 i := hF.hd
  have hw := wfc_arr (a7 _ _ e1) (Nat.le_of_ble_eq_true rfl)
  have he := zWs_at (as := as) (ca := ca) e1
  rw [zEnt_Z] at he
  refine va_zald hx hb a2 a4 a.toNat t0 he ht (i := Int32.ofInt i) (o32_in hi ⟨h0, h1⟩) hdec ?_
  rw [o32_cl hi h0]
  exact kk as ca ls H locs hH (hF.tl.tl.push (hw.2 _ (by show i.toNat < n; omega))) hp
theorem z_lald (X : zCx p R s m args meth c A H0 b Ls xs mi) (hdec : decode (zmCode mi) pc = .ok (.laload, 1)) (hE : zLdA 21 1 false st h = some (gs, st', h')) (hg : zAll gs) (kk : zGoal p l e R s m args below meth c Q D A H0 b mi n0 s0 as0 (pc + 1, L, st', h')) : zGoal p l e R s m args below meth c Q D A H0 b mi n0 s0 as0 (pc, L, st, h) := by
  obtain ⟨hx, hb, -⟩ := X
  obtain ⟨i, a, r, n, f, rfl, e1, rfl, rfl, h0, h1, -⟩ := zLdA_spec hE hg
  intro as ca ls H locs hH hF hp
  obtain ⟨a1, ⟨tys, a2, a3⟩, a4, a5, a6, a7⟩ := id hH
  obtain ⟨t0, ht⟩ := a3 _ _ e1 (Nat.le_of_ble_eq_true rfl)
  have hi : zR32 i := hF.hd
  have hw := wfc_arr (a7 _ _ e1) (Nat.le_of_ble_eq_true rfl)
  have he := zWs_at (as := as) (ca := ca) e1
  rw [zEnt_J] at he
  refine va_lald hx hb a2 a4 a.toNat t0 he ht (i := Int32.ofInt i) (o32_in hi ⟨h0, h1⟩) hdec ?_
  rw [o32_cl hi h0]
  exact kk as ca ls H locs hH (hF.tl.tl.push (hw.2 _ (by show i.toNat < n; omega))) hp
theorem z_aald {kd : Nat} (hkd : kd = 23 ∨ kd = 24) (X : zCx p R s m args meth c A H0 b Ls xs mi) (hdec : decode (zmCode mi) pc = .ok (.aaload, 1)) (hE : zLdA kd 2 true st h = some (gs, st', h')) (hg : zAll gs) (kk : zGoal p l e R s m args below meth c Q D A H0 b mi n0 s0 as0 (pc + 1, L, st', h')) : zGoal p l e R s m args below meth c Q D A H0 b mi n0 s0 as0 (pc, L, st, h) := by
  obtain ⟨hx, hb, -⟩ := X
  obtain ⟨i, a, r, n, f, rfl, e1, rfl, rfl, h0, h1, h2⟩ := zLdA_spec hE hg
  have h2 := h2 rfl
  intro as ca ls H locs hH hF hp
  obtain ⟨a1, ⟨tys, a2, a3⟩, a4, a5, a6, a7⟩ := id hH
  have hk20 : 20 ≤ kd := by omega
  obtain ⟨t0, ht⟩ := a3 _ _ e1 hk20
  have hi : zR32 i := hF.hd
  have hw := wfc_arr (a7 _ _ e1) hk20
  have he := zWs_at (as := as) (ca := ca) e1
  have hv : wfv h'.length (zmC mi = 16) (2, f i.toNat) := ⟨h2, by
    have := hw.2 i.toNat (by show i.toNat < n; omega)
    rcases hkd with rfl | rfl <;> exact this⟩
  have hr : va_rf (zEr as (f i.toNat)) = cv b as (2, f i.toNat) := by
    unfold zEr
    rw [if_neg (by omega)]
    rfl
  rcases hkd with rfl | rfl
  · rw [zEnt_C] at he
    refine va_aldq hx hb a2 a4 a.toNat t0 he ht (i := Int32.ofInt i) (o32_in hi ⟨h0, h1⟩) hdec ?_
    rw [o32_cl hi h0, hr]
    exact kk as ca ls H locs hH (hF.tl.tl.push hv) hp
  · rw [zEnt_M] at he
    refine va_aldq hx hb a2 a4 a.toNat t0 he ht (i := Int32.ofInt i) (o32_in hi ⟨h0, h1⟩) hdec ?_
    rw [o32_cl hi h0, hr]
    exact kk as ca ls H locs hH (hF.tl.tl.push hv) hp
theorem wfc_up1 {n nn : Nat} {kd k : Nat} {f : Nat → Int} {v : Int} (h : wfc n (kd, nn, f)) (h20 : 20 ≤ kd) (hv : wff n (zKt kd) v) : wfc n (kd, nn, zUp f k v) := by
  rcases h with ⟨h1, -⟩ | ⟨h1, h2, h3, h4⟩
  · simp only at h1; omega
  · refine Or.inr ⟨h1, h2, h3, fun j hj => ?_⟩
    show wff n (zKt kd) (zUp f k v j)
    unfold zUp
    split
    · exact hv
    · exact h4 j hj
theorem z_stA {kd t n : Nat} {f : Nat → Int} {v i a : Int} {as : List Nat} {ca : Nat → ClassId} {ls : Array Slot} {H H1 : Heap} {locs locs1 : List Loc} (h20 : 20 ≤ kd) (hH : zHR s D A H0 as ca h H locs) (hF : zFR b (zmC mi = 16) as h.length L ((t, v) :: (0, i) :: (2, a) :: st') ls (zmMax mi)) (hp : as0 <+: as) (e1 : h[a.toNat]? = some (kd, n, f)) (hv : wff h.length (zKt kd) v)
    (kk : zGoal p l e R s m args below meth c Q D A H0 b mi n0 s0 as0 (pc + 1, L, st', h.set a.toNat (kd, n, zUp f i.toNat v)))
    (hP : va_P D vwCl (zWs as ca (h.set a.toNat (kd, n, zUp f i.toNat v))) H1) (hD : va_D A (zWs as ca (h.set a.toNat (kd, n, zUp f i.toNat v)))) (hS : va_S A H0 H1 locs1) : W p l e R s m args below meth c H1 locs1 (h.length - n0) (zSl h - s0) Q (F0 m (pc + 1) ls (st'.map (cv b as))) := by
  have hw := hH.2.2.2.2.2 _ _ e1
  have := kk as ca ls H1 locs1 (hH.set (cl' := (kd, n, zUp f i.toNat v)) e1 rfl (wfc_up1 hw h20 hv) hP hD hS) (by rw [List.length_set]; exact hF.tl.tl.tl) hp
  simp only [List.length_set] at this
  rw [zSl_set (c' := (kd, n, zUp f i.toNat v)) e1 rfl] at this
  exact this
theorem z_iast (X : zCx p R s m args meth c A H0 b Ls xs mi) (hdec : decode (zmCode mi) pc = .ok (.iastore, 1)) (hE : zStA 20 0 (fun _ => []) st h = some (gs, st', h')) (hg : zAll gs) (kk : zGoal p l e R s m args below meth c Q D A H0 b mi n0 s0 as0 (pc + 1, L, st', h')) : zGoal p l e R s m args below meth c Q D A H0 b mi n0 s0 as0 (pc, L, st, h) := by
  obtain ⟨hx, hb, -⟩ := X
  obtain ⟨v, i, a, n, f, rfl, e1, rfl, h0, h1, -⟩ := zStA_spec hE hg
  intro as ca ls H locs hH hF hp
  obtain ⟨a1, ⟨tys, a2, a3⟩, a4, a5, a6, a7⟩ := id hH
  obtain ⟨t0, ht⟩ := a3 _ _ e1 (Nat.le_refl 20)
  have hi : zR32 i := hF.tl.hd
  have he := zWs_at (as := as) (ca := ca) e1
  rw [zEnt_I] at he
  refine va_iast hx hb a2 a4 a5 a6 a.toNat t0 he ht (i := Int32.ofInt i) (x := Int32.ofInt v) (o32_in hi ⟨h0, h1⟩) hdec ?_
  intro H1 locs1 b1 b2 b3
  rw [o32_cl hi h0, ← upd_of, ← zEnt_I (as := as), zWs_set] at b1 b2
  exact z_stA (Nat.le_refl 20) hH hF hp e1 hF.hd kk b1 b2 b3
theorem z_zast (X : zCx p R s m args meth c A H0 b Ls xs mi) (hdec : decode (zmCode mi) pc = .ok (.bastore, 1)) (hE : zStA 22 0 (fun v => [v = 0 ∨ v = 1]) st h = some (gs, st', h')) (hg : zAll gs) (kk : zGoal p l e R s m args below meth c Q D A H0 b mi n0 s0 as0 (pc + 1, L, st', h')) : zGoal p l e R s m args below meth c Q D A H0 b mi n0 s0 as0 (pc, L, st, h) := by
  obtain ⟨hx, hb, -⟩ := X
  obtain ⟨v, i, a, n, f, rfl, e1, rfl, h0, h1, h2⟩ := zStA_spec hE hg
  intro as ca ls H locs hH hF hp
  obtain ⟨a1, ⟨tys, a2, a3⟩, a4, a5, a6, a7⟩ := id hH
  obtain ⟨t0, ht⟩ := a3 _ _ e1 (Nat.le_of_ble_eq_true rfl)
  have hi : zR32 i := hF.tl.hd
  have he := zWs_at (as := as) (ca := ca) e1
  rw [zEnt_Z] at he
  have hz : vp_nar .boolean (Int32.ofInt v) = Int32.ofInt v := by
    rcases h2.1 with rfl | rfl <;> decide
  refine va_zast hx hb a2 a4 a5 a6 a.toNat t0 he ht (i := Int32.ofInt i) (x := Int32.ofInt v) (o32_in hi ⟨h0, h1⟩) hdec ?_
  intro H1 locs1 b1 b2 b3
  rw [hz, o32_cl hi h0, ← upd_of, ← zEnt_Z (as := as), zWs_set] at b1 b2
  exact z_stA (Nat.le_of_ble_eq_true rfl) hH hF hp e1 hF.hd kk b1 b2 b3
theorem z_last (X : zCx p R s m args meth c A H0 b Ls xs mi) (hdec : decode (zmCode mi) pc = .ok (.lastore, 1)) (hE : zStA 21 1 (fun _ => []) st h = some (gs, st', h')) (hg : zAll gs) (kk : zGoal p l e R s m args below meth c Q D A H0 b mi n0 s0 as0 (pc + 1, L, st', h')) : zGoal p l e R s m args below meth c Q D A H0 b mi n0 s0 as0 (pc, L, st, h) := by
  obtain ⟨hx, hb, -⟩ := X
  obtain ⟨v, i, a, n, f, rfl, e1, rfl, h0, h1, -⟩ := zStA_spec hE hg
  intro as ca ls H locs hH hF hp
  obtain ⟨a1, ⟨tys, a2, a3⟩, a4, a5, a6, a7⟩ := id hH
  obtain ⟨t0, ht⟩ := a3 _ _ e1 (Nat.le_of_ble_eq_true rfl)
  have hi : zR32 i := hF.tl.hd
  have he := zWs_at (as := as) (ca := ca) e1
  rw [zEnt_J] at he
  refine va_last hx hb a2 a4 a5 a6 a.toNat t0 he ht (i := Int32.ofInt i) (x := Int64.ofInt v) (o32_in hi ⟨h0, h1⟩) hdec ?_
  intro H1 locs1 b1 b2 b3
  rw [o32_cl hi h0, ← updL_of, ← zEnt_J (as := as), zWs_set] at b1 b2
  exact z_stA (Nat.le_of_ble_eq_true rfl) hH hF hp e1 hF.hd kk b1 b2 b3
theorem z_aast {ax : zAx} (X : zCx p R s m args meth c A H0 b Ls xs mi) (hdec : decode (zmCode mi) pc = .ok (.aastore, 1)) (hE : zHop1 Ls (fun j => (xs j).toInt) .aastore ax st h = some (gs, st', h')) (hg : zAll gs) (kk : zGoal p l e R s m args below meth c Q D A H0 b mi n0 s0 as0 (pc + 1, L, st', h')) : zGoal p l e R s m args below meth c Q D A H0 b mi n0 s0 as0 (pc, L, st, h) := by
  obtain ⟨hx, hb, -⟩ := X
  simp only [zHop1] at hE
  split at hE
  · rename_i v0 r0
    split at hE
    · rename_i kv nv fv ev
      split at hE
      · rename_i e2
        obtain ⟨v, i, a, n, f, hst, e1, rfl, h0, h1, -⟩ := zStA_spec hE hg
        cases hst
        rw [Bool.or_eq_true, Bool.and_eq_true, Bool.and_eq_true] at e2
        intro as ca ls H locs hH hF hp
        obtain ⟨a1, ⟨tys, a2, a3⟩, a4, a5, a6, a7⟩ := id hH
        have hi : zR32 i := hF.tl.hd
        have hv : 0 ≤ v0 ∧ v0 < (h.length : Int) := hF.hd
        have he := zWs_at (as := as) (ca := ca) e1
        have hev := zWs_at (as := as) (ca := ca) ev
        rcases e2 with ⟨q1, q2⟩ | ⟨q1, q2⟩
        · have q1 := Nat.eq_of_beq_eq_true q1
          have q2 := Nat.eq_of_beq_eq_true q2
          subst q2
          rw [q1] at e1 he kk
          obtain ⟨t0, ht⟩ := a3 _ _ e1 (Nat.le_of_ble_eq_true rfl)
          rw [zEnt_C] at he
          rw [zEnt_o (by omega)] at hev
          refine va_astq (r := (zOw 1, zTX 1, zNf 1)) hx hb a2 a4 a5 a6 a.toNat t0 v0.toNat 1 he ht hev (zCl_at (ci := 1) (by omega)) (i := Int32.ofInt i) (o32_in hi ⟨h0, h1⟩) hdec ?_
          intro H1 locs1 b1 b2 b3
          rw [o32_cl hi h0, ← updR_of hv.1, ← zEnt_C, zWs_set] at b1 b2
          exact z_stA (Nat.le_of_ble_eq_true rfl) hH hF hp e1 hv.2 kk b1 b2 b3
        · have q1 := Nat.eq_of_beq_eq_true q1
          have q2 := Nat.eq_of_beq_eq_true q2
          subst q2
          rw [q1] at e1 he kk
          obtain ⟨t0, ht⟩ := a3 _ _ e1 (Nat.le_of_ble_eq_true rfl)
          rw [zEnt_M] at he
          rw [zEnt_o (by omega)] at hev
          refine va_astq (r := (zOw 3, zTX 3, zNf 3)) hx hb a2 a4 a5 a6 a.toNat t0 v0.toNat 3 he ht hev (zCl_at (ci := 3) (by omega)) (i := Int32.ofInt i) (o32_in hi ⟨h0, h1⟩) hdec ?_
          intro H1 locs1 b1 b2 b3
          rw [o32_cl hi h0, ← updR_of hv.1, ← zEnt_M, zWs_set] at b1 b2
          exact z_stA (Nat.le_of_ble_eq_true rfl) hH hF hp e1 hv.2 kk b1 b2 b3
      · cases hE
    · cases hE
  · cases hE
end ZA
