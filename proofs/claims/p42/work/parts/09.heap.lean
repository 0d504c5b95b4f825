section
/-! The heap's instructions. -/
theorem zb20 {k : Nat} (h : k < 20) : Nat.ble 20 k = false := by
  cases e : Nat.ble 20 k with
  | false => rfl
  | true => have := Nat.le_of_ble_eq_true e; omega
theorem zEnt_o {as : List Nat} {cA : ClassId} {k n : Nat} {f : Nat → Int} (h : k < 20) : zEnt as cA (k, n, f) = .inr (k, (List.range n).map (fun j => zFv as (zTag k j) (f j))) := by
  simp only [zEnt, zb20 h]
theorem zAny_field {cls idx ci k : Nat} (h : zLinkF cls idx ci k = true) : Cond.fieldLink (zOw cls) idx (zTX ci k).1 (zTX ci k).2.1 (zTX ci k).2.2.1 ∈ zGW ∧ k < zNf ci ∧ ci < 13 := by
  obtain ⟨r, hr, h1⟩ := List.any_eq_true.mp h
  simp only [Bool.and_eq_true] at h1
  obtain ⟨⟨⟨a1, a2⟩, a3⟩, a4⟩ := h1
  have e1 := Nat.eq_of_beq_eq_true a1; have e2 := Nat.eq_of_beq_eq_true a2; have e3 := Nat.eq_of_beq_eq_true a3; have e4 := Nat.eq_of_beq_eq_true a4
  have hl := zL_lt
  simp only [Bool.and_eq_true] at hl
  have h2 := List.all_eq_true.mp hl.1.1.1.1.1.1.1 r hr
  rw [Bool.and_eq_true] at h2
  have h3 := Nat.le_of_ble_eq_true h2.1; have h4 := Nat.le_of_ble_eq_true h2.2
  have h5 := zMap zLF_at r hr
  have h6 : vwCl[r.2.2.1]? = some (zOw r.2.2.1, zTX r.2.2.1, zNf r.2.2.1) := zCl_at h4
  rw [h6] at h5
  simp only at h5
  rw [e1, e2, e3, e4] at h5
  rw [e3] at h3 h4
  rw [e4] at h3
  exact ⟨zAt h5 rfl, h3, h4⟩
def zTyB (ty : FieldType) : Bool := match ty with
  | .int => true
  | .boolean => true
  | .long => true
  | .object _ => true
  | .array _ => true
  | _ => false
theorem zTy_all : ((List.range 13).all (fun ci => (List.range (zNf ci)).all (fun k => zTyB (zTy ci k)))) = true := by decide +kernel
theorem zTy_ok {ci k : Nat} (h : ci < 13) (hk : k < zNf ci) : zTyB (zTy ci k) = true := List.all_eq_true.mp (List.all_eq_true.mp zTy_all ci (List.mem_range.mpr h)) k (List.mem_range.mpr hk)
set_option maxRecDepth 20000 in
theorem zDecl_all : ((List.range 13).all (fun ci => (List.range (zNf ci)).all (fun k => decide ((zTX ci k).1 = zOw ci)))) = true := by decide +kernel
theorem zFits {b n : Nat} {as : List Nat} {sc : Prop} {ty : FieldType} {v : zAv} (hb : zTyB ty = true) (hv : wfv n sc v) (ht : v.1 = zTg ty) (hz : ty = .boolean → v.2 = 0 ∨ v.2 = 1) : narrow ty (cv b as v) = cv b as v ∧ fits ty (cv b as v) = true := by
  obtain ⟨t, x⟩ := v
  simp only at ht
  cases ty with
  | int => subst ht; exact ⟨rfl, rfl⟩
  | boolean =>
    subst ht
    rcases hz rfl with h | h
    · simp only at h
      subst h
      exact ⟨show narrow .boolean (.int (Int32.ofInt 0)) = .int (Int32.ofInt 0) by decide, show fits .boolean (.int (Int32.ofInt 0)) = true by decide⟩
    · simp only at h
      subst h
      exact ⟨show narrow .boolean (.int (Int32.ofInt 1)) = .int (Int32.ofInt 1) by decide, show fits .boolean (.int (Int32.ofInt 1)) = true by decide⟩
  | long => subst ht; exact ⟨rfl, rfl⟩
  | object _ => subst ht; exact ⟨rfl, rfl⟩
  | array _ => subst ht; exact ⟨rfl, rfl⟩
  | _ => cases hb
theorem zFv_cv {b : Nat} {as : List Nat} {t : Nat} {x : Int} (ht : t ≤ 2) (h : t = 2 → 0 ≤ x) : zFv as t x = cv b as (t, x) := by
  have ht : t = 0 ∨ t = 1 ∨ t = 2 := by omega
  rcases ht with rfl | rfl | rfl
  · rfl
  · rfl
  · show (if x < 0 then _ else _) = _
    rw [if_neg (by have := h rfl; omega)]
    rfl
theorem zTag_le {ci k : Nat} : zTag ci k ≤ 2 := by
  unfold zTag zTg
  split <;> omega
theorem wfv_of {n t : Nat} {sc : Prop} {x : Int} (ht : t ≤ 2) (h : wff n t x) (h2 : t = 2 → 0 ≤ x) : wfv n sc (t, x) := by
  have ht : t = 0 ∨ t = 1 ∨ t = 2 := by omega
  rcases ht with rfl | rfl | rfl
  · exact h
  · exact h
  · exact ⟨h2 rfl, h⟩
theorem wff_of {n t : Nat} {sc : Prop} {x : Int} (ht : t ≤ 2) (h : wfv n sc (t, x)) : wff n t x := by
  have ht : t = 0 ∨ t = 1 ∨ t = 2 := by omega
  rcases ht with rfl | rfl | rfl
  · exact h
  · exact h
  · exact h.2
theorem zSl_set {h : zH1} {k : Nat} {c c' : zCe} (h1 : h[k]? = some c) (h2 : c'.2.1 = c.2.1) : zSl (h.set k c') = zSl h := by
  unfold zSl
  congr 1
  apply List.ext_getElem?
  intro i
  rw [List.getElem?_map, List.getElem?_map, List.getElem?_set]
  by_cases hi : k = i
  · subst hi
    obtain ⟨hl, -⟩ := List.getElem?_eq_some_iff.mp h1
    rw [if_pos rfl, if_pos hl, h1]
    simp [h2]
  · rw [if_neg hi]
section ZH
variable {p : Program} {l : Launch} {e : Env} {R : Room} {s : State} {m : MethodId} {args : Array Value} {below : List Frame} {meth : Method} {c : Code} {Q : State → Prop}
variable {D : va_G} {A : Nat → Prop} {H0 : Heap} {b Ls : Nat} {xs : Nat → Int32} {mi n0 s0 : Nat}
variable {pc : Nat} {L : zLo} {st : List zAv} {h : zH1} {gs : List Prop} {cf : zCf zH1} {as0 : List Nat}
theorem zHR.set {as : List Nat} {ca : Nat → ClassId} {h : zH1} {H H1 : Heap} {locs locs1 : List Loc} {k : Nat} {cl cl' : zCe} (hH : zHR s D A H0 as ca h H locs) (hk : h[k]? = some cl) (h1 : cl'.1 = cl.1) (hw : wfc h.length cl')
    (hP : va_P D vwCl (zWs as ca (h.set k cl')) H1) (hD : va_D A (zWs as ca (h.set k cl'))) (hS : va_S A H0 H1 locs1) : zHR s D A H0 as ca (h.set k cl') H1 locs1 := by
  obtain ⟨a1, ⟨tys, a2, a3⟩, -, -, -, a6⟩ := hH
  refine ⟨by rw [List.length_set]; exact a1, ⟨tys, a2, fun j x hj hx => ?_⟩, hP, hD, hS, fun j x hj => ?_⟩
  · rw [List.getElem?_set] at hj
    split at hj
    · rename_i e1
      subst e1
      split at hj
      · cases hj
        rw [h1] at hx ⊢
        exact a3 k cl hk hx
      · cases hj
    · exact a3 j x hj hx
  · rw [List.length_set]
    rw [List.getElem?_set] at hj
    split at hj
    · split at hj
      · cases hj; exact hw
      · cases hj
    · exact a6 j x hj
theorem zFR.len {sc : Prop} {as : List Nat} {n n' nL : Nat} {L : zLo} {st : List zAv} {ls : Array Slot} (h : zFR b sc as n L st ls nL) (e : n' = n) : zFR b sc as n' L st ls nL := e ▸ h
theorem z_getf {x len : Nat} {ax : zAx} {st' : List zAv} {h' : zH1} (X : zCx p R s m args meth c A H0 b Ls xs mi) (hdec : decode (zmCode mi) pc = .ok (.getfield x, 3)) (hax : zLinkF (zmC mi) x ax.1 ax.2.1 = true)
    (hE : zHop1 Ls (fun j => (xs j).toInt) (.getfield x) ax st h = some (gs, st', h')) (hg : zAll gs) (kk : zGoal p l e R s m args below meth c Q D A H0 b mi n0 s0 as0 (pc + 3, L, st', h')) : zGoal p l e R s m args below meth c Q D A H0 b mi n0 s0 as0 (pc, L, st, h) := by
  obtain ⟨hx, hb, hml, hown, hts, -⟩ := X
  obtain ⟨hl, hk, hci⟩ := zAny_field hax
  simp only [zHop1] at hE
  split at hE
  · rename_i o r
    split at hE
    · rename_i kd n f e1
      split at hE
      · rename_i e2
        have e2 := Nat.eq_of_beq_eq_true e2
        subst e2
        have key : (zTag ax.1 ax.2.1 = 2 → 0 ≤ f ax.2.1) ∧ st' = (zTag ax.1 ax.2.1, f ax.2.1) :: r ∧ h' = h := by
          split at hE
          · rename_i e3
            cases hE
            exact ⟨fun _ => hg.1, by rw [Nat.eq_of_beq_eq_true e3], rfl⟩
          · rename_i e3
            cases hE
            exact ⟨fun q => absurd q (Nat.ne_of_beq_eq_false e3), rfl, rfl⟩
        obtain ⟨k1, rfl, rfl⟩ := key
        intro as ca ls H locs hH hF hp
        obtain ⟨a1, ⟨tys, a2, a3⟩, a4, a5, a6, a7⟩ := id hH
        have hw := a7 _ _ e1
        have hn : n = zNf ax.1 ∧ ∀ k, k < n → wff h'.length (zTag ax.1 k) (f k) := by
          rcases hw with ⟨q1, q2, q3⟩ | ⟨q1, -⟩
          · exact ⟨q2, q3⟩
          · simp only at q1; omega
        have he := zWs_at (as := as) (ca := ca) e1
        rw [zEnt_o (by omega)] at he
        refine va_get hx hb hts (zCl_in hci) hown a2 a4 o.toNat he (zCl_at hci) ax.2.1 hk (hts _ hl) (fun _ q => q) (v := cv b as (zTag ax.1 ax.2.1, f ax.2.1)) ?_ hdec ?_
        · rw [List.getElem?_map, List.getElem?_range (by omega)]
          exact congrArg some (zFv_cv zTag_le k1)
        · exact kk as ca ls H locs hH (hF.tl.push (wfv_of zTag_le (hn.2 _ (by omega)) k1)) hp
      · cases hE
    · cases hE
  · cases hE
theorem zUp_map {as : List Nat} {ci n k : Nat} {f : Nat → Int} {v : Int} {w : Value} (hw : zFv as (zTag ci k) v = w) : (List.range n).map (fun j => zFv as (zTag ci j) (zUp f k v j)) = ((List.range n).map (fun j => zFv as (zTag ci j) (f j))).set k w := by
  apply List.ext_getElem?
  intro i
  rw [List.getElem?_set, List.getElem?_map]
  by_cases hi : k = i
  · subst hi
    rw [if_pos rfl]
    by_cases hl : k < n
    · rw [List.getElem?_range hl]
      simp [zUp, hw, hl]
    · rw [List.getElem?_eq_none (by simpa using hl)]
      simp [hl]
  · rw [if_neg hi, List.getElem?_map]
    by_cases hl : i < n
    · rw [List.getElem?_range hl]
      have hi2 : ¬ i = k := fun q => hi q.symm
      simp [zUp, hi2]
    · rw [List.getElem?_eq_none (by simpa using hl)]
      rfl
theorem z_putf {x : Nat} {ax : zAx} {st' : List zAv} {h' : zH1} (X : zCx p R s m args meth c A H0 b Ls xs mi) (hdec : decode (zmCode mi) pc = .ok (.putfield x, 3)) (hax : (zLinkF (zmC mi) x ax.1 ax.2.1 && (!(zTX ax.1 ax.2.1).2.2.2 || (zIsI mi && Nat.beq (zmC mi) ax.1))) = true)
    (hE : zHop1 Ls (fun j => (xs j).toInt) (.putfield x) ax st h = some (gs, st', h')) (hg : zAll gs) (kk : zGoal p l e R s m args below meth c Q D A H0 b mi n0 s0 as0 (pc + 3, L, st', h')) : zGoal p l e R s m args below meth c Q D A H0 b mi n0 s0 as0 (pc, L, st, h) := by
  obtain ⟨hx, hb, hml, hown, hts, -, -, hnm, -⟩ := X
  rw [Bool.and_eq_true] at hax
  obtain ⟨hl, hk, hci⟩ := zAny_field hax.1
  simp only [zHop1] at hE
  split at hE
  · rename_i t v o r
    split at hE
    · rename_i kd n f e1
      split at hE
      · rename_i e2
        rw [Bool.and_eq_true] at e2
        have e3 := Nat.eq_of_beq_eq_true e2.1
        have e4 := Nat.eq_of_beq_eq_true e2.2
        clear e2
        subst e3
        subst e4
        cases hE
        have hz : zTy ax.1 ax.2.1 = .boolean → v = 0 ∨ v = 1 := by
          intro q
          have hzb : zIsB ax.1 ax.2.1 = true := by unfold zIsB; rw [q]
          rw [hzb] at hg
          exact hg.1
        intro as ca ls H locs hH hF hp
        obtain ⟨a1, ⟨tys, a2, a3⟩, a4, a5, a6, a7⟩ := id hH
        have hw := a7 _ _ e1
        have hn : n = zNf ax.1 ∧ ∀ k, k < n → wff h.length (zTag ax.1 k) (f k) := by
          rcases hw with ⟨q1, q2, q3⟩ | ⟨q1, -⟩
          · exact ⟨q2, q3⟩
          · simp only at q1; omega
        have he := zWs_at (as := as) (ca := ca) e1
        rw [zEnt_o (by omega)] at he
        have hv : wfv h.length (zmC mi = 16) (zTag ax.1 ax.2.1, v) := hF.hd
        obtain ⟨f1, f2⟩ := zFits (b := b) (as := as) (zTy_ok hci hk) hv rfl hz
        have hfv : zFv as (zTag ax.1 ax.2.1) v = cv b as (zTag ax.1 ax.2.1, v) := zFv_cv zTag_le (fun q => by rw [q] at hv; exact hv.1)
        have hcl : wfc h.length (ax.1, n, zUp f ax.2.1 v) := Or.inl ⟨hci, hn.1, fun k hk2 => by
          show wff _ _ (zUp f ax.2.1 v k)
          unfold zUp
          split
          · rename_i q; subst q; exact wff_of zTag_le hv
          · exact hn.2 k hk2⟩
        have hset : (zWs as ca h).set o.toNat (as.getD o.toNat 0, .inr (ax.1, ((List.range n).map (fun j => zFv as (zTag ax.1 j) (f j))).set ax.2.1 (cv b as (zTag ax.1 ax.2.1, v)))) = zWs as ca (h.set o.toNat (ax.1, n, zUp f ax.2.1 v)) := by
          rw [← zWs_set, zEnt_o (by omega), zUp_map hfv]
        have go : ∀ (H1 : Heap) (locs1 : List Loc), va_P D vwCl (zWs as ca (h.set o.toNat (ax.1, n, zUp f ax.2.1 v))) H1 → va_D A (zWs as ca (h.set o.toNat (ax.1, n, zUp f ax.2.1 v))) → va_S A H0 H1 locs1 → W p l e R s m args below meth c H1 locs1 (h.length - n0) (zSl h - s0) Q (F0 m (pc + 3) ls (st'.map (cv b as))) := by
          intro H1 locs1 b1 b2 b3
          have := kk as ca ls H1 locs1 (hH.set e1 rfl hcl b1 b2 b3) (by rw [List.length_set]; exact hF.tl.tl) hp
          simp only [List.length_set] at this
          rw [zSl_set (c' := (ax.1, n, zUp f ax.2.1 v)) e1 rfl] at this
          exact this
        by_cases hfin : (zTX ax.1 ax.2.1).2.2.2 = true
        · have h2 := hax.2
          rw [hfin] at h2
          simp only [Bool.not_true, Bool.false_or, Bool.and_eq_true] at h2
          have hcc := Nat.eq_of_beq_eq_true h2.2
          have hini : meth.name = "<init>" := by rw [hnm]; exact of_decide_eq_true h2.1
          have hdecl : (zTX ax.1 ax.2.1).1 = zOw (zmC mi) := by
            rw [hcc]
            have := zDecl_all
            exact of_decide_eq_true (List.all_eq_true.mp (List.all_eq_true.mp this ax.1 (List.mem_range.mpr hci)) ax.2.1 (List.mem_range.mpr hk))
          refine va_putF hx hb hts (zCl_in hci) (zTy ax.1) (zCl_ty hci) (zCl_nm hci) hown a2 a4 a5 a6 o.toNat he (zCl_at hci) ax.2.1 hk (hts _ hl) (fun _ q => q) hfin hini hdecl (zCl_ty hci _ hk) f1 f2 (by simp; omega) hdec ?_
          intro H1 locs1 b1 b2 b3
          rw [hset] at b1 b2
          exact go H1 locs1 b1 b2 b3
        · refine va_put hx hb hts (zCl_in hci) (zTy ax.1) (zCl_ty hci) (zCl_nm hci) hown a2 a4 a5 a6 o.toNat he (zCl_at hci) ax.2.1 hk (hts _ hl) (fun _ q => q) (by simpa using hfin) (zCl_ty hci _ hk) f1 f2 (by simp; omega) hdec ?_
          intro H1 locs1 b1 b2 b3
          rw [hset] at b1 b2
          exact go H1 locs1 b1 b2 b3
      · cases hE
    · cases hE
  · cases hE
end ZH
end
section
/-! Arrays. -/
theorem zLdA_spec {kd t : Nat} {b : Bool} {st st' : List zAv} {h h' : zH1} {gs : List Prop} (hE : zLdA kd t b st h = some (gs, st', h')) (hg : zAll gs) :
    ∃ (i a : Int) (r : List zAv) (n : Nat) (f : Nat → Int), st = (0, i) :: (2, a) :: r ∧ h[a.toNat]? = some (kd, n, f) ∧ st' = (t, f i.toNat) :: r ∧ h' = h ∧ 0 ≤ i ∧ i < (n : Int) ∧ (b = true → 0 ≤ f i.toNat) := by
  unfold zLdA at hE
  split at hE
  · rename_i i a r
    split at hE
    · rename_i k n f e1
      split at hE
      · rename_i e2
        have e2 := Nat.eq_of_beq_eq_true e2
        subst e2
        cases b with
        | true => cases hE; exact ⟨i, a, r, n, f, rfl, e1, rfl, rfl, hg.1.1, hg.1.2, fun _ => hg.2.1⟩
        | false => cases hE; exact ⟨i, a, r, n, f, rfl, e1, rfl, rfl, hg.1.1, hg.1.2, fun q => by cases q⟩
      · cases hE
    · cases hE
  · cases hE
theorem zStA_spec {kd t : Nat} {g : Int → List Prop} {st st' : List zAv} {h h' : zH1} {gs : List Prop} (hE : zStA kd t g st h = some (gs, st', h')) (hg : zAll gs) :
    ∃ (v i a : Int) (n : Nat) (f : Nat → Int), st = (t, v) :: (0, i) :: (2, a) :: st' ∧ h[a.toNat]? = some (kd, n, f) ∧ h' = h.set a.toNat (kd, n, zUp f i.toNat v) ∧ 0 ≤ i ∧ i < (n : Int) ∧ zAll (g v) := by
  unfold zStA at hE
  split at hE
  · rename_i u v i a r
    split at hE
    · rename_i k n f e1
      split at hE
      · rename_i e2
        rw [Bool.and_eq_true] at e2
        have e3 := Nat.eq_of_beq_eq_true e2.1
        have e4 := Nat.eq_of_beq_eq_true e2.2
        subst e3
        subst e4
        cases hE
        exact ⟨v, i, a, n, f, rfl, e1, rfl, hg.1.1, hg.1.2, hg.2⟩
      · cases hE
    · cases hE
  · cases hE
theorem zEnt_I {as : List Nat} {cA : ClassId} {n : Nat} {f : Nat → Int} : zEnt as cA (20, n, f) = .inl (cA, n, .inl (fun j => Int32.ofInt (f j))) := rfl
theorem zEnt_J {as : List Nat} {cA : ClassId} {n : Nat} {f : Nat → Int} : zEnt as cA (21, n, f) = .inl (cA, n, .inr (.inl (fun j => Int64.ofInt (f j)))) := rfl
theorem zEnt_Z {as : List Nat} {cA : ClassId} {n : Nat} {f : Nat → Int} : zEnt as cA (22, n, f) = .inl (cA, n, .inl (fun j => Int32.ofInt (f j))) := rfl
theorem zEnt_C {as : List Nat} {cA : ClassId} {n : Nat} {f : Nat → Int} : zEnt as cA (23, n, f) = .inl (cA, n, .inr (.inr (.inr (.inr (fun j => zEr as (f j)))))) := rfl
theorem zEnt_M {as : List Nat} {cA : ClassId} {n : Nat} {f : Nat → Int} : zEnt as cA (24, n, f) = .inl (cA, n, .inr (.inr (.inr (.inr (fun j => zEr as (f j)))))) := rfl
theorem wfc_arr {n : Nat} {c : zCe} (h : wfc n c) (h20 : 20 ≤ c.1) : c.2.1 ≤ 100000 ∧ ∀ k, k < c.2.1 → wff n (zKt c.1) (c.2.2 k) := by
  rcases h with ⟨h1, -⟩ | ⟨h1, h2, h3, h4⟩
  · omega
  · exact ⟨h3, h4⟩
theorem upd_of {f : Nat → Int} {k : Nat} {v : Int} : (fun j => Int32.ofInt (zUp f k v j)) = upd (fun j => Int32.ofInt (f j)) k (Int32.ofInt v) := by
  funext j
  unfold zUp upd
  split <;> rfl
theorem updL_of {f : Nat → Int} {k : Nat} {v : Int} : (fun j => Int64.ofInt (zUp f k v j)) = vp_updL (fun j => Int64.ofInt (f j)) k (Int64.ofInt v) := by
  funext j
  unfold zUp vp_updL
  split <;> rfl
theorem updR_of {as : List Nat} {f : Nat → Int} {k : Nat} {v : Int} (hv : 0 ≤ v) : (fun j => zEr as (zUp f k v j)) = va_up (fun j => zEr as (f j)) k (some (as.getD v.toNat 0)) := by
  funext j
  unfold zUp va_up
  split
  · unfold zEr
    rw [if_neg (by omega)]
  · rfl
section ZA
variable {p : Program} {l : Launch} {e : Env} {R : Room} {s : State} {m : MethodId} {args : Array Value} {below : List Frame} {meth : Method} {c : Code} {Q : State → Prop}
variable {D : va_G} {A : Nat → Prop} {H0 : Heap} {b Ls : Nat} {xs : Nat → Int32} {mi n0 s0 : Nat}
variable {pc : Nat} {L : zLo} {st st' : List zAv} {h h' : zH1} {gs : List Prop} {cf : zCf zH1} {as0 : List Nat}
theorem z_iald (X : zCx p R s m args meth c A H0 b Ls xs mi) (hdec : decode (zmCode mi) pc = .ok (.iaload, 1)) (hE : zLdA 20 0 false st h = some (gs, st', h')) (hg : zAll gs) (kk : zGoal p l e R s m args below meth c Q D A H0 b mi n0 s0 as0 (pc + 1, L, st', h')) : zGoal p l e R s m args below meth c Q D A H0 b mi n0 s0 as0 (pc, L, st, h) := by
  obtain ⟨hx, hb, -⟩ := X
  obtain ⟨i, a, r, n, f, rfl, e1, rfl, rfl, h0, h1, -⟩ := zLdA_spec hE hg
  intro as ca ls H locs hH hF hp
  obtain ⟨a1, ⟨tys, a2, a3⟩, a4, a5, a6, a7⟩ := id hH
  obtain ⟨t0, ht⟩ := a3 _ _ e1 (Nat.le_refl 20)
  have hi : zR32 i := hF.hd
  have hw := wfc_arr (a7 _ _ e1) (Nat.le_refl 20)
  have he := zWs_at (as := as) (ca := ca) e1
  rw [zEnt_I] at he
  refine va_iald hx hb a2 a4 a.toNat t0 he ht (i := Int32.ofInt i) (o32_in hi ⟨h0, h1⟩) hdec ?_
  rw [o32_cl hi h0]
  exact kk as ca ls H locs hH (hF.tl.tl.push (hw.2 _ (by show i.toNat < n; omega))) hp
theorem z_zald (X : zCx p R s m args meth c A H0 b Ls xs mi) (hdec : decode (zmCode mi) pc = .ok (.baload, 1)) (hE : zLdA 22 0 false st h = some (gs, st', h')) (hg : zAll gs) (kk : zGoal p l e R s m args below meth c Q D A H0 b mi n0 s0 as0 (pc + 1, L, st', h')) : zGoal p l e R s m args below meth c Q D A H0 b mi n0 s0 as0 (pc, L, st, h) := by
  obtain ⟨hx, hb, -⟩ := X
  obtain ⟨i, a, r, n, f, rfl, e1, rfl, rfl, h0, h1, -⟩ := zLdA_spec hE hg
  intro as ca ls H locs hH hF hp
  obtain ⟨a1, ⟨tys, a2, a3⟩, a4, a5, a6, a7⟩ := id hH
  obtain ⟨t0, ht⟩ := a3 _ _ e1 (Nat.le_of_ble_eq_true rfl)
  have hi : zR32 i := hF.hd
  have hw := wfc_arr (a7 _ _ e1) (Nat.le_of_ble_eq_true rfl)
  have he := zWs_at (as := as) (ca := ca) e1
  rw [zEnt_Z] at he
  refine va_zald hx hb a2 a4 a.toNat t0 he ht (i := Int32.ofInt i) (o32_in hi ⟨h0, h1⟩) hdec ?_
  rw [o32_cl hi h0]
  exact kk as ca ls H locs hH (hF.tl.tl.push (hw.2 _ (by show i.toNat < n; omega))) hp
theorem z_lald (X : zCx p R s m args meth c A H0 b Ls xs mi) (hdec : decode (zmCode mi) pc = .ok (.laload, 1)) (hE : zLdA 21 1 false st h = some (gs, st', h')) (hg : zAll gs) (kk : zGoal p l e R s m args below meth c Q D A H0 b mi n0 s0 as0 (pc + 1, L, st', h')) : zGoal p l e R s m args below meth c Q D A H0 b mi n0 s0 as0 (pc, L, st, h) := by
  obtain ⟨hx, hb, -⟩ := X
  obtain ⟨i, a, r, n, f, rfl, e1, rfl, rfl, h0, h1, -⟩ := zLdA_spec hE hg
  intro as ca ls H locs hH hF hp
  obtain ⟨a1, ⟨tys, a2, a3⟩, a4, a5, a6, a7⟩ := id hH
  obtain ⟨t0, ht⟩ := a3 _ _ e1 (Nat.le_of_ble_eq_true rfl)
  have hi : zR32 i := hF.hd
  have hw := wfc_arr (a7 _ _ e1) (Nat.le_of_ble_eq_true rfl)
  have he := zWs_at (as := as) (ca := ca) e1
  rw [zEnt_J] at he
  refine va_lald hx hb a2 a4 a.toNat t0 he ht (i := Int32.ofInt i) (o32_in hi ⟨h0, h1⟩) hdec ?_
  rw [o32_cl hi h0]
  exact kk as ca ls H locs hH (hF.tl.tl.push (hw.2 _ (by show i.toNat < n; omega))) hp
theorem z_aald {kd : Nat} (hkd : kd = 23 ∨ kd = 24) (X : zCx p R s m args meth c A H0 b Ls xs mi) (hdec : decode (zmCode mi) pc = .ok (.aaload, 1)) (hE : zLdA kd 2 true st h = some (gs, st', h')) (hg : zAll gs) (kk : zGoal p l e R s m args below meth c Q D A H0 b mi n0 s0 as0 (pc + 1, L, st', h')) : zGoal p l e R s m args below meth c Q D A H0 b mi n0 s0 as0 (pc, L, st, h) := by
  obtain ⟨hx, hb, -⟩ := X
  obtain ⟨i, a, r, n, f, rfl, e1, rfl, rfl, h0, h1, h2⟩ := zLdA_spec hE hg
  have h2 := h2 rfl
  intro as ca ls H locs hH hF hp
  obtain ⟨a1, ⟨tys, a2, a3⟩, a4, a5, a6, a7⟩ := id hH
  have hk20 : 20 ≤ kd := by omega
  obtain ⟨t0, ht⟩ := a3 _ _ e1 hk20
  have hi : zR32 i := hF.hd
  have hw := wfc_arr (a7 _ _ e1) hk20
  have he := zWs_at (as := as) (ca := ca) e1
  have hv : wfv h'.length (zmC mi = 16) (2, f i.toNat) := ⟨h2, by
    have := hw.2 i.toNat (by show i.toNat < n; omega)
    rcases hkd with rfl | rfl <;> exact this⟩
  have hr : va_rf (zEr as (f i.toNat)) = cv b as (2, f i.toNat) := by
    unfold zEr
    rw [if_neg (by omega)]
    rfl
  rcases hkd with rfl | rfl
  · rw [zEnt_C] at he
    refine va_aldq hx hb a2 a4 a.toNat t0 he ht (i := Int32.ofInt i) (o32_in hi ⟨h0, h1⟩) hdec ?_
    rw [o32_cl hi h0, hr]
    exact kk as ca ls H locs hH (hF.tl.tl.push hv) hp
  · rw [zEnt_M] at he
    refine va_aldq hx hb a2 a4 a.toNat t0 he ht (i := Int32.ofInt i) (o32_in hi ⟨h0, h1⟩) hdec ?_
    rw [o32_cl hi h0, hr]
    exact kk as ca ls H locs hH (hF.tl.tl.push hv) hp
theorem wfc_up1 {n nn : Nat} {kd k : Nat} {f : Nat → Int} {v : Int} (h : wfc n (kd, nn, f)) (h20 : 20 ≤ kd) (hv : wff n (zKt kd) v) : wfc n (kd, nn, zUp f k v) := by
  rcases h with ⟨h1, -⟩ | ⟨h1, h2, h3, h4⟩
  · simp only at h1; omega
  · refine Or.inr ⟨h1, h2, h3, fun j hj => ?_⟩
    show wff n (zKt kd) (zUp f k v j)
    unfold zUp
    split
    · exact hv
    · exact h4 j hj
theorem z_stA {kd t n : Nat} {f : Nat → Int} {v i a : Int} {as : List Nat} {ca : Nat → ClassId} {ls : Array Slot} {H H1 : Heap} {locs locs1 : List Loc} (h20 : 20 ≤ kd) (hH : zHR s D A H0 as ca h H locs) (hF : zFR b (zmC mi = 16) as h.length L ((t, v) :: (0, i) :: (2, a) :: st') ls (zmMax mi)) (hp : as0 <+: as) (e1 : h[a.toNat]? = some (kd, n, f)) (hv : wff h.length (zKt kd) v)
    (kk : zGoal p l e R s m args below meth c Q D A H0 b mi n0 s0 as0 (pc + 1, L, st', h.set a.toNat (kd, n, zUp f i.toNat v)))
    (hP : va_P D vwCl (zWs as ca (h.set a.toNat (kd, n, zUp f i.toNat v))) H1) (hD : va_D A (zWs as ca (h.set a.toNat (kd, n, zUp f i.toNat v)))) (hS : va_S A H0 H1 locs1) : W p l e R s m args below meth c H1 locs1 (h.length - n0) (zSl h - s0) Q (F0 m (pc + 1) ls (st'.map (cv b as))) := by
  have hw := hH.2.2.2.2.2 _ _ e1
  have := kk as ca ls H1 locs1 (hH.set (cl' := (kd, n, zUp f i.toNat v)) e1 rfl (wfc_up1 hw h20 hv) hP hD hS) (by rw [List.length_set]; exact hF.tl.tl.tl) hp
  simp only [List.length_set] at this
  rw [zSl_set (c' := (kd, n, zUp f i.toNat v)) e1 rfl] at this
  exact this
theorem z_iast (X : zCx p R s m args meth c A H0 b Ls xs mi) (hdec : decode (zmCode mi) pc = .ok (.iastore, 1)) (hE : zStA 20 0 (fun _ => []) st h = some (gs, st', h')) (hg : zAll gs) (kk : zGoal p l e R s m args below meth c Q D A H0 b mi n0 s0 as0 (pc + 1, L, st', h')) : zGoal p l e R s m args below meth c Q D A H0 b mi n0 s0 as0 (pc, L, st, h) := by
  obtain ⟨hx, hb, -⟩ := X
  obtain ⟨v, i, a, n, f, rfl, e1, rfl, h0, h1, -⟩ := zStA_spec hE hg
  intro as ca ls H locs hH hF hp
  obtain ⟨a1, ⟨tys, a2, a3⟩, a4, a5, a6, a7⟩ := id hH
  obtain ⟨t0, ht⟩ := a3 _ _ e1 (Nat.le_refl 20)
  have hi : zR32 i := hF.tl.hd
  have he := zWs_at (as := as) (ca := ca) e1
  rw [zEnt_I] at he
  refine va_iast hx hb a2 a4 a5 a6 a.toNat t0 he ht (i := Int32.ofInt i) (x := Int32.ofInt v) (o32_in hi ⟨h0, h1⟩) hdec ?_
  intro H1 locs1 b1 b2 b3
  rw [o32_cl hi h0, ← upd_of, ← zEnt_I (as := as), zWs_set] at b1 b2
  exact z_stA (Nat.le_refl 20) hH hF hp e1 hF.hd kk b1 b2 b3
theorem z_zast (X : zCx p R s m args meth c A H0 b Ls xs mi) (hdec : decode (zmCode mi) pc = .ok (.bastore, 1)) (hE : zStA 22 0 (fun v => [v = 0 ∨ v = 1]) st h = some (gs, st', h')) (hg : zAll gs) (kk : zGoal p l e R s m args below meth c Q D A H0 b mi n0 s0 as0 (pc + 1, L, st', h')) : zGoal p l e R s m args below meth c Q D A H0 b mi n0 s0 as0 (pc, L, st, h) := by
  obtain ⟨hx, hb, -⟩ := X
  obtain ⟨v, i, a, n, f, rfl, e1, rfl, h0, h1, h2⟩ := zStA_spec hE hg
  intro as ca ls H locs hH hF hp
  obtain ⟨a1, ⟨tys, a2, a3⟩, a4, a5, a6, a7⟩ := id hH
  obtain ⟨t0, ht⟩ := a3 _ _ e1 (Nat.le_of_ble_eq_true rfl)
  have hi : zR32 i := hF.tl.hd
  have he := zWs_at (as := as) (ca := ca) e1
  rw [zEnt_Z] at he
  have hz : vp_nar .boolean (Int32.ofInt v) = Int32.ofInt v := by
    rcases h2.1 with rfl | rfl <;> decide
  refine va_zast hx hb a2 a4 a5 a6 a.toNat t0 he ht (i := Int32.ofInt i) (x := Int32.ofInt v) (o32_in hi ⟨h0, h1⟩) hdec ?_
  intro H1 locs1 b1 b2 b3
  rw [hz, o32_cl hi h0, ← upd_of, ← zEnt_Z (as := as), zWs_set] at b1 b2
  exact z_stA (Nat.le_of_ble_eq_true rfl) hH hF hp e1 hF.hd kk b1 b2 b3
theorem z_last (X : zCx p R s m args meth c A H0 b Ls xs mi) (hdec : decode (zmCode mi) pc = .ok (.lastore, 1)) (hE : zStA 21 1 (fun _ => []) st h = some (gs, st', h')) (hg : zAll gs) (kk : zGoal p l e R s m args below meth c Q D A H0 b mi n0 s0 as0 (pc + 1, L, st', h')) : zGoal p l e R s m args below meth c Q D A H0 b mi n0 s0 as0 (pc, L, st, h) := by
  obtain ⟨hx, hb, -⟩ := X
  obtain ⟨v, i, a, n, f, rfl, e1, rfl, h0, h1, -⟩ := zStA_spec hE hg
  intro as ca ls H locs hH hF hp
  obtain ⟨a1, ⟨tys, a2, a3⟩, a4, a5, a6, a7⟩ := id hH
  obtain ⟨t0, ht⟩ := a3 _ _ e1 (Nat.le_of_ble_eq_true rfl)
  have hi : zR32 i := hF.tl.hd
  have he := zWs_at (as := as) (ca := ca) e1
  rw [zEnt_J] at he
  refine va_last hx hb a2 a4 a5 a6 a.toNat t0 he ht (i := Int32.ofInt i) (x := Int64.ofInt v) (o32_in hi ⟨h0, h1⟩) hdec ?_
  intro H1 locs1 b1 b2 b3
  rw [o32_cl hi h0, ← updL_of, ← zEnt_J (as := as), zWs_set] at b1 b2
  exact z_stA (Nat.le_of_ble_eq_true rfl) hH hF hp e1 hF.hd kk b1 b2 b3
theorem z_aast {ax : zAx} (X : zCx p R s m args meth c A H0 b Ls xs mi) (hdec : decode (zmCode mi) pc = .ok (.aastore, 1)) (hE : zHop1 Ls (fun j => (xs j).toInt) .aastore ax st h = some (gs, st', h')) (hg : zAll gs) (kk : zGoal p l e R s m args below meth c Q D A H0 b mi n0 s0 as0 (pc + 1, L, st', h')) : zGoal p l e R s m args below meth c Q D A H0 b mi n0 s0 as0 (pc, L, st, h) := by
  obtain ⟨hx, hb, -⟩ := X
  simp only [zHop1] at hE
  split at hE
  · rename_i v0 r0
    split at hE
    · rename_i kv nv fv ev
      split at hE
      · rename_i e2
        obtain ⟨v, i, a, n, f, hst, e1, rfl, h0, h1, -⟩ := zStA_spec hE hg
        cases hst
        rw [Bool.or_eq_true, Bool.and_eq_true, Bool.and_eq_true] at e2
        intro as ca ls H locs hH hF hp
        obtain ⟨a1, ⟨tys, a2, a3⟩, a4, a5, a6, a7⟩ := id hH
        have hi : zR32 i := hF.tl.hd
        have hv : 0 ≤ v0 ∧ v0 < (h.length : Int) := hF.hd
        have he := zWs_at (as := as) (ca := ca) e1
        have hev := zWs_at (as := as) (ca := ca) ev
        rcases e2 with ⟨q1, q2⟩ | ⟨q1, q2⟩
        · have q1 := Nat.eq_of_beq_eq_true q1
          have q2 := Nat.eq_of_beq_eq_true q2
          subst q2
          rw [q1] at e1 he kk
          obtain ⟨t0, ht⟩ := a3 _ _ e1 (Nat.le_of_ble_eq_true rfl)
          rw [zEnt_C] at he
          rw [zEnt_o (by omega)] at hev
          refine va_astq (r := (zOw 1, zTX 1, zNf 1)) hx hb a2 a4 a5 a6 a.toNat t0 v0.toNat 1 he ht hev (zCl_at (ci := 1) (by omega)) (i := Int32.ofInt i) (o32_in hi ⟨h0, h1⟩) hdec ?_
          intro H1 locs1 b1 b2 b3
          rw [o32_cl hi h0, ← updR_of hv.1, ← zEnt_C, zWs_set] at b1 b2
          exact z_stA (Nat.le_of_ble_eq_true rfl) hH hF hp e1 hv.2 kk b1 b2 b3
        · have q1 := Nat.eq_of_beq_eq_true q1
          have q2 := Nat.eq_of_beq_eq_true q2
          subst q2
          rw [q1] at e1 he kk
          obtain ⟨t0, ht⟩ := a3 _ _ e1 (Nat.le_of_ble_eq_true rfl)
          rw [zEnt_M] at he
          rw [zEnt_o (by omega)] at hev
          refine va_astq (r := (zOw 3, zTX 3, zNf 3)) hx hb a2 a4 a5 a6 a.toNat t0 v0.toNat 3 he ht hev (zCl_at (ci := 3) (by omega)) (i := Int32.ofInt i) (o32_in hi ⟨h0, h1⟩) hdec ?_
          intro H1 locs1 b1 b2 b3
          rw [o32_cl hi h0, ← updR_of hv.1, ← zEnt_M, zWs_set] at b1 b2
          exact z_stA (Nat.le_of_ble_eq_true rfl) hH hF hp e1 hv.2 kk b1 b2 b3
      · cases hE
    · cases hE
  · cases hE
end ZA
end
section
/-! Making cells, sizes, the script, the library's own. -/
theorem zP_app {D : va_G} {as : List Nat} {ca : Nat → ClassId} {h : zH1} {q : Nat} {cA : ClassId} {c : zCe} {H : Heap} (hl : as.length = h.length) (hw : ∀ (k : Nat) (c : zCe), h[k]? = some c → wfc as.length c) (hP : va_P D vwCl (zWs as ca h ++ [(q, zEnt (as ++ [q]) cA c)]) H) : va_P D vwCl (zWs (as ++ [q]) (fun k => if k = h.length then cA else ca k) (h ++ [c])) H := by
  intro k x hx
  have hk : k < (h ++ [c]).length := by rw [← zWs_len (as := as ++ [q]) (ca := fun k => if k = h.length then cA else ca k)]; exact (List.getElem?_eq_some_iff.mp hx).1
  rw [List.length_append] at hk
  have hk : k < h.length + 1 := hk
  by_cases he : k = h.length
  · subst he
    have h1 : (h ++ [c])[h.length]? = some c := by simp
    rw [zWs_at h1] at hx
    cases hx
    have := hP h.length (q, zEnt (as ++ [q]) cA c) (by rw [List.getElem?_append_right (by rw [zWs_len]; omega), zWs_len]; simp)
    simp only [if_true]
    rw [← hl, getD_last]
    exact this
  · have hk : k < h.length := by omega
    have h1 : (h ++ [c])[k]? = some h[k] := by rw [List.getElem?_append_left hk, List.getElem?_eq_getElem hk]
    rw [zWs_at h1] at hx
    cases hx
    have h2 : h[k]? = some h[k] := List.getElem?_eq_getElem hk
    have := hP k (as.getD k 0, zEnt as (ca k) h[k]) (by rw [List.getElem?_append_left (by rw [zWs_len]; exact hk)]; exact zWs_at h2)
    simp only [if_neg he]
    rw [getD_app (by omega)]
    exact zAt_app (hw k _ h2) this
theorem zD_app {A : Nat → Prop} {as : List Nat} {ca ca' : Nat → ClassId} {h : zH1} {q : Nat} {e : va_E} {c : zCe} (hl : as.length = h.length) (hD : va_D A (zWs as ca h ++ [(q, e)])) : va_D A (zWs (as ++ [q]) ca' (h ++ [c])) := by
  have key : ∀ (k : Nat) (x : Nat × va_E), (zWs (as ++ [q]) ca' (h ++ [c]))[k]? = some x → ∃ y : Nat × va_E, (zWs as ca h ++ [(q, e)])[k]? = some y ∧ y.1 = x.1 := by
    intro k x hx
    have hk : k < (h ++ [c]).length := by rw [← zWs_len (as := as ++ [q]) (ca := ca')]; exact (List.getElem?_eq_some_iff.mp hx).1
    rw [List.length_append] at hk
    have hk : k < h.length + 1 := hk
    by_cases he : k = h.length
    · subst he
      have h1 : (h ++ [c])[h.length]? = some c := by simp
      rw [zWs_at h1] at hx
      cases hx
      refine ⟨(q, e), by rw [List.getElem?_append_right (by rw [zWs_len]; omega), zWs_len]; simp, ?_⟩
      show q = (as ++ [q]).getD h.length 0
      rw [← hl, getD_last]
    · have hk : k < h.length := by omega
      have h1 : (h ++ [c])[k]? = some h[k] := by rw [List.getElem?_append_left hk, List.getElem?_eq_getElem hk]
      rw [zWs_at h1] at hx
      cases hx
      refine ⟨(as.getD k 0, zEnt as (ca k) h[k]), by rw [List.getElem?_append_left (by rw [zWs_len]; exact hk)]; exact zWs_at (List.getElem?_eq_getElem hk), ?_⟩
      show as.getD k 0 = (as ++ [q]).getD k 0
      rw [getD_app (by omega)]
  refine ⟨fun i j x y hx hy hxy => ?_, fun k x hx => ?_⟩
  · obtain ⟨x', h1, h2⟩ := key i x hx
    obtain ⟨y', h3, h4⟩ := key j y hy
    exact hD.1 i j x' y' h1 h3 (by rw [h2, h4]; exact hxy)
  · obtain ⟨x', h1, h2⟩ := key k x hx
    rw [← h2]
    exact hD.2 k x' h1
theorem zSl_app {h : zH1} {c : zCe} : zSl (h ++ [c]) = zSl h + c.2.1 := by simp [zSl]
theorem zFR.app {b : Nat} {sc : Prop} {as : List Nat} {n nL q : Nat} {L : zLo} {st : List zAv} {ls : Array Slot} (hn : as.length = n) (h : zFR b sc as n L st ls nL) : zFR b sc (as ++ [q]) (n + 1) L st ls nL := by
  subst hn
  refine ⟨⟨h.1.1, h.1.2.1, fun i a ha => ?_⟩, h.2.1, fun i a ha => wfv_up (Nat.le_succ _) (h.2.2.1 i a ha), fun a ha => wfv_up (Nat.le_succ _) (h.2.2.2 a ha)⟩
  rw [cv_app (h.2.2.1 i a ha)]
  exact h.1.2.2 i a ha
theorem map_cv_app {b : Nat} {sc : Prop} {as : List Nat} {q : Nat} {st : List zAv} (h : ∀ a ∈ st, wfv as.length sc a) : st.map (cv b (as ++ [q])) = st.map (cv b as) := List.map_congr_left fun a ha => cv_app (h a ha)
section ZN
variable {p : Program} {l : Launch} {e : Env} {R : Room} {s : State} {m : MethodId} {args : Array Value} {below : List Frame} {meth : Method} {c : Code} {Q : State → Prop}
variable {D : va_G} {A : Nat → Prop} {H0 : Heap} {b Ls : Nat} {xs : Nat → Int32} {mi n0 s0 : Nat}
variable {pc pc' : Nat} {L : zLo} {st st' : List zAv} {h h' : zH1} {gs : List Prop} {cf : zCf zH1} {as0 : List Nat}
/-- behind a new cell -/
theorem z_made {as : List Nat} {ca : Nat → ClassId} {ls : Array Slot} {H H1 : Heap} {locs locs1 : List Loc} {q : Nat} {cA : ClassId} {cl : zCe} (hn : n0 ≤ h.length) (hs : s0 ≤ zSl h)
    (hH : zHR s D A H0 as ca h H locs) (hF : zFR b (zmC mi = 16) as h.length L st ls (zmMax mi)) (hp : as0 <+: as) (hw : wfc (h.length + 1) cl)
    (hK : ∃ tys, va_K D vwCl tys s ∧ (∀ (k : Nat) (x : zCe), h[k]? = some x → 20 ≤ x.1 → ∃ t0 : Nat, tys[t0]? = some (ca k, zAk x.1)) ∧ (20 ≤ cl.1 → ∃ t0 : Nat, tys[t0]? = some (cA, zAk cl.1)))
    (hP : va_P D vwCl (zWs as ca h ++ [(q, zEnt (as ++ [q]) cA cl)]) H1) (hD : va_D A (zWs as ca h ++ [(q, zEnt (as ++ [q]) cA cl)])) (hS : va_S A H0 H1 locs1)
    (kk : zGoal p l e R s m args below meth c Q D A H0 b mi n0 s0 as0 (pc', L, (2, (h.length : Int)) :: st, h ++ [cl])) : W p l e R s m args below meth c H1 locs1 (h.length - n0 + 1) (zSl h - s0 + cl.2.1) Q (F0 m pc' ls (.ref q :: st.map (cv b as))) := by
  obtain ⟨a1, -, a4, a5, a6, a7⟩ := id hH
  obtain ⟨tys, k1, k2, k3⟩ := hK
  have hH' : zHR s D A H0 (as ++ [q]) (fun k => if k = h.length then cA else ca k) (h ++ [cl]) H1 locs1 := by
    refine ⟨by simp [a1], ⟨tys, k1, fun k x hk hx => ?_⟩, zP_app a1 (fun k x hx => by rw [a1]; exact a7 k x hx) hP, zD_app a1 hD, hS, fun k x hk => ?_⟩
    · by_cases he : k = h.length
      · subst he
        simp at hk
        subst hk
        simp only [if_true]
        exact k3 hx
      · rw [List.getElem?_append_left (by have := (List.getElem?_eq_some_iff.mp hk).1; simp at this; omega)] at hk
        simp only [if_neg he]
        exact k2 k x hk hx
    · rw [List.length_append]
      by_cases he : k = h.length
      · subst he
        simp at hk
        subst hk
        exact hw
      · rw [List.getElem?_append_left (by have := (List.getElem?_eq_some_iff.mp hk).1; simp at this; omega)] at hk
        exact wfc_up (Nat.le_succ _) (a7 k x hk)
  have hF' : zFR b (zmC mi = 16) (as ++ [q]) (h.length + 1) L ((2, (h.length : Int)) :: st) ls (zmMax mi) := (hF.app a1).push ⟨by omega, by omega⟩
  have := kk (as ++ [q]) (fun k => if k = h.length then cA else ca k) ls H1 locs1 hH' (by simpa using hF') (hp.trans (List.prefix_append _ _))
  simp only [List.length_append, List.length_cons, List.length_nil, List.map_cons] at this
  rw [map_cv_app (fun a ha => by rw [a1]; exact hF.2.2.2 a ha), zSl_app] at this
  have hr : cv b (as ++ [q]) (2, (h.length : Int)) = .ref q := by
    show Value.ref _ = _
    rw [Int.toNat_natCast, ← a1, getD_last]
  rw [hr] at this
  rw [show h.length - n0 + 1 = h.length + (0 + 1) - n0 by omega, show zSl h - s0 + cl.2.1 = zSl h + cl.2.1 - s0 by omega]
  exact this
theorem zAny_new {cls x ci : Nat} (h : zLN.any (fun r => Nat.beq r.1 cls && Nat.beq r.2.1 x && Nat.beq r.2.2.1 ci) = true) : Cond.classLink (zOw cls) x (zOw ci) ∈ zGW ∧ Cond.instantiable (zOw ci) (zNf ci) ∈ zGW ∧ Cond.initialized (zOw ci) ∈ zGW ∧ ci < 13 := by
  obtain ⟨r, hr, h1⟩ := List.any_eq_true.mp h
  simp only [Bool.and_eq_true] at h1
  obtain ⟨⟨a1, a2⟩, a3⟩ := h1
  have e1 := Nat.eq_of_beq_eq_true a1; have e2 := Nat.eq_of_beq_eq_true a2; have e3 := Nat.eq_of_beq_eq_true a3
  have hl := zL_lt
  simp only [Bool.and_eq_true] at hl
  have h2 := Nat.le_of_ble_eq_true (List.all_eq_true.mp hl.1.2 r hr)
  have h5 := zMap zLN_at r hr
  simp only [Prod.mk.injEq] at h5
  rw [e1, e2, e3] at h5
  rw [e3] at h2
  exact ⟨zAt h5.1 rfl, zAt h5.2.1 rfl, zAt h5.2.2 rfl, h2⟩
theorem zNf_le {ci : Nat} (h : ci < 13) : zNf ci ≤ 50 := by
  match ci, h with
  | 0, _ => decide | 1, _ => decide | 2, _ => decide | 3, _ => decide | 4, _ => decide | 5, _ => decide | 6, _ => decide | 7, _ => decide | 8, _ => decide | 9, _ => decide | 10, _ => decide | 11, _ => decide | 12, _ => decide
theorem zDef {as : List Nat} {ci k : Nat} (h : ci < 13) (hk : k < zNf ci) : defaultValue (zTy ci k) = zFv as (zTag ci k) (zIni0 ci k) := by
  have h1 := zTy_ok h hk
  unfold zFv zIni0 zTag
  cases e : zTy ci k <;> rw [e] at h1 <;> first | (cases h1; done) | rfl
theorem z_new {x : Nat} {ax : zAx} (X : zCx p R s m args meth c A H0 b Ls xs mi) (hdec : decode (zmCode mi) pc = .ok (.new x, 3)) (hax : zLN.any (fun r => Nat.beq r.1 (zmC mi) && Nat.beq r.2.1 x && Nat.beq r.2.2.1 ax.1) = true)
    (hE : zHop1 Ls (fun j => (xs j).toInt) (.new x) ax st h = some (gs, st', h')) (hn : n0 ≤ h.length) (hs : s0 ≤ zSl h) (hrc : h'.length - n0 ≤ R.cells) (hrs : zSl h' - s0 ≤ R.slots) (kk : zGoal p l e R s m args below meth c Q D A H0 b mi n0 s0 as0 (pc + 3, L, st', h')) : zGoal p l e R s m args below meth c Q D A H0 b mi n0 s0 as0 (pc, L, st, h) := by
  obtain ⟨hx, hb, hml, hown, hts, hkn, hA, -⟩ := X
  obtain ⟨w1, w2, w3, hci⟩ := zAny_new hax
  cases hE
  intro as ca ls H locs hH hF hp
  dsimp only at hH hF ⊢
  obtain ⟨a1, ⟨tys, a2, a3⟩, a4, a5, a6, a7⟩ := id hH
  have hlen : (h ++ [(ax.1, zNf ax.1, zIni0 ax.1)]).length = h.length + 1 := by simp
  rw [hlen] at hrc
  rw [zSl_app] at hrs
  refine va_new hx hb hts (zCl_in hci) (zTy ax.1) (zCl_ty hci) hown (hts _ w1) (hts _ w2) (hts _ w3) a2 a4 a5 a6 hA (zCl_at hci) (fs := (List.range (zNf ax.1)).map (fun k => zFv as (zTag ax.1 k) (zIni0 ax.1 k))) (fun j hj => ?_) (by omega) (by dsimp only at hrs; omega) hdec ?_
  · rw [zDef (as := as) hci hj]
    simp [vp_V, List.getD_eq_getElem?_getD, hj]
  · intro q H1 b1 b2 b3
    have e1 : (Sum.inr (ax.1, (List.range (zNf ax.1)).map (fun k => zFv as (zTag ax.1 k) (zIni0 ax.1 k))) : va_E) = zEnt (as ++ [q]) 0 (ax.1, zNf ax.1, zIni0 ax.1) := by
      rw [zEnt_o (by omega)]
      refine congrArg (fun z => (Sum.inr (ax.1, z) : va_E)) (List.map_congr_left fun k hk => ?_)
      rw [← zDef (as := as) hci (List.mem_range.mp hk), ← zDef (as := as ++ [q]) hci (List.mem_range.mp hk)]
    rw [show (Sum.inr (ax.1, (List.range (zNf ax.1)).map (fun k => zFv as (zTag ax.1 k) (zIni0 ax.1 k))) : va_E) = zEnt (as ++ [q]) 0 (ax.1, zNf ax.1, zIni0 ax.1) from e1] at b1 b2
    refine z_made (cl := (ax.1, zNf ax.1, zIni0 ax.1)) hn hs hH hF hp (Or.inl ⟨hci, rfl, fun k hk => ?_⟩) ⟨tys, a2, a3, fun q => ?_⟩ b1 b2 b3 kk
    · show wff _ (zTag ax.1 k) (if zTag ax.1 k = 2 then -1 else 0)
      have := zTag_le (ci := ax.1) (k := k)
      have ht : zTag ax.1 k = 0 ∨ zTag ax.1 k = 1 ∨ zTag ax.1 k = 2 := by omega
      rcases ht with q | q | q <;> rw [q]
      · exact ⟨by decide, by decide⟩
      · exact ⟨by decide, by decide⟩
      · show (-1 : Int) < _
        omega
    · have q : 20 ≤ ax.1 := q
      omega
theorem o32_nat (n : Nat) : Int32.ofInt (n : Int) = Int32.ofNat n := Int32.ofInt_eq_ofNat
/-- arrays of numbers -/
theorem z_newa {ty : ArrayType} {ax : zAx} (X : zCx p R s m args meth c A H0 b Ls xs mi) (hdec : decode (zmCode mi) pc = .ok (.newarray ty, 2))
    (hE : zHop1 Ls (fun j => (xs j).toInt) (.newarray ty) ax st h = some (gs, st', h')) (hg : zAll gs) (hn : n0 ≤ h.length) (hs : s0 ≤ zSl h) (hrc : h'.length - n0 ≤ R.cells) (hrs : zSl h' - s0 ≤ R.slots) (kk : zGoal p l e R s m args below meth c Q D A H0 b mi n0 s0 as0 (pc + 2, L, st', h')) : zGoal p l e R s m args below meth c Q D A H0 b mi n0 s0 as0 (pc, L, st, h) := by
  obtain ⟨hx, hb, hml, hown, hts, hkn, hA, -⟩ := X
  simp only [zHop1] at hE
  split at hE
  · rename_i kd hkd
    split at hE
    · rename_i n r
      cases hE
      have hn1 : 0 ≤ n ∧ n ≤ 100000 := hg.1
      intro as ca ls H locs hH hF hp
      dsimp only at hH hF ⊢
      obtain ⟨a1, ⟨tys, a2, a3⟩, a4, a5, a6, a7⟩ := id hH
      have hni : zR32 n := hF.hd
      have hlen : (h ++ [((kd, n.toNat, fun _ => (0 : Int)) : zCe)]).length = h.length + 1 := by simp
      rw [hlen] at hrc
      rw [zSl_app] at hrs
      dsimp only at hrs
      have hneg : ¬ Int32.ofInt n < 0 := by
        rw [← o32_0, o32_lt hni r32_0]; omega
      have go : ∀ (fty : FieldType) (a0 : vp_A), newarray.typeOf ty = fty → zAk kd = fty → (∀ (cA : ClassId) (as : List Nat), (Sum.inl (cA, a0) : va_E) = zEnt as cA (kd, n.toNat, fun _ => 0)) → (∀ cA : ClassId, vp_cell cA a0 = arrV cA n.toNat (fun _ => defaultValue fty)) → componentBytes fty ≤ 8 → Cond.arrayClass fty ∈ zGW → wfc (h.length + 1) (kd, n.toNat, fun _ => 0) →
          W p l e R s m args below meth c H locs (h.length - n0) (zSl h - s0) Q (F0 m pc ls (List.map (cv b as) ((0, n) :: r))) := by
        intro fty a0 hty hak hent hcell hcb hcl hwf
        refine va_newa (a0 := a0) hx hb (by rw [hty]; exact hts _ hcl) hty a2 a4 a5 a6 hA hcell hneg (o32_cl hni hn1.1) ?_ (by omega) (by omega) hdec ?_
        · have : n.toNat * componentBytes fty ≤ 100000 * 8 := Nat.mul_le_mul (by omega) hcb
          omega
        · intro q cA H1 c1 c2 c3 c4
          rw [hent cA (as ++ [q])] at c2 c3
          exact z_made (cl := (kd, n.toNat, fun _ => 0)) hn hs hH hF.tl hp hwf ⟨tys ++ [(cA, fty)], c1, fun k x hk hx => by
            obtain ⟨t0, ht0⟩ := a3 k x hk hx
            exact ⟨t0, by rw [List.getElem?_append_left (List.getElem?_eq_some_iff.mp ht0).1]; exact ht0⟩, fun _ => ⟨tys.length, by rw [hak]; simp⟩⟩ c2 c3 c4 kk
      have hwf : 20 ≤ kd → kd < 25 → kd ≠ 23 → kd ≠ 24 → wfc (h.length + 1) (kd, n.toNat, fun _ => 0) := fun g1 g2 g3 g4 => Or.inr ⟨g1, g2, by show n.toNat ≤ 100000; omega, fun k hk => by
        have : kd = 20 ∨ kd = 21 ∨ kd = 22 := by omega
        rcases this with rfl | rfl | rfl
        · exact r32_0
        · exact (⟨by decide, by decide⟩ : zR64 0)
        · exact r32_0⟩
      cases ty <;> first | (cases hkd; done) | skip
      all_goals cases hkd
      · exact go .boolean (n.toNat, .inl (fun _ => 0)) rfl rfl (fun _ _ => rfl) (fun _ => rfl) (by decide) zp_aZ (hwf (by omega) (by omega) (by omega) (by omega))
      · exact go .int (n.toNat, .inl (fun _ => 0)) rfl rfl (fun _ _ => rfl) (fun _ => rfl) (by decide) zp_aI (hwf (by omega) (by omega) (by omega) (by omega))
      · exact go .long (n.toNat, .inr (.inl (fun _ => 0))) rfl rfl (fun _ _ => rfl) (fun _ => rfl) (by decide) zp_aJ (hwf (by omega) (by omega) (by omega) (by omega))
    · cases hE
  · cases hE
theorem zAny_newq {cls x kd : Nat} (h : zLA.any (fun r => Nat.beq r.1 cls && Nat.beq r.2.1 x && Nat.beq (if r.2.2.1 = 1 then 23 else 24) kd) = true) : (kd = 23 ∧ Cond.classLink (zOw cls) x "EchoVale$Course" ∈ zGW) ∨ (kd = 24 ∧ Cond.classLink (zOw cls) x "EchoVale$Image" ∈ zGW) := by
  obtain ⟨r, hr, h1⟩ := List.any_eq_true.mp h
  simp only [Bool.and_eq_true] at h1
  obtain ⟨⟨a1, a2⟩, a3⟩ := h1
  have e1 := Nat.eq_of_beq_eq_true a1; have e2 := Nat.eq_of_beq_eq_true a2; have e3 := Nat.eq_of_beq_eq_true a3
  have hl := zL_lt
  simp only [Bool.and_eq_true] at hl
  have h2 := List.all_eq_true.mp hl.2 r hr
  rw [Bool.or_eq_true] at h2
  have h5 := zMap zLA_at r hr
  rw [e1, e2] at h5
  rcases h2 with h2 | h2
  · have h2 := Nat.eq_of_beq_eq_true h2
    rw [h2] at e3 h5
    exact Or.inl ⟨e3.symm, zAt h5 rfl⟩
  · have h2 := Nat.eq_of_beq_eq_true h2
    rw [h2] at e3 h5
    exact Or.inr ⟨e3.symm, zAt h5 rfl⟩
theorem z_newq {x : Nat} {ax : zAx} (X : zCx p R s m args meth c A H0 b Ls xs mi) (hdec : decode (zmCode mi) pc = .ok (.anewarray x, 3)) (hax : zLA.any (fun r => Nat.beq r.1 (zmC mi) && Nat.beq r.2.1 x && Nat.beq (if r.2.2.1 = 1 then 23 else 24) ax.1) = true)
    (hE : zHop1 Ls (fun j => (xs j).toInt) (.anewarray x) ax st h = some (gs, st', h')) (hg : zAll gs) (hn : n0 ≤ h.length) (hs : s0 ≤ zSl h) (hrc : h'.length - n0 ≤ R.cells) (hrs : zSl h' - s0 ≤ R.slots) (kk : zGoal p l e R s m args below meth c Q D A H0 b mi n0 s0 as0 (pc + 3, L, st', h')) : zGoal p l e R s m args below meth c Q D A H0 b mi n0 s0 as0 (pc, L, st, h) := by
  obtain ⟨hx, hb, hml, hown, hts, hkn, hA, -⟩ := X
  simp only [zHop1] at hE
  split at hE
  · split at hE
    · rename_i n r
      cases hE
      have hn1 : 0 ≤ n ∧ n ≤ 100000 := hg.1
      intro as ca ls H locs hH hF hp
      dsimp only at hH hF ⊢
      obtain ⟨a1, ⟨tys, a2, a3⟩, a4, a5, a6, a7⟩ := id hH
      have hni : zR32 n := hF.hd
      have hlen : (h ++ [((ax.1, n.toNat, fun _ => (-1 : Int)) : zCe)]).length = h.length + 1 := by simp
      rw [hlen] at hrc
      rw [zSl_app] at hrs
      dsimp only at hrs
      have hneg : ¬ Int32.ofInt n < 0 := by
        rw [← o32_0, o32_lt hni r32_0]; omega
      have go : ∀ C : String, zAk ax.1 = .object C → Cond.classLink (zOw (zmC mi)) x C ∈ zGW → va_AO C s → (∀ (cA : ClassId) (as : List Nat), (Sum.inl (cA, n.toNat, .inr (.inr (.inr (.inr (fun _ => none))))) : va_E) = zEnt as cA (ax.1, n.toNat, fun _ => -1)) → wfc (h.length + 1) (ax.1, n.toNat, fun _ => -1) →
          W p l e R s m args below meth c H locs (h.length - n0) (zSl h - s0) Q (F0 m pc ls (List.map (cv b as) ((0, n) :: r))) := by
        intro C hak hcl hao hent hwf
        refine va_newq hx hb hown (hts _ hcl) hao a2 a4 a5 a6 hA hneg (o32_cl hni hn1.1) (by omega) (by omega) (by omega) hdec ?_
        intro q cA H1 c1 c2 c3 c4
        rw [hent cA (as ++ [q])] at c2 c3
        exact z_made (cl := (ax.1, n.toNat, fun _ => -1)) hn hs hH hF.tl hp hwf ⟨tys ++ [(cA, .object C)], c1, fun k x hk hx => by
            obtain ⟨t0, ht0⟩ := a3 k x hk hx
            exact ⟨t0, by rw [List.getElem?_append_left (List.getElem?_eq_some_iff.mp ht0).1]; exact ht0⟩, fun _ => ⟨tys.length, by rw [hak]; simp⟩⟩ c2 c3 c4 kk
      rcases zAny_newq hax with ⟨q1, q2⟩ | ⟨q1, q2⟩
      · refine go "EchoVale$Course" (by rw [q1]; rfl) q2 hkn.1 (fun cA as => by rw [q1]; rfl) ?_
        rw [q1]
        exact Or.inr ⟨by show 20 ≤ 23; omega, by show 23 < 25; omega, by show n.toNat ≤ 100000; omega, fun k hk => by show (-1 : Int) < _; omega⟩
      · refine go "EchoVale$Image" (by rw [q1]; rfl) q2 hkn.2.1 (fun cA as => by rw [q1]; rfl) ?_
        rw [q1]
        exact Or.inr ⟨by show 20 ≤ 24; omega, by show 24 < 25; omega, by show n.toNat ≤ 100000; omega, fun k hk => by show (-1 : Int) < _; omega⟩
    · cases hE
  · cases hE
theorem z_alen {ax : zAx} (X : zCx p R s m args meth c A H0 b Ls xs mi) (hdec : decode (zmCode mi) pc = .ok (.arraylength, 1)) (hax : (Nat.beq ax.1 0 || Nat.beq (zmC mi) 16) = true)
    (hE : zHop1 Ls (fun j => (xs j).toInt) .arraylength ax st h = some (gs, st', h')) (kk : zGoal p l e R s m args below meth c Q D A H0 b mi n0 s0 as0 (pc + 1, L, st', h')) : zGoal p l e R s m args below meth c Q D A H0 b mi n0 s0 as0 (pc, L, st, h) := by
  obtain ⟨hx, hb, hml, hown, hts, hkn, hA, hnm, hscr, -⟩ := X
  simp only [zHop1] at hE
  split at hE
  · rename_i hb1
    split at hE
    · rename_i z r
      cases hE
      have hb1 := Nat.eq_of_beq_eq_true hb1
      rw [hb1] at hax
      simp only [Bool.or_eq_true] at hax
      obtain ⟨g1, g2, g3, g4⟩ := hscr (Nat.eq_of_beq_eq_true (hax.resolve_left (by decide)))
      intro as ca ls H locs hH hF hp
      dsimp only at hH hF ⊢
      refine va_slen hx hb g1 g2 g3 hH.2.2.2.2.1 hdec ?_
      have := kk as ca ls H locs hH (hF.tl.push (a := (0, (Ls : Int))) ⟨by omega, by omega⟩) hp
      simp only [List.map_cons, cv, o32_nat] at this
      exact this
    · cases hE
  · split at hE
    · rename_i a r
      split at hE
      · rename_i k n f e1
        split at hE
        · rename_i hk
          cases hE
          have hk := Nat.le_of_ble_eq_true hk
          intro as ca ls H locs hH hF hp
          dsimp only at hH hF ⊢
          obtain ⟨a1, ⟨tys, a2, a3⟩, a4, a5, a6, a7⟩ := id hH
          obtain ⟨t0, ht⟩ := a3 _ _ e1 hk
          have hw := wfc_arr (a7 _ _ e1) hk
          have he := zWs_at (as := as) (ca := ca) e1
          have hen : ∃ z, zEnt as (ca a.toNat) (k, n, f) = .inl (ca a.toNat, n, z) := by
            simp only [zEnt, Nat.ble_eq_true_of_le hk]
            exact ⟨_, rfl⟩
          obtain ⟨z, hz⟩ := hen
          rw [hz] at he
          refine va_alen hx hb a2 a4 a.toNat t0 he ht rfl hdec ?_
          have := kk as ca ls H locs hH (hF.tl.push (a := (0, (n : Int))) ⟨by omega, by have := hw.1; dsimp only at this ⊢; omega⟩) hp
          simp only [List.map_cons, cv, o32_nat] at this
          exact this
        · cases hE
      · cases hE
    · cases hE
theorem z_sld {ax : zAx} (X : zCx p R s m args meth c A H0 b Ls xs mi) (hdec : decode (zmCode mi) pc = .ok (.iaload, 1)) (hax : (Nat.beq ax.1 0 || Nat.beq (zmC mi) 16) = true)
    (hE : zHop1 Ls (fun j => (xs j).toInt) .iaload ax st h = some (gs, st', h')) (hg : zAll gs) (kk : zGoal p l e R s m args below meth c Q D A H0 b mi n0 s0 as0 (pc + 1, L, st', h')) : zGoal p l e R s m args below meth c Q D A H0 b mi n0 s0 as0 (pc, L, st, h) := by
  simp only [zHop1] at hE
  split at hE
  · obtain ⟨hx, hb, hml, hown, hts, hkn, hA, hnm, hscr, -⟩ := X
    rename_i hb1
    split at hE
    · rename_i j z r
      cases hE
      have hb1 := Nat.eq_of_beq_eq_true hb1
      rw [hb1] at hax
      simp only [Bool.or_eq_true] at hax
      obtain ⟨g1, g2, g3, g4⟩ := hscr (Nat.eq_of_beq_eq_true (hax.resolve_left (by decide)))
      intro as ca ls H locs hH hF hp
      dsimp only at hH hF ⊢
      have hj : zR32 j := hF.hd
      have h0 : 0 ≤ j ∧ j < (Ls : Int) := hg.1
      refine va_sld hx hb g1 g2 g3 hH.2.2.2.2.1 (i := Int32.ofInt j) (o32_in hj h0) hdec ?_
      rw [o32_cl hj h0.1]
      have := kk as ca ls H locs hH (hF.tl.tl.push (a := (0, (xs j.toNat).toInt)) (r32 _)) hp
      simp only [List.map_cons, cv, Int32.ofInt_toInt] at this
      exact this
    · cases hE
  · exact z_iald X hdec hE hg kk
end ZN
end
section
/-! The library's own methods that ride as one instruction. -/
section ZK
variable {p : Program} {l : Launch} {e : Env} {R : Room} {s : State} {m : MethodId} {args : Array Value} {below : List Frame} {meth : Method} {c : Code} {Q : State → Prop}
variable {D : va_G} {A : Nat → Prop} {H0 : Heap} {b Ls : Nat} {xs : Nat → Int32} {mi n0 s0 : Nat}
variable {pc pc' : Nat} {L : zLo} {st st' : List zAv} {h h' : zH1} {gs : List Prop} {cf : zCf zH1} {as0 : List Nat}
theorem zRm_sum {as : List Nat} {r : List zAv} (h : zRm r = true) : ((r.map (cv b as)).map fun v => v.category).sum ≤ 16 := by
  have h1 : r.length ≤ 8 := Nat.le_of_ble_eq_true h
  have key : ∀ r : List zAv, ((r.map (cv b as)).map fun v => v.category).sum ≤ 2 * r.length := by
    intro r
    induction r with
    | nil => simp
    | cons a r ih =>
      simp only [List.map_cons, List.sum_cons, List.length_cons]
      rcases lv_cat (cv b as a) with q | q <;> omega
  have := key r
  omega
theorem zAny_2 {cls x : Nat} (h : zLY.any (fun r => Nat.beq r.1 cls && Nat.beq r.2.1 x) = true) : Cond.methodLink (zOw cls) x arraycopyName ∈ zGW := by
  obtain ⟨r, hr, h1⟩ := List.any_eq_true.mp h
  simp only [Bool.and_eq_true] at h1
  have e1 := Nat.eq_of_beq_eq_true h1.1; have e2 := Nat.eq_of_beq_eq_true h1.2
  have h5 := zMap zLY_at r hr
  rw [e1, e2] at h5
  exact zAt h5 rfl
theorem zAny_o {cls x : Nat} (h : zLO.any (fun r => Nat.beq r.1 cls && Nat.beq r.2.1 x) = true) : Cond.methodLink (zOw cls) x Lib.objectInit ∈ zGW := by
  obtain ⟨r, hr, h1⟩ := List.any_eq_true.mp h
  simp only [Bool.and_eq_true] at h1
  have e1 := Nat.eq_of_beq_eq_true h1.1; have e2 := Nat.eq_of_beq_eq_true h1.2
  have h5 := zMap zLO_at r hr
  rw [e1, e2] at h5
  exact zAt h5 rfl
theorem zAny_m {cls x k : Nat} (h : zLM.any (fun r => Nat.beq r.1 cls && Nat.beq r.2.1 x && Nat.beq r.2.2.1 k) = true) : Cond.methodLink (zOw cls) x (zMn k) ∈ zGW := by
  obtain ⟨r, hr, h1⟩ := List.any_eq_true.mp h
  simp only [Bool.and_eq_true] at h1
  obtain ⟨⟨a1, a2⟩, a3⟩ := h1
  have e1 := Nat.eq_of_beq_eq_true a1; have e2 := Nat.eq_of_beq_eq_true a2; have e3 := Nat.eq_of_beq_eq_true a3
  have h5 := zMap zLM_at r hr
  rw [e1, e2, e3] at h5
  exact zAt h5 rfl
theorem zCpy_I {f g : Nat → Int} {sp dp n : Nat} : (fun j => Int32.ofInt (zCpy f g sp dp n j)) = va_cpy (fun j => Int32.ofInt (f j)) (fun j => Int32.ofInt (g j)) sp dp n := by
  funext j
  unfold zCpy va_cpy
  split <;> rfl
theorem zCpy_J {f g : Nat → Int} {sp dp n : Nat} : (fun j => Int64.ofInt (zCpy f g sp dp n j)) = va_cpy (fun j => Int64.ofInt (f j)) (fun j => Int64.ofInt (g j)) sp dp n := by
  funext j
  unfold zCpy va_cpy
  split <;> rfl
theorem wfc_cpy {N kd n0 n1 sp dp n : Nat} {f g : Nat → Int} (h20 : 20 ≤ kd) (hf : wfc N (kd, n0, f)) (hg : wfc N (kd, n1, g)) (h1 : sp + n ≤ n0) (h2 : dp + n ≤ n1) : wfc N (kd, n1, zCpy f g sp dp n) := by
  have f1 := wfc_arr hf h20
  rcases hg with ⟨g1, -⟩ | ⟨g1, g2, g3, g4⟩
  · simp only at g1; omega
  · refine Or.inr ⟨g1, g2, g3, fun k hk => ?_⟩
    show wff N (zKt kd) (zCpy f g sp dp n k)
    unfold zCpy
    split
    · exact f1.2 _ (by show sp + (k - dp) < n0; omega)
    · exact g4 k hk
theorem z_copy {x : Nat} {ax : zAx} (hax1 : ax.1 = 5001) (X : zCx p R s m args meth c A H0 b Ls xs mi) (hdec : decode (zmCode mi) pc = .ok (.invokestatic x, 3)) (hax : zLY.any (fun r => Nat.beq r.1 (zmC mi) && Nat.beq r.2.1 x) = true)
    (hE : zHop1 Ls (fun j => (xs j).toInt) (.invokestatic x) ax st h = some (gs, st', h')) (hg : zAll gs) (kk : zGoal p l e R s m args below meth c Q D A H0 b mi n0 s0 as0 (pc + 3, L, st', h')) : zGoal p l e R s m args below meth c Q D A H0 b mi n0 s0 as0 (pc, L, st, h) := by
  obtain ⟨hx, hb, hml, hown, hts, hkn, hA, hnm, -, hrf, hrl⟩ := X
  simp only [zHop1, hax1] at hE
  split at hE
  · rename_i n dp d sp s1 r
    split at hE
    · rename_i k0 m0 f k1 m1 g e0 e1
      split at hE
      · rename_i e2
        simp only [Bool.and_eq_true, Bool.or_eq_true] at e2
        obtain ⟨⟨e3, e4⟩, e5⟩ := e2
        have e3 := Nat.eq_of_beq_eq_true e3
        subst e3
        cases hE
        obtain ⟨g1, g2, g3, g4, g5, -⟩ := hg
        have hnw : nativeFrameWords "java/lang/System" "arraycopy" 5 = 7 := by decide +kernel
        intro as ca ls H locs hH hF hp
        dsimp only at hH hF ⊢
        obtain ⟨a1, ⟨tys, a2, a3⟩, a4, a5, a6, a7⟩ := id hH
        have hn : zR32 n := hF.hd
        have hdp : zR32 dp := hF.tl.hd
        have hsp : zR32 sp := hF.tl.tl.tl.hd
        have hsz : c.maxLocals = ls.size := by rw [hml, hF.1.1]
        have he0 := zWs_at (as := as) (ca := ca) e0
        have he1 := zWs_at (as := as) (ca := ca) e1
        have h20 : 20 ≤ k0 := by
          rcases e4 with q | q
          · rw [Nat.eq_of_beq_eq_true q]; exact Nat.le_refl _
          · rw [Nat.eq_of_beq_eq_true q]; omega
        obtain ⟨t0, ht0⟩ := a3 _ _ e0 h20
        obtain ⟨t1, ht1⟩ := a3 _ _ e1 h20
        have p1 : ¬ Int32.ofInt sp < 0 := by rw [← o32_0, o32_lt hsp r32_0]; omega
        have p2 : ¬ Int32.ofInt dp < 0 := by rw [← o32_0, o32_lt hdp r32_0]; omega
        have p3 : ¬ Int32.ofInt n < 0 := by rw [← o32_0, o32_lt hn r32_0]; omega
        have c1 := o32_cl hsp g1
        have c2 := o32_cl hdp g2
        have c3 := o32_cl hn g3
        have hwn : wfc h.length (k0, m1, zCpy f g sp.toNat dp.toNat n.toNat) := wfc_cpy h20 (a7 _ _ e0) (a7 _ _ e1) (by omega) (by omega)
        have hsum := zRm_sum (b := b) (as := as) e5
        have go : ∀ (H1 : Heap) (locs1 : List Loc), va_P D vwCl (zWs as ca (h.set d.toNat (k0, m1, zCpy f g sp.toNat dp.toNat n.toNat))) H1 → va_D A (zWs as ca (h.set d.toNat (k0, m1, zCpy f g sp.toNat dp.toNat n.toNat))) → va_S A H0 H1 locs1 → W p l e R s m args below meth c H1 locs1 (h.length - n0) (zSl h - s0) Q (F0 m (pc + 3) ls (st'.map (cv b as))) := by
          intro H1 locs1 b1 b2 b3
          have := kk as ca ls H1 locs1 (hH.set (cl' := (k0, m1, zCpy f g sp.toNat dp.toNat n.toNat)) e1 rfl hwn b1 b2 b3) (by rw [List.length_set]; exact hF.tl.tl.tl.tl.tl) hp
          simp only [List.length_set] at this
          rw [zSl_set (c' := (k0, m1, zCpy f g sp.toNat dp.toNat n.toNat)) e1 rfl] at this
          exact this
        rcases e4 with q | q
        · have q := Nat.eq_of_beq_eq_true q
          subst q
          rw [zEnt_I] at he0 he1
          refine va_copyi hx hb hsz hown (hts _ (zAny_2 hax)) (hts _ zp_nat) (hts _ zp_stat) (hts _ zp_isys) a2 a4 a5 a6 s1.toNat d.toNat t0 t1 he0 he1 ht0 ht1 rfl p1 p2 p3 (by rw [c1, c3]; omega) (by rw [c2, c3]; omega) (fun _ _ => rfl) hrf (by rw [hnw]; omega) hdec ?_
          intro H1 locs1 b1 b2 b3
          rw [c1, c2, c3, ← zCpy_I, ← zEnt_I (as := as), zWs_set] at b1 b2
          exact go H1 locs1 b1 b2 b3
        · have q := Nat.eq_of_beq_eq_true q
          subst q
          rw [zEnt_J] at he0 he1
          refine va_copyl hx hb hsz hown (hts _ (zAny_2 hax)) (hts _ zp_nat) (hts _ zp_stat) (hts _ zp_isys) a2 a4 a5 a6 s1.toNat d.toNat t0 t1 he0 he1 ht0 ht1 rfl p1 p2 p3 (by rw [c1, c3]; omega) (by rw [c2, c3]; omega) (fun _ _ => rfl) hrf (by rw [hnw]; omega) hdec ?_
          intro H1 locs1 b1 b2 b3
          rw [c1, c2, c3, ← zCpy_J, ← zEnt_J (as := as), zWs_set] at b1 b2
          exact go H1 locs1 b1 b2 b3
      · cases hE
    · cases hE
  · cases hE
theorem zSl_nil {h : zH1} (hs : zSl h - s0 ≤ R.slots) : zSl h - s0 ≤ R.slots := hs
theorem z_mabs {x : Nat} {ax : zAx} (hax1 : ax.1 = 5002) (X : zCx p R s m args meth c A H0 b Ls xs mi) (hdec : decode (zmCode mi) pc = .ok (.invokestatic x, 3)) (hax : zLM.any (fun r => Nat.beq r.1 (zmC mi) && Nat.beq r.2.1 x && Nat.beq r.2.2.1 2) = true) (hrc : h'.length - n0 ≤ R.cells) (hrs : zSl h' - s0 ≤ R.slots)
    (hE : zHop1 Ls (fun j => (xs j).toInt) (.invokestatic x) ax st h = some (gs, st', h')) (kk : zGoal p l e R s m args below meth c Q D A H0 b mi n0 s0 as0 (pc + 3, L, st', h')) : zGoal p l e R s m args below meth c Q D A H0 b mi n0 s0 as0 (pc, L, st, h) := by
  obtain ⟨hx, hb, hml, hown, hts, hkn, hA, hnm, -, hrf, hrl⟩ := X
  simp only [zHop1, hax1] at hE
  split at hE
  · rename_i v r
    split at hE
    · rename_i e1
      cases hE
      intro as ca ls H locs hH hF hp
      dsimp only at hH hF ⊢
      have hsum := zRm_sum (b := b) (as := as) e1
      have hv : zR32 v := hF.hd
      refine va_mabs hx hb (by rw [hml, hF.1.1]) hown (hts _ (zAny_m hax)) (hts _ zp_mabss) (hts _ zp_mini) (hts _ zp_mabsc) hrf (by omega) hrc hrs hdec ?_
      have e2 : (if 0 ≤ Int32.ofInt v then Int32.ofInt v else 0 - Int32.ofInt v) = Int32.ofInt (if v < 0 then wneg v else v) := by
        have hle : 0 ≤ Int32.ofInt v ↔ 0 ≤ v := o32_le r32_0 hv
        by_cases hv0 : v < 0
        · rw [if_neg (fun q => by have := hle.mp q; omega), if_pos hv0, wneg, Int32.ofInt_toInt, Int32.zero_sub]
        · rw [if_pos (hle.mpr (by omega)), if_neg hv0]
      rw [e2]
      exact kk as ca ls H locs hH (hF.tl.push (a := (0, if v < 0 then wneg v else v)) (by
        show zR32 _
        split
        · exact r32 _
        · exact hv)) hp
    · cases hE
  · cases hE
theorem z_mmin {x : Nat} {ax : zAx} (hax1 : ax.1 = 5003) (X : zCx p R s m args meth c A H0 b Ls xs mi) (hdec : decode (zmCode mi) pc = .ok (.invokestatic x, 3)) (hax : zLM.any (fun r => Nat.beq r.1 (zmC mi) && Nat.beq r.2.1 x && Nat.beq r.2.2.1 3) = true) (hrc : h'.length - n0 ≤ R.cells) (hrs : zSl h' - s0 ≤ R.slots)
    (hE : zHop1 Ls (fun j => (xs j).toInt) (.invokestatic x) ax st h = some (gs, st', h')) (kk : zGoal p l e R s m args below meth c Q D A H0 b mi n0 s0 as0 (pc + 3, L, st', h')) : zGoal p l e R s m args below meth c Q D A H0 b mi n0 s0 as0 (pc, L, st, h) := by
  obtain ⟨hx, hb, hml, hown, hts, hkn, hA, hnm, -, hrf, hrl⟩ := X
  simp only [zHop1, hax1] at hE
  split at hE
  · rename_i w v r
    split at hE
    · rename_i e1
      cases hE
      intro as ca ls H locs hH hF hp
      dsimp only at hH hF ⊢
      have hsum := zRm_sum (b := b) (as := as) e1
      have hw : zR32 w := hF.hd
      have hv : zR32 v := hF.tl.hd
      refine va_mmin hx hb (by rw [hml, hF.1.1]) hown (hts _ (zAny_m hax)) (hts _ zp_mmins) (hts _ zp_mini) (hts _ zp_mminc) hrf (by omega) hrc hrs hdec ?_
      have e2 : (if Int32.ofInt w < Int32.ofInt v then Int32.ofInt w else Int32.ofInt v) = Int32.ofInt (if w < v then w else v) := by
        simp only [o32_lt hw hv]
        split <;> rfl
      have := kk as ca ls H locs hH (hF.tl.tl.push (a := (0, if w < v then w else v)) (by
        show zR32 _
        split
        · exact hw
        · exact hv)) hp
      simp only [List.map_cons, cv, ← e2] at this
      exact this
    · cases hE
  · cases hE
theorem z_mmax {x : Nat} {ax : zAx} (hax1 : ax.1 = 5004) (X : zCx p R s m args meth c A H0 b Ls xs mi) (hdec : decode (zmCode mi) pc = .ok (.invokestatic x, 3)) (hax : zLM.any (fun r => Nat.beq r.1 (zmC mi) && Nat.beq r.2.1 x && Nat.beq r.2.2.1 4) = true) (hrc : h'.length - n0 ≤ R.cells) (hrs : zSl h' - s0 ≤ R.slots)
    (hE : zHop1 Ls (fun j => (xs j).toInt) (.invokestatic x) ax st h = some (gs, st', h')) (kk : zGoal p l e R s m args below meth c Q D A H0 b mi n0 s0 as0 (pc + 3, L, st', h')) : zGoal p l e R s m args below meth c Q D A H0 b mi n0 s0 as0 (pc, L, st, h) := by
  obtain ⟨hx, hb, hml, hown, hts, hkn, hA, hnm, -, hrf, hrl⟩ := X
  simp only [zHop1, hax1] at hE
  split at hE
  · rename_i w v r
    split at hE
    · rename_i e1
      cases hE
      intro as ca ls H locs hH hF hp
      dsimp only at hH hF ⊢
      have hsum := zRm_sum (b := b) (as := as) e1
      have hw : zR32 w := hF.hd
      have hv : zR32 v := hF.tl.hd
      refine va_mmax hx hb (by rw [hml, hF.1.1]) hown (hts _ (zAny_m hax)) (hts _ zp_mmaxs) (hts _ zp_mini) (hts _ zp_mmaxc) hrf (by omega) hrc hrs hdec ?_
      have e2 : (if Int32.ofInt v < Int32.ofInt w then Int32.ofInt w else Int32.ofInt v) = Int32.ofInt (if v < w then w else v) := by
        simp only [o32_lt hv hw]
        split <;> rfl
      have := kk as ca ls H locs hH (hF.tl.tl.push (a := (0, if v < w then w else v)) (by
        show zR32 _
        split
        · exact hw
        · exact hv)) hp
      simp only [List.map_cons, cv, ← e2] at this
      exact this
    · cases hE
  · cases hE
theorem z_obj {x : Nat} {ax : zAx} (X : zCx p R s m args meth c A H0 b Ls xs mi) (hdec : decode (zmCode mi) pc = .ok (.invokespecial x, 3)) (hax : ax.1 = 5000 → zLO.any (fun r => Nat.beq r.1 (zmC mi) && Nat.beq r.2.1 x) = true)
    (hE : zHop1 Ls (fun j => (xs j).toInt) (.invokespecial x) ax st h = some (gs, st', h')) (kk : zGoal p l e R s m args below meth c Q D A H0 b mi n0 s0 as0 (pc + 3, L, st', h')) : zGoal p l e R s m args below meth c Q D A H0 b mi n0 s0 as0 (pc, L, st, h) := by
  obtain ⟨hx, hb, hml, hown, hts, hkn, hA, hnm, -, hrf, hrl⟩ := X
  simp only [zHop1] at hE
  split at hE
  · rename_i e0
    have hax := hax (Nat.eq_of_beq_eq_true e0)
    split at hE
    · rename_i o r
      split at hE
      · rename_i e1
        cases hE
        intro as ca ls H locs hH hF hp
        dsimp only at hH hF ⊢
        have hsum := zRm_sum (b := b) (as := as) e1
        exact W.objInit hx hb hown (hts _ (zAny_o hax)) (hts _ zp_obi) (hts _ zp_obc) rfl (by show ls.size = _; rw [hml, hF.1.1]) rfl hdec hrf (by show 2 * 0 + _ + 12 ≤ _; omega) (kk as ca ls H locs hH hF.tl hp)
      · cases hE
    · cases hE
  · cases hE
end ZK
end
