/-! The heap's instructions. -/
theorem zb20 {k : Nat} (h : k < 20) : Nat.ble 20 k = false := by
  cases e : Nat.ble 20 k with
  | false => rfl
  | true => have := Nat.le_of_ble_eq_true e; omega
theorem zEnt_o {as : List Nat} {cA : ClassId} {k n : Nat} {f : Nat → Int} (h : k < 20) : zEnt as cA (k, n, f) = .inr (k, (List.range n).map (fun j => zFv as (zTag k j) (f j))) := by
  simp only [zEnt, zb20 h]
theorem zAny_field {cls idx ci k : Nat} (h : zLinkF cls idx ci k = true) : Cond.fieldLink (zOw cls) idx (zTX ci k).1 (zTX ci k).2.1 (zTX ci k).2.2.1 ∈ zGW ∧ k < zNf ci ∧ ci < 13 := by
  obtain ⟨r, hr, h1⟩ := List.any_eq_true.mp h
  simp only [Bool.and_eq_true] at h1
  obtain ⟨⟨⟨a1, a2⟩, a3⟩, a4⟩ := h1
  have e1 := Nat.eq_of_beq_eq_true a1; have e2 := Nat.eq_of_beq_eq_true a2; have e3 := Nat.eq_of_beq_eq_true a3; have e4 := Nat.eq_of_beq_eq_true a4
  have hl := zL_lt
  simp only [Bool.and_eq_true] at hl
  have h2 := List.all_eq_true.mp hl.1.1.1.1.1.1.1 r hr
  rw [Bool.and_eq_true] at h2
  have h3 := Nat.le_of_ble_eq_true h2.1; have h4 := Nat.le_of_ble_eq_true h2.2
  have h5 := zMap zLF_at r hr
  have h6 : vwCl[r.2.2.1]? = some (zOw r.2.2.1, zTX r.2.2.1, zNf r.2.2.1) := zCl_at h4
  rw [h6] at h5
  simp only at h5
  rw [e1, e2, e3, e4] at h5
  rw [e3] at h3 h4
  rw [e4] at h3
  exact ⟨zAt h5 rfl, h3, h4⟩
def zTyB (ty : FieldType) : Bool := match ty with
  | .int => true
  | .boolean => true
  | .long => true
  | .object _ => true
  | .array _ => true
  | _ => false
theorem zTy_all : ((List.range 13).all (fun ci => (List.range (zNf ci)).all (fun k => zTyB (zTy ci k)))) = true := by decide +kernel
theorem zTy_ok {ci k : Nat} (h : ci < 13) (hk : k < zNf ci) : zTyB (zTy ci k) = true := List.all_eq_true.mp (List.all_eq_true.mp zTy_all ci (List.mem_range.mpr h)) k (List.mem_range.mpr hk)
set_option maxRecDepth 20000 in
theorem zDecl_all : ((List.range 13).all (fun ci => (List.range (zNf ci)).all (fun k => decide ((zTX ci k).1 = zOw ci)))) = true := by decide +kernel
theorem zFits {b n : Nat} {as : List Nat} {sc : Prop} {ty : FieldType} {v : zAv} (hb : zTyB ty = true) (hv : wfv n sc v) (ht : v.1 = zTg ty) (hz : ty = .boolean → v.2 = 0 ∨ v.2 = 1) : narrow ty (cv b as v) = cv b as v ∧ fits ty (cv b as v) = true := by
  obtain ⟨t, x⟩ := v
  simp only at ht
  cases ty with
  | int => subst ht; exact ⟨rfl, rfl⟩
  | boolean =>
    subst ht
    rcases hz rfl with h | h
    · simp only at h
      subst h
      exact ⟨show narrow .boolean (.int (Int32.ofInt 0)) = .int (Int32.ofInt 0) by decide, show fits .boolean (.int (Int32.ofInt 0)) = true by decide⟩
    · simp only at h
      subst h
      exact ⟨show narrow .boolean (.int (Int32.ofInt 1)) = .int (Int32.ofInt 1) by decide, show fits .boolean (.int (Int32.ofInt 1)) = true by decide⟩
  | long => subst ht; exact ⟨rfl, rfl⟩
  | object _ => subst ht; exact ⟨rfl, rfl⟩
  | array _ => subst ht; exact ⟨rfl, rfl⟩
  | _ => cases hb
theorem zFv_cv {b : Nat} {as : List Nat} {t : Nat} {x : Int} (ht : t ≤ 2) (h : t = 2 → 0 ≤ x) : zFv as t x = cv b as (t, x) := by
  have ht : t = 0 ∨ t = 1 ∨ t = 2 := by omega
  rcases ht with rfl | rfl | rfl
  · rfl
  · rfl
  · show (if x < 0 then _ else _) = _
    rw [if_neg (by have := h rfl; omega)]
    rfl
theorem zTag_le {ci k : Nat} : zTag ci k ≤ 2 := by
  unfold zTag zTg
  split <;> omega
theorem wfv_of {n t : Nat} {sc : Prop} {x : Int} (ht : t ≤ 2) (h : wff n t x) (h2 : t = 2 → 0 ≤ x) : wfv n sc (t, x) := by
  have ht : t = 0 ∨ t = 1 ∨ t = 2 := by omega
  rcases ht with rfl | rfl | rfl
  · exact h
  · exact h
  · exact ⟨h2 rfl, h⟩
theorem wff_of {n t : Nat} {sc : Prop} {x : Int} (ht : t ≤ 2) (h : wfv n sc (t, x)) : wff n t x := by
  have ht : t = 0 ∨ t = 1 ∨ t = 2 := by omega
  rcases ht with rfl | rfl | rfl
  · exact h
  · exact h
  · exact h.2
theorem zSl_set {h : zH1} {k : Nat} {c c' : zCe} (h1 : h[k]? = some c) (h2 : c'.2.1 = c.2.1) : zSl (h.set k c') = zSl h := by
  unfold zSl
  congr 1
  apply List.ext_getElem?
  intro i
  rw [List.getElem?_map, List.getElem?_map, List.getElem?_set]
  by_cases hi : k = i
  · subst hi
    obtain ⟨hl, -⟩ := List.getElem?_eq_some_iff.mp h1
    rw [if_pos rfl, if_pos hl, h1]
    simp [h2]
  · rw [if_neg hi]
section ZH
variable {p : Program} {l : Launch} {e : Env} {R : Room} {s : State} {m : MethodId} {args : Array Value} {below : List Frame} {meth : Method} {c : Code} {Q : State → Prop}
variable {D : va_G} {A : Nat → Prop} {H0 : Heap} {b Ls : Nat} {xs : Nat → Int32} {mi n0 s0 : Nat}
variable {pc : Nat} {L : zLo} {st : List zAv} {h : zH1} {gs : List Prop} {cf : zCf zH1} {as0 : List Nat}
theorem zHR.set {as : List Nat} {ca : Nat → ClassId} {h : zH1} {H H1 : Heap} {locs locs1 : List Loc} {k : Nat} {cl cl' : zCe} (hH : zHR s D A H0 as ca h H locs) (hk : h[k]? = some cl) (h1 : cl'.1 = cl.1) (hw : wfc h.length cl')
    (hP : va_P D vwCl (zWs as ca (h.set k cl')) H1) (hD : va_D A (zWs as ca (h.set k cl'))) (hS : va_S A H0 H1 locs1) : zHR s D A H0 as ca (h.set k cl') H1 locs1 := by
  obtain ⟨a1, ⟨tys, a2, a3⟩, -, -, -, a6⟩ := hH
  refine ⟨by rw [List.length_set]; exact a1, ⟨tys, a2, fun j x hj hx => ?_⟩, hP, hD, hS, fun j x hj => ?_⟩
  · rw [List.getElem?_set] at hj
    split at hj
    · rename_i e1
      subst e1
      split at hj
      · cases hj
        rw [h1] at hx ⊢
        exact a3 k cl hk hx
      · cases hj
    · exact a3 j x hj hx
  · rw [List.length_set]
    rw [List.getElem?_set] at hj
    split at hj
    · split at hj
      · cases hj; exact hw
      · cases hj
    · exact a6 j x hj
theorem zFR.len {sc : Prop} {as : List Nat} {n n' nL : Nat} {L : zLo} {st : List zAv} {ls : Array Slot} (h : zFR b sc as n L st ls nL) (e : n' = n) : zFR b sc as n' L st ls nL := e ▸ h
theorem z_getf {x len : Nat} {ax : zAx} {st' : List zAv} {h' : zH1} (X : zCx p R s m args meth c A H0 b Ls xs mi) (hdec : decode (zmCode mi) pc = .ok (.getfield x, 3)) (hax : zLinkF (zmC mi) x ax.1 ax.2.1 = true)
    (hE : zHop1 Ls (fun j => (xs j).toInt) (.getfield x) ax st h = some (gs, st', h')) (hg : zAll gs) (kk : zGoal p l e R s m args below meth c Q D A H0 b mi n0 s0 as0 (pc + 3, L, st', h')) : zGoal p l e R s m args below meth c Q D A H0 b mi n0 s0 as0 (pc, L, st, h) := by
  obtain ⟨hx, hb, hml, hown, hts, -⟩ := X
  obtain ⟨hl, hk, hci⟩ := zAny_field hax
  simp only [zHop1] at hE
  split at hE
  · rename_i o r
    split at hE
    · rename_i kd n f e1
      split at hE
      · rename_i e2
        have e2 := Nat.eq_of_beq_eq_true e2
        subst e2
        have key : (zTag ax.1 ax.2.1 = 2 → 0 ≤ f ax.2.1) ∧ st' = (zTag ax.1 ax.2.1, f ax.2.1) :: r ∧ h' = h := by
          split at hE
          · rename_i e3
            cases hE
            exact ⟨fun _ => hg.1, by rw [Nat.eq_of_beq_eq_true e3], rfl⟩
          · rename_i e3
            cases hE
            exact ⟨fun q => absurd q (Nat.ne_of_beq_eq_false e3), rfl, rfl⟩
        obtain ⟨k1, rfl, rfl⟩ := key
        intro as ca ls H locs hH hF hp
        obtain ⟨a1, ⟨tys, a2, a3⟩, a4, a5, a6, a7⟩ := id hH
        have hw := a7 _ _ e1
        have hn : n = zNf ax.1 ∧ ∀ k, k < n → wff h'.length (zTag ax.1 k) (f k) := by
          rcases hw with ⟨q1, q2, q3⟩ | ⟨q1, -⟩
          · exact ⟨q2, q3⟩
          · simp only at q1; omega
        have he := zWs_at (as := as) (ca := ca) e1
        rw [zEnt_o (by omega)] at he
        refine va_get hx hb hts (zCl_in hci) hown a2 a4 o.toNat he (zCl_at hci) ax.2.1 hk (hts _ hl) (fun _ q => q) (v := cv b as (zTag ax.1 ax.2.1, f ax.2.1)) ?_ hdec ?_
        · rw [List.getElem?_map, List.getElem?_range (by omega)]
          exact congrArg some (zFv_cv zTag_le k1)
        · exact kk as ca ls H locs hH (hF.tl.push (wfv_of zTag_le (hn.2 _ (by omega)) k1)) hp
      · cases hE
    · cases hE
  · cases hE
theorem zUp_map {as : List Nat} {ci n k : Nat} {f : Nat → Int} {v : Int} {w : Value} (hw : zFv as (zTag ci k) v = w) : (List.range n).map (fun j => zFv as (zTag ci j) (zUp f k v j)) = ((List.range n).map (fun j => zFv as (zTag ci j) (f j))).set k w := by
  apply List.ext_getElem?
  intro i
  rw [List.getElem?_set, List.getElem?_map]
  by_cases hi : k = i
  · subst hi
    rw [if_pos rfl]
    by_cases hl : k < n
    · rw [List.getElem?_range hl]
      simp [zUp, hw, hl]
    · rw [List.getElem?_eq_none (by simpa using hl)]
      simp [hl]
  · rw [if_neg hi, List.getElem?_map]
    by_cases hl : i < n
    · rw [List.getElem?_range hl]
      have hi2 : ¬ i = k := fun q => hi q.symm
      simp [zUp, hi2]
    · rw [List.getElem?_eq_none (by simpa using hl)]
      rfl
theorem z_putf {x : Nat} {ax : zAx} {st' : List zAv} {h' : zH1} (X : zCx p R s m args meth c A H0 b Ls xs mi) (hdec : decode (zmCode mi) pc = .ok (.putfield x, 3)) (hax : (zLinkF (zmC mi) x ax.1 ax.2.1 && (!(zTX ax.1 ax.2.1).2.2.2 || (zIsI mi && Nat.beq (zmC mi) ax.1))) = true)
    (hE : zHop1 Ls (fun j => (xs j).toInt) (.putfield x) ax st h = some (gs, st', h')) (hg : zAll gs) (kk : zGoal p l e R s m args below meth c Q D A H0 b mi n0 s0 as0 (pc + 3, L, st', h')) : zGoal p l e R s m args below meth c Q D A H0 b mi n0 s0 as0 (pc, L, st, h) := by
  obtain ⟨hx, hb, hml, hown, hts, -, -, hnm, -⟩ := X
  rw [Bool.and_eq_true] at hax
  obtain ⟨hl, hk, hci⟩ := zAny_field hax.1
  simp only [zHop1] at hE
  split at hE
  · rename_i t v o r
    split at hE
    · rename_i kd n f e1
      split at hE
      · rename_i e2
        rw [Bool.and_eq_true] at e2
        have e3 := Nat.eq_of_beq_eq_true e2.1
        have e4 := Nat.eq_of_beq_eq_true e2.2
        clear e2
        subst e3
        subst e4
        cases hE
        have hz : zTy ax.1 ax.2.1 = .boolean → v = 0 ∨ v = 1 := by
          intro q
          have hzb : zIsB ax.1 ax.2.1 = true := by unfold zIsB; rw [q]
          rw [hzb] at hg
          exact hg.1
        intro as ca ls H locs hH hF hp
        obtain ⟨a1, ⟨tys, a2, a3⟩, a4, a5, a6, a7⟩ := id hH
        have hw := a7 _ _ e1
        have hn : n = zNf ax.1 ∧ ∀ k, k < n → wff h.length (zTag ax.1 k) (f k) := by
          rcases hw with ⟨q1, q2, q3⟩ | ⟨q1, -⟩
          · exact ⟨q2, q3⟩
          · simp only at q1; omega
        have he := zWs_at (as := as) (ca := ca) e1
        rw [zEnt_o (by omega)] at he
        have hv : wfv h.length (zmC mi = 16) (zTag ax.1 ax.2.1, v) := hF.hd
        obtain ⟨f1, f2⟩ := zFits (b := b) (as := as) (zTy_ok hci hk) hv rfl hz
        have hfv : zFv as (zTag ax.1 ax.2.1) v = cv b as (zTag ax.1 ax.2.1, v) := zFv_cv zTag_le (fun q => by rw [q] at hv; exact hv.1)
        have hcl : wfc h.length (ax.1, n, zUp f ax.2.1 v) := Or.inl ⟨hci, hn.1, fun k hk2 => by
          show wff _ _ (zUp f ax.2.1 v k)
          unfold zUp
          split
          · rename_i q; subst q; exact wff_of zTag_le hv
          · exact hn.2 k hk2⟩
        have hset : (zWs as ca h).set o.toNat (as.getD o.toNat 0, .inr (ax.1, ((List.range n).map (fun j => zFv as (zTag ax.1 j) (f j))).set ax.2.1 (cv b as (zTag ax.1 ax.2.1, v)))) = zWs as ca (h.set o.toNat (ax.1, n, zUp f ax.2.1 v)) := by
          rw [← zWs_set, zEnt_o (by omega), zUp_map hfv]
        have go : ∀ (H1 : Heap) (locs1 : List Loc), va_P D vwCl (zWs as ca (h.set o.toNat (ax.1, n, zUp f ax.2.1 v))) H1 → va_D A (zWs as ca (h.set o.toNat (ax.1, n, zUp f ax.2.1 v))) → va_S A H0 H1 locs1 → W p l e R s m args below meth c H1 locs1 (h.length - n0) (zSl h - s0) Q (F0 m (pc + 3) ls (st'.map (cv b as))) := by
          intro H1 locs1 b1 b2 b3
          have := kk as ca ls H1 locs1 (hH.set e1 rfl hcl b1 b2 b3) (by rw [List.length_set]; exact hF.tl.tl) hp
          simp only [List.length_set] at this
          rw [zSl_set (c' := (ax.1, n, zUp f ax.2.1 v)) e1 rfl] at this
          exact this
        by_cases hfin : (zTX ax.1 ax.2.1).2.2.2 = true
        · have h2 := hax.2
          rw [hfin] at h2
          simp only [Bool.not_true, Bool.false_or, Bool.and_eq_true] at h2
          have hcc := Nat.eq_of_beq_eq_true h2.2
          have hini : meth.name = "<init>" := by rw [hnm]; exact of_decide_eq_true h2.1
          have hdecl : (zTX ax.1 ax.2.1).1 = zOw (zmC mi) := by
            rw [hcc]
            have := zDecl_all
            exact of_decide_eq_true (List.all_eq_true.mp (List.all_eq_true.mp this ax.1 (List.mem_range.mpr hci)) ax.2.1 (List.mem_range.mpr hk))
          refine va_putF hx hb hts (zCl_in hci) (zTy ax.1) (zCl_ty hci) (zCl_nm hci) hown a2 a4 a5 a6 o.toNat he (zCl_at hci) ax.2.1 hk (hts _ hl) (fun _ q => q) hfin hini hdecl (zCl_ty hci _ hk) f1 f2 (by simp; omega) hdec ?_
          intro H1 locs1 b1 b2 b3
          rw [hset] at b1 b2
          exact go H1 locs1 b1 b2 b3
        · refine va_put hx hb hts (zCl_in hci) (zTy ax.1) (zCl_ty hci) (zCl_nm hci) hown a2 a4 a5 a6 o.toNat he (zCl_at hci) ax.2.1 hk (hts _ hl) (fun _ q => q) (by simpa using hfin) (zCl_ty hci _ hk) f1 f2 (by simp; omega) hdec ?_
          intro H1 locs1 b1 b2 b3
          rw [hset] at b1 b2
          exact go H1 locs1 b1 b2 b3
      · cases hE
    · cases hE
  · cases hE
end ZH
