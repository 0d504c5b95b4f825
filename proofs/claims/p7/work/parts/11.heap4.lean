/-! Making cells, sizes, the script, the library's own. -/
theorem zP_app {D : va_G} {as : List Nat} {ca : Nat → ClassId} {h : zH1} {q : Nat} {cA : ClassId} {c : zCe} {H : Heap} (hl : as.length = h.length) (hw : ∀ (k : Nat) (c : zCe), h[k]? = some c → wfc as.length c) (hP : va_P D vwCl (zWs as ca h ++ [(q, zEnt (as ++ [q]) cA c)]) H) : va_P D vwCl (zWs (as ++ [q]) (fun k => if k = h.length then cA else ca k) (h ++ [c])) H := by
  intro k x hx
  have hk : k < (h ++ [c]).length := by rw [← zWs_len (as := as ++ [q]) (ca := fun k => if k = h.length then cA else ca k)]; exact (List.getElem?_eq_some_iff.mp hx).1
  rw [List.length_append] at hk
  have hk : k < h.length + 1 := hk
  by_cases he : k = h.length
  · subst he
    have h1 : (h ++ [c])[h.length]? = some c := by simp
    rw [zWs_at h1] at hx
    cases hx
    have := hP h.length (q, zEnt (as ++ [q]) cA c) (by rw [List.getElem?_append_right (by rw [zWs_len]; omega), zWs_len]; simp)
    simp only [if_true]
    rw [← hl, getD_last]
    exact this
  · have hk : k < h.length := by omega
    have h1 : (h ++ [c])[k]? = some h[k] := by rw [List.getElem?_append_left hk, List.getElem?_eq_getElem hk]
    rw [zWs_at h1] at hx
    cases hx
    have h2 : h[k]? = some h[k] := List.getElem?_eq_getElem hk
    have := hP k (as.getD k 0, zEnt as (ca k) h[k]) (by rw [List.getElem?_append_left (by rw [zWs_len]; exact hk)]; exact zWs_at h2)
    simp only [if_neg he]
    rw [getD_app (by omega)]
    exact zAt_app (hw k _ h2) this
theorem zD_app {A : Nat → Prop} {as : List Nat} {ca ca' : Nat → ClassId} {h : zH1} {q : Nat} {e : va_E} {c : zCe} (hl : as.length = h.length) (hD : va_D A (zWs as ca h ++ [(q, e)])) : va_D A (zWs (as ++ [q]) ca' (h ++ [c])) := by
  have key : ∀ (k : Nat) (x : Nat × va_E), (zWs (as ++ [q]) ca' (h ++ [c]))[k]? = some x → ∃ y : Nat × va_E, (zWs as ca h ++ [(q, e)])[k]? = some y ∧ y.1 = x.1 := by
    intro k x hx
    have hk : k < (h ++ [c]).length := by rw [← zWs_len (as := as ++ [q]) (ca := ca')]; exact (List.getElem?_eq_some_iff.mp hx).1
    rw [List.length_append] at hk
    have hk : k < h.length + 1 := hk
    by_cases he : k = h.length
    · subst he
      have h1 : (h ++ [c])[h.length]? = some c := by simp
      rw [zWs_at h1] at hx
      cases hx
      refine ⟨(q, e), by rw [List.getElem?_append_right (by rw [zWs_len]; omega), zWs_len]; simp, ?_⟩
      show q = (as ++ [q]).getD h.length 0
      rw [← hl, getD_last]
    · have hk : k < h.length := by omega
      have h1 : (h ++ [c])[k]? = some h[k] := by rw [List.getElem?_append_left hk, List.getElem?_eq_getElem hk]
      rw [zWs_at h1] at hx
      cases hx
      refine ⟨(as.getD k 0, zEnt as (ca k) h[k]), by rw [List.getElem?_append_left (by rw [zWs_len]; exact hk)]; exact zWs_at (List.getElem?_eq_getElem hk), ?_⟩
      show as.getD k 0 = (as ++ [q]).getD k 0
      rw [getD_app (by omega)]
  refine ⟨fun i j x y hx hy hxy => ?_, fun k x hx => ?_⟩
  · obtain ⟨x', h1, h2⟩ := key i x hx
    obtain ⟨y', h3, h4⟩ := key j y hy
    exact hD.1 i j x' y' h1 h3 (by rw [h2, h4]; exact hxy)
  · obtain ⟨x', h1, h2⟩ := key k x hx
    rw [← h2]
    exact hD.2 k x' h1
theorem zSl_app {h : zH1} {c : zCe} : zSl (h ++ [c]) = zSl h + c.2.1 := by simp [zSl]
theorem zFR.app {b : Nat} {sc : Prop} {as : List Nat} {n nL q : Nat} {L : zLo} {st : List zAv} {ls : Array Slot} (hn : as.length = n) (h : zFR b sc as n L st ls nL) : zFR b sc (as ++ [q]) (n + 1) L st ls nL := by
  subst hn
  refine ⟨⟨h.1.1, h.1.2.1, fun i a ha => ?_⟩, h.2.1, fun i a ha => wfv_up (Nat.le_succ _) (h.2.2.1 i a ha), fun a ha => wfv_up (Nat.le_succ _) (h.2.2.2 a ha)⟩
  rw [cv_app (h.2.2.1 i a ha)]
  exact h.1.2.2 i a ha
theorem map_cv_app {b : Nat} {sc : Prop} {as : List Nat} {q : Nat} {st : List zAv} (h : ∀ a ∈ st, wfv as.length sc a) : st.map (cv b (as ++ [q])) = st.map (cv b as) := List.map_congr_left fun a ha => cv_app (h a ha)
section ZN
variable {p : Program} {l : Launch} {e : Env} {R : Room} {s : State} {m : MethodId} {args : Array Value} {below : List Frame} {meth : Method} {c : Code} {Q : State → Prop}
variable {D : va_G} {A : Nat → Prop} {H0 : Heap} {b Ls : Nat} {xs : Nat → Int32} {mi n0 s0 : Nat}
variable {pc pc' : Nat} {L : zLo} {st st' : List zAv} {h h' : zH1} {gs : List Prop} {cf : zCf zH1} {as0 : List Nat}
/-- behind a new cell -/
theorem z_made {as : List Nat} {ca : Nat → ClassId} {ls : Array Slot} {H H1 : Heap} {locs locs1 : List Loc} {q : Nat} {cA : ClassId} {cl : zCe} (hn : n0 ≤ h.length) (hs : s0 ≤ zSl h)
    (hH : zHR s D A H0 as ca h H locs) (hF : zFR b (zmC mi = 16) as h.length L st ls (zmMax mi)) (hp : as0 <+: as) (hw : wfc (h.length + 1) cl)
    (hK : ∃ tys, va_K D vwCl tys s ∧ (∀ (k : Nat) (x : zCe), h[k]? = some x → 20 ≤ x.1 → ∃ t0 : Nat, tys[t0]? = some (ca k, zAk x.1)) ∧ (20 ≤ cl.1 → ∃ t0 : Nat, tys[t0]? = some (cA, zAk cl.1)))
    (hP : va_P D vwCl (zWs as ca h ++ [(q, zEnt (as ++ [q]) cA cl)]) H1) (hD : va_D A (zWs as ca h ++ [(q, zEnt (as ++ [q]) cA cl)])) (hS : va_S A H0 H1 locs1)
    (kk : zGoal p l e R s m args below meth c Q D A H0 b mi n0 s0 as0 (pc', L, (2, (h.length : Int)) :: st, h ++ [cl])) : W p l e R s m args below meth c H1 locs1 (h.length - n0 + 1) (zSl h - s0 + cl.2.1) Q (F0 m pc' ls (.ref q :: st.map (cv b as))) := by
  obtain ⟨a1, -, a4, a5, a6, a7⟩ := id hH
  obtain ⟨tys, k1, k2, k3⟩ := hK
  have hH' : zHR s D A H0 (as ++ [q]) (fun k => if k = h.length then cA else ca k) (h ++ [cl]) H1 locs1 := by
    refine ⟨by simp [a1], ⟨tys, k1, fun k x hk hx => ?_⟩, zP_app a1 (fun k x hx => by rw [a1]; exact a7 k x hx) hP, zD_app a1 hD, hS, fun k x hk => ?_⟩
    · by_cases he : k = h.length
      · subst he
        simp at hk
        subst hk
        simp only [if_true]
        exact k3 hx
      · rw [List.getElem?_append_left (by have := (List.getElem?_eq_some_iff.mp hk).1; simp at this; omega)] at hk
        simp only [if_neg he]
        exact k2 k x hk hx
    · rw [List.length_append]
      by_cases he : k = h.length
      · subst he
        simp at hk
        subst hk
        exact hw
      · rw [List.getElem?_append_left (by have := (List.getElem?_eq_some_iff.mp hk).1; simp at this; omega)] at hk
        exact wfc_up (Nat.le_succ _) (a7 k x hk)
  have hF' : zFR b (zmC mi = 16) (as ++ [q]) (h.length + 1) L ((2, (h.length : Int)) :: st) ls (zmMax mi) := (hF.app a1).push ⟨by omega, by omega⟩
  have := kk (as ++ [q]) (fun k => if k = h.length then cA else ca k) ls H1 locs1 hH' (by simpa using hF') (hp.trans (List.prefix_append _ _))
  simp only [List.length_append, List.length_cons, List.length_nil, List.map_cons] at this
  rw [map_cv_app (fun a ha => by rw [a1]; exact hF.2.2.2 a ha), zSl_app] at this
  have hr : cv b (as ++ [q]) (2, (h.length : Int)) = .ref q := by
    show Value.ref _ = _
    rw [Int.toNat_natCast, ← a1, getD_last]
  rw [hr] at this
  rw [show h.length - n0 + 1 = h.length + (0 + 1) - n0 by omega, show zSl h - s0 + cl.2.1 = zSl h + cl.2.1 - s0 by omega]
  exact this
theorem zAny_new {cls x ci : Nat} (h : zLN.any (fun r => Nat.beq r.1 cls && Nat.beq r.2.1 x && Nat.beq r.2.2.1 ci) = true) : Cond.classLink (zOw cls) x (zOw ci) ∈ zGW ∧ Cond.instantiable (zOw ci) (zNf ci) ∈ zGW ∧ Cond.initialized (zOw ci) ∈ zGW ∧ ci < 13 := by
  obtain ⟨r, hr, h1⟩ := List.any_eq_true.mp h
  simp only [Bool.and_eq_true] at h1
  obtain ⟨⟨a1, a2⟩, a3⟩ := h1
  have e1 := Nat.eq_of_beq_eq_true a1; have e2 := Nat.eq_of_beq_eq_true a2; have e3 := Nat.eq_of_beq_eq_true a3
  have hl := zL_lt
  simp only [Bool.and_eq_true] at hl
  have h2 := Nat.le_of_ble_eq_true (List.all_eq_true.mp hl.1.2 r hr)
  have h5 := zMap zLN_at r hr
  simp only [Prod.mk.injEq] at h5
  rw [e1, e2, e3] at h5
  rw [e3] at h2
  exact ⟨zAt h5.1 rfl, zAt h5.2.1 rfl, zAt h5.2.2 rfl, h2⟩
theorem zNf_le {ci : Nat} (h : ci < 13) : zNf ci ≤ 50 := by
  match ci, h with
  | 0, _ => decide | 1, _ => decide | 2, _ => decide | 3, _ => decide | 4, _ => decide | 5, _ => decide | 6, _ => decide | 7, _ => decide | 8, _ => decide | 9, _ => decide | 10, _ => decide | 11, _ => decide | 12, _ => decide
theorem zDef {as : List Nat} {ci k : Nat} (h : ci < 13) (hk : k < zNf ci) : defaultValue (zTy ci k) = zFv as (zTag ci k) (zIni0 ci k) := by
  have h1 := zTy_ok h hk
  unfold zFv zIni0 zTag
  cases e : zTy ci k <;> rw [e] at h1 <;> first | (cases h1; done) | rfl
theorem z_new {x : Nat} {ax : zAx} (X : zCx p R s m args meth c A H0 b Ls xs mi) (hdec : decode (zmCode mi) pc = .ok (.new x, 3)) (hax : zLN.any (fun r => Nat.beq r.1 (zmC mi) && Nat.beq r.2.1 x && Nat.beq r.2.2.1 ax.1) = true)
    (hE : zHop1 Ls (fun j => (xs j).toInt) (.new x) ax st h = some (gs, st', h')) (hn : n0 ≤ h.length) (hs : s0 ≤ zSl h) (hrc : h'.length - n0 ≤ R.cells) (hrs : zSl h' - s0 ≤ R.slots) (kk : zGoal p l e R s m args below meth c Q D A H0 b mi n0 s0 as0 (pc + 3, L, st', h')) : zGoal p l e R s m args below meth c Q D A H0 b mi n0 s0 as0 (pc, L, st, h) := by
  obtain ⟨hx, hb, hml, hown, hts, hkn, hA, -⟩ := X
  obtain ⟨w1, w2, w3, hci⟩ := zAny_new hax
  cases hE
  intro as ca ls H locs hH hF hp
  dsimp only at hH hF ⊢
  obtain ⟨a1, ⟨tys, a2, a3⟩, a4, a5, a6, a7⟩ := id hH
  have hlen : (h ++ [(ax.1, zNf ax.1, zIni0 ax.1)]).length = h.length + 1 := by simp
  rw [hlen] at hrc
  rw [zSl_app] at hrs
  refine va_new hx hb hts (zCl_in hci) (zTy ax.1) (zCl_ty hci) hown (hts _ w1) (hts _ w2) (hts _ w3) a2 a4 a5 a6 hA (zCl_at hci) (fs := (List.range (zNf ax.1)).map (fun k => zFv as (zTag ax.1 k) (zIni0 ax.1 k))) (fun j hj => ?_) (by omega) (by dsimp only at hrs; omega) hdec ?_
  · rw [zDef (as := as) hci hj]
    simp [vp_V, List.getD_eq_getElem?_getD, hj]
  · intro q H1 b1 b2 b3
    have e1 : (Sum.inr (ax.1, (List.range (zNf ax.1)).map (fun k => zFv as (zTag ax.1 k) (zIni0 ax.1 k))) : va_E) = zEnt (as ++ [q]) 0 (ax.1, zNf ax.1, zIni0 ax.1) := by
      rw [zEnt_o (by omega)]
      refine congrArg (fun z => (Sum.inr (ax.1, z) : va_E)) (List.map_congr_left fun k hk => ?_)
      rw [← zDef (as := as) hci (List.mem_range.mp hk), ← zDef (as := as ++ [q]) hci (List.mem_range.mp hk)]
    rw [show (Sum.inr (ax.1, (List.range (zNf ax.1)).map (fun k => zFv as (zTag ax.1 k) (zIni0 ax.1 k))) : va_E) = zEnt (as ++ [q]) 0 (ax.1, zNf ax.1, zIni0 ax.1) from e1] at b1 b2
    refine z_made (cl := (ax.1, zNf ax.1, zIni0 ax.1)) hn hs hH hF hp (Or.inl ⟨hci, rfl, fun k hk => ?_⟩) ⟨tys, a2, a3, fun q => ?_⟩ b1 b2 b3 kk
    · show wff _ (zTag ax.1 k) (if zTag ax.1 k = 2 then -1 else 0)
      have := zTag_le (ci := ax.1) (k := k)
      have ht : zTag ax.1 k = 0 ∨ zTag ax.1 k = 1 ∨ zTag ax.1 k = 2 := by omega
      rcases ht with q | q | q <;> rw [q]
      · exact ⟨by decide, by decide⟩
      · exact ⟨by decide, by decide⟩
      · show (-1 : Int) < _
        omega
    · have q : 20 ≤ ax.1 := q
      omega
theorem o32_nat (n : Nat) : Int32.ofInt (n : Int) = Int32.ofNat n := Int32.ofInt_eq_ofNat
/-- arrays of numbers -/
theorem z_newa {ty : ArrayType} {ax : zAx} (X : zCx p R s m args meth c A H0 b Ls xs mi) (hdec : decode (zmCode mi) pc = .ok (.newarray ty, 2))
    (hE : zHop1 Ls (fun j => (xs j).toInt) (.newarray ty) ax st h = some (gs, st', h')) (hg : zAll gs) (hn : n0 ≤ h.length) (hs : s0 ≤ zSl h) (hrc : h'.length - n0 ≤ R.cells) (hrs : zSl h' - s0 ≤ R.slots) (kk : zGoal p l e R s m args below meth c Q D A H0 b mi n0 s0 as0 (pc + 2, L, st', h')) : zGoal p l e R s m args below meth c Q D A H0 b mi n0 s0 as0 (pc, L, st, h) := by
  obtain ⟨hx, hb, hml, hown, hts, hkn, hA, -⟩ := X
  simp only [zHop1] at hE
  split at hE
  · rename_i kd hkd
    split at hE
    · rename_i n r
      cases hE
      have hn1 : 0 ≤ n ∧ n ≤ 100000 := hg.1
      intro as ca ls H locs hH hF hp
      dsimp only at hH hF ⊢
      obtain ⟨a1, ⟨tys, a2, a3⟩, a4, a5, a6, a7⟩ := id hH
      have hni : zR32 n := hF.hd
      have hlen : (h ++ [((kd, n.toNat, fun _ => (0 : Int)) : zCe)]).length = h.length + 1 := by simp
      rw [hlen] at hrc
      rw [zSl_app] at hrs
      dsimp only at hrs
      have hneg : ¬ Int32.ofInt n < 0 := by
        rw [← o32_0, o32_lt hni r32_0]; omega
      have go : ∀ (fty : FieldType) (a0 : vp_A), newarray.typeOf ty = fty → zAk kd = fty → (∀ (cA : ClassId) (as : List Nat), (Sum.inl (cA, a0) : va_E) = zEnt as cA (kd, n.toNat, fun _ => 0)) → (∀ cA : ClassId, vp_cell cA a0 = arrV cA n.toNat (fun _ => defaultValue fty)) → componentBytes fty ≤ 8 → Cond.arrayClass fty ∈ zGW → wfc (h.length + 1) (kd, n.toNat, fun _ => 0) →
          W p l e R s m args below meth c H locs (h.length - n0) (zSl h - s0) Q (F0 m pc ls (List.map (cv b as) ((0, n) :: r))) := by
        intro fty a0 hty hak hent hcell hcb hcl hwf
        refine va_newa (a0 := a0) hx hb (by rw [hty]; exact hts _ hcl) hty a2 a4 a5 a6 hA hcell hneg (o32_cl hni hn1.1) ?_ (by omega) (by omega) hdec ?_
        · have : n.toNat * componentBytes fty ≤ 100000 * 8 := Nat.mul_le_mul (by omega) hcb
          omega
        · intro q cA H1 c1 c2 c3 c4
          rw [hent cA (as ++ [q])] at c2 c3
          exact z_made (cl := (kd, n.toNat, fun _ => 0)) hn hs hH hF.tl hp hwf ⟨tys ++ [(cA, fty)], c1, fun k x hk hx => by
            obtain ⟨t0, ht0⟩ := a3 k x hk hx
            exact ⟨t0, by rw [List.getElem?_append_left (List.getElem?_eq_some_iff.mp ht0).1]; exact ht0⟩, fun _ => ⟨tys.length, by rw [hak]; simp⟩⟩ c2 c3 c4 kk
      have hwf : 20 ≤ kd → kd < 25 → kd ≠ 23 → kd ≠ 24 → wfc (h.length + 1) (kd, n.toNat, fun _ => 0) := fun g1 g2 g3 g4 => Or.inr ⟨g1, g2, by show n.toNat ≤ 100000; omega, fun k hk => by
        have : kd = 20 ∨ kd = 21 ∨ kd = 22 := by omega
        rcases this with rfl | rfl | rfl
        · exact r32_0
        · exact (⟨by decide, by decide⟩ : zR64 0)
        · exact r32_0⟩
      cases ty <;> first | (cases hkd; done) | skip
      all_goals cases hkd
      · exact go .boolean (n.toNat, .inl (fun _ => 0)) rfl rfl (fun _ _ => rfl) (fun _ => rfl) (by decide) zp_aZ (hwf (by omega) (by omega) (by omega) (by omega))
      · exact go .int (n.toNat, .inl (fun _ => 0)) rfl rfl (fun _ _ => rfl) (fun _ => rfl) (by decide) zp_aI (hwf (by omega) (by omega) (by omega) (by omega))
      · exact go .long (n.toNat, .inr (.inl (fun _ => 0))) rfl rfl (fun _ _ => rfl) (fun _ => rfl) (by decide) zp_aJ (hwf (by omega) (by omega) (by omega) (by omega))
    · cases hE
  · cases hE
theorem zAny_newq {cls x kd : Nat} (h : zLA.any (fun r => Nat.beq r.1 cls && Nat.beq r.2.1 x && Nat.beq (if r.2.2.1 = 1 then 23 else 24) kd) = true) : (kd = 23 ∧ Cond.classLink (zOw cls) x "EchoVale$Course" ∈ zGW) ∨ (kd = 24 ∧ Cond.classLink (zOw cls) x "EchoVale$Image" ∈ zGW) := by
  obtain ⟨r, hr, h1⟩ := List.any_eq_true.mp h
  simp only [Bool.and_eq_true] at h1
  obtain ⟨⟨a1, a2⟩, a3⟩ := h1
  have e1 := Nat.eq_of_beq_eq_true a1; have e2 := Nat.eq_of_beq_eq_true a2; have e3 := Nat.eq_of_beq_eq_true a3
  have hl := zL_lt
  simp only [Bool.and_eq_true] at hl
  have h2 := List.all_eq_true.mp hl.2 r hr
  rw [Bool.or_eq_true] at h2
  have h5 := zMap zLA_at r hr
  rw [e1, e2] at h5
  rcases h2 with h2 | h2
  · have h2 := Nat.eq_of_beq_eq_true h2
    rw [h2] at e3 h5
    exact Or.inl ⟨e3.symm, zAt h5 rfl⟩
  · have h2 := Nat.eq_of_beq_eq_true h2
    rw [h2] at e3 h5
    exact Or.inr ⟨e3.symm, zAt h5 rfl⟩
theorem z_newq {x : Nat} {ax : zAx} (X : zCx p R s m args meth c A H0 b Ls xs mi) (hdec : decode (zmCode mi) pc = .ok (.anewarray x, 3)) (hax : zLA.any (fun r => Nat.beq r.1 (zmC mi) && Nat.beq r.2.1 x && Nat.beq (if r.2.2.1 = 1 then 23 else 24) ax.1) = true)
    (hE : zHop1 Ls (fun j => (xs j).toInt) (.anewarray x) ax st h = some (gs, st', h')) (hg : zAll gs) (hn : n0 ≤ h.length) (hs : s0 ≤ zSl h) (hrc : h'.length - n0 ≤ R.cells) (hrs : zSl h' - s0 ≤ R.slots) (kk : zGoal p l e R s m args below meth c Q D A H0 b mi n0 s0 as0 (pc + 3, L, st', h')) : zGoal p l e R s m args below meth c Q D A H0 b mi n0 s0 as0 (pc, L, st, h) := by
  obtain ⟨hx, hb, hml, hown, hts, hkn, hA, -⟩ := X
  simp only [zHop1] at hE
  split at hE
  · split at hE
    · rename_i n r
      cases hE
      have hn1 : 0 ≤ n ∧ n ≤ 100000 := hg.1
      intro as ca ls H locs hH hF hp
      dsimp only at hH hF ⊢
      obtain ⟨a1, ⟨tys, a2, a3⟩, a4, a5, a6, a7⟩ := id hH
      have hni : zR32 n := hF.hd
      have hlen : (h ++ [((ax.1, n.toNat, fun _ => (-1 : Int)) : zCe)]).length = h.length + 1 := by simp
      rw [hlen] at hrc
      rw [zSl_app] at hrs
      dsimp only at hrs
      have hneg : ¬ Int32.ofInt n < 0 := by
        rw [← o32_0, o32_lt hni r32_0]; omega
      have go : ∀ C : String, zAk ax.1 = .object C → Cond.classLink (zOw (zmC mi)) x C ∈ zGW → va_AO C s → (∀ (cA : ClassId) (as : List Nat), (Sum.inl (cA, n.toNat, .inr (.inr (.inr (.inr (fun _ => none))))) : va_E) = zEnt as cA (ax.1, n.toNat, fun _ => -1)) → wfc (h.length + 1) (ax.1, n.toNat, fun _ => -1) →
          W p l e R s m args below meth c H locs (h.length - n0) (zSl h - s0) Q (F0 m pc ls (List.map (cv b as) ((0, n) :: r))) := by
        intro C hak hcl hao hent hwf
        refine va_newq hx hb hown (hts _ hcl) hao a2 a4 a5 a6 hA hneg (o32_cl hni hn1.1) (by omega) (by omega) (by omega) hdec ?_
        intro q cA H1 c1 c2 c3 c4
        rw [hent cA (as ++ [q])] at c2 c3
        exact z_made (cl := (ax.1, n.toNat, fun _ => -1)) hn hs hH hF.tl hp hwf ⟨tys ++ [(cA, .object C)], c1, fun k x hk hx => by
            obtain ⟨t0, ht0⟩ := a3 k x hk hx
            exact ⟨t0, by rw [List.getElem?_append_left (List.getElem?_eq_some_iff.mp ht0).1]; exact ht0⟩, fun _ => ⟨tys.length, by rw [hak]; simp⟩⟩ c2 c3 c4 kk
      rcases zAny_newq hax with ⟨q1, q2⟩ | ⟨q1, q2⟩
      · refine go "EchoVale$Course" (by rw [q1]; rfl) q2 hkn.1 (fun cA as => by rw [q1]; rfl) ?_
        rw [q1]
        exact Or.inr ⟨by show 20 ≤ 23; omega, by show 23 < 25; omega, by show n.toNat ≤ 100000; omega, fun k hk => by show (-1 : Int) < _; omega⟩
      · refine go "EchoVale$Image" (by rw [q1]; rfl) q2 hkn.2.1 (fun cA as => by rw [q1]; rfl) ?_
        rw [q1]
        exact Or.inr ⟨by show 20 ≤ 24; omega, by show 24 < 25; omega, by show n.toNat ≤ 100000; omega, fun k hk => by show (-1 : Int) < _; omega⟩
    · cases hE
  · cases hE
theorem z_alen {ax : zAx} (X : zCx p R s m args meth c A H0 b Ls xs mi) (hdec : decode (zmCode mi) pc = .ok (.arraylength, 1)) (hax : (Nat.beq ax.1 0 || Nat.beq (zmC mi) 16) = true)
    (hE : zHop1 Ls (fun j => (xs j).toInt) .arraylength ax st h = some (gs, st', h')) (kk : zGoal p l e R s m args below meth c Q D A H0 b mi n0 s0 as0 (pc + 1, L, st', h')) : zGoal p l e R s m args below meth c Q D A H0 b mi n0 s0 as0 (pc, L, st, h) := by
  obtain ⟨hx, hb, hml, hown, hts, hkn, hA, hnm, hscr, -⟩ := X
  simp only [zHop1] at hE
  split at hE
  · rename_i hb1
    split at hE
    · rename_i z r
      cases hE
      have hb1 := Nat.eq_of_beq_eq_true hb1
      rw [hb1] at hax
      simp only [Bool.or_eq_true] at hax
      obtain ⟨g1, g2, g3, g4⟩ := hscr (Nat.eq_of_beq_eq_true (hax.resolve_left (by decide)))
      intro as ca ls H locs hH hF hp
      dsimp only at hH hF ⊢
      refine va_slen hx hb g1 g2 g3 hH.2.2.2.2.1 hdec ?_
      have := kk as ca ls H locs hH (hF.tl.push (a := (0, (Ls : Int))) ⟨by omega, by omega⟩) hp
      simp only [List.map_cons, cv, o32_nat] at this
      exact this
    · cases hE
  · split at hE
    · rename_i a r
      split at hE
      · rename_i k n f e1
        split at hE
        · rename_i hk
          cases hE
          have hk := Nat.le_of_ble_eq_true hk
          intro as ca ls H locs hH hF hp
          dsimp only at hH hF ⊢
          obtain ⟨a1, ⟨tys, a2, a3⟩, a4, a5, a6, a7⟩ := id hH
          obtain ⟨t0, ht⟩ := a3 _ _ e1 hk
          have hw := wfc_arr (a7 _ _ e1) hk
          have he := zWs_at (as := as) (ca := ca) e1
          have hen : ∃ z, zEnt as (ca a.toNat) (k, n, f) = .inl (ca a.toNat, n, z) := by
            simp only [zEnt, Nat.ble_eq_true_of_le hk]
            exact ⟨_, rfl⟩
          obtain ⟨z, hz⟩ := hen
          rw [hz] at he
          refine va_alen hx hb a2 a4 a.toNat t0 he ht rfl hdec ?_
          have := kk as ca ls H locs hH (hF.tl.push (a := (0, (n : Int))) ⟨by omega, by have := hw.1; dsimp only at this ⊢; omega⟩) hp
          simp only [List.map_cons, cv, o32_nat] at this
          exact this
        · cases hE
      · cases hE
    · cases hE
theorem z_sld {ax : zAx} (X : zCx p R s m args meth c A H0 b Ls xs mi) (hdec : decode (zmCode mi) pc = .ok (.iaload, 1)) (hax : (Nat.beq ax.1 0 || Nat.beq (zmC mi) 16) = true)
    (hE : zHop1 Ls (fun j => (xs j).toInt) .iaload ax st h = some (gs, st', h')) (hg : zAll gs) (kk : zGoal p l e R s m args below meth c Q D A H0 b mi n0 s0 as0 (pc + 1, L, st', h')) : zGoal p l e R s m args below meth c Q D A H0 b mi n0 s0 as0 (pc, L, st, h) := by
  simp only [zHop1] at hE
  split at hE
  · obtain ⟨hx, hb, hml, hown, hts, hkn, hA, hnm, hscr, -⟩ := X
    rename_i hb1
    split at hE
    · rename_i j z r
      cases hE
      have hb1 := Nat.eq_of_beq_eq_true hb1
      rw [hb1] at hax
      simp only [Bool.or_eq_true] at hax
      obtain ⟨g1, g2, g3, g4⟩ := hscr (Nat.eq_of_beq_eq_true (hax.resolve_left (by decide)))
      intro as ca ls H locs hH hF hp
      dsimp only at hH hF ⊢
      have hj : zR32 j := hF.hd
      have h0 : 0 ≤ j ∧ j < (Ls : Int) := hg.1
      refine va_sld hx hb g1 g2 g3 hH.2.2.2.2.1 (i := Int32.ofInt j) (o32_in hj h0) hdec ?_
      rw [o32_cl hj h0.1]
      have := kk as ca ls H locs hH (hF.tl.tl.push (a := (0, (xs j.toNat).toInt)) (r32 _)) hp
      simp only [List.map_cons, cv, Int32.ofInt_toInt] at this
      exact this
    · cases hE
  · exact z_iald X hdec hE hg kk
end ZN
