/-! What the abstract machine runs the real one runs: a contract a method. -/
def zKnH (D : va_G) (U : State) (ca : Nat → ClassId) (h : zH1) : Prop := (∃ tys, va_K D vwCl tys U ∧ ∀ (k : Nat) (c : zCe), h[k]? = some c → 20 ≤ c.1 → ∃ t0 : Nat, tys[t0]? = some (ca k, zAk c.1))
def zPre (D : va_G) (as : List Nat) (ca : Nat → ClassId) (h : zH1) (U : State) : Prop :=
  as.length = h.length ∧ zKnH D U ca h ∧ va_P D vwCl (zWs as ca h) U.heap ∧ va_D (fun _ => True) (zWs as ca h) ∧ (∀ (k : Nat) (c : zCe), h[k]? = some c → wfc h.length c) ∧ zKnS U
def zQc (D : va_G) (b : Nat) (as : List Nat) (ca : Nat → ClassId) (h : zH1) (sz : Nat) (r : Option zAv) (h' : zH1) : Array Value → State → Outcome → State → Prop := fun _ st o t =>
  (∃ (as' : List Nat) (ca' : Nat → ClassId), o = .returned (r.map (cv b as')) ∧ as <+: as' ∧ as'.length = h'.length ∧ zKnH D t ca' h' ∧ va_P D vwCl (zWs as' ca' h') t.heap ∧ va_D (va_A (zWs as ca h) sz) (zWs as' ca' h') ∧ (∀ (k : Nat) (c : zCe), h'[k]? = some c → wfc h'.length c) ∧ ∀ a, r = some a → wfv h'.length False a) ∧ va_F (va_A (zWs as ca h) sz) st t
def zWd (mi : Nat) : List Cond := Cond.code (zmY mi) (zmCode mi) (zmMax mi) (zmRet mi) :: zGW
def zRm1 (d mc ms : Nat) : Room := { frames := d, cells := mc, slots := ms, locals := 60 * d }
/-- the contract of a run of method mi, at depth d -/
def zMet (l : Launch) (d mi : Nat) (args : List zAv) (h : zH1) (r : Option zAv) (h' : zH1) : Prop :=
  h.length ≤ h'.length ∧ zSl h ≤ zSl h' ∧ ∀ (D : va_G) (b : Nat) (as : List Nat) (ca : Nat → ClassId) (sz : Nat), (∀ a ∈ args, wfv h.length False a) →
    Met l (zmY mi) (zWd mi) (zRm1 d (h'.length - h.length) (zSl h' - zSl h)) (va_Pc (args.map (cv b as)) (fun U => U.heap.size = sz ∧ zPre D as ca h U)) (zQc D b as ca h sz r h') (h'.length - h.length) (zSl h' - zSl h) (va_A (zWs as ca h) sz)
theorem zKnS_warm {s U : State} (hW : s.WarmedH U.vm) (h : zKnS s) : zKnS U :=
  ⟨va_AO.moved hW.alike h.1, va_AO.moved hW.alike h.2.1, fun r hr => va_Nw.warmM hW (h.2.2.1 r hr), fun r hr => va_Nw.warmM hW (h.2.2.2 r hr)⟩
theorem zKnS_same {u U : State} (hv : u.vm = U.vm) (h : zKnS u) : zKnS U :=
  ⟨va_AO.moved (by rw [← hv]; exact Vm.Alike.refl _) h.1, va_AO.moved (by rw [← hv]; exact Vm.Alike.refl _) h.2.1, fun r hr => va_Nw.same rfl hv (h.2.2.1 r hr), fun r hr => va_Nw.same rfl hv (h.2.2.2 r hr)⟩
theorem zKnH.moved {D : va_G} {u U : State} {ca : Nat → ClassId} {h : zH1} (hv : u.vm.Alike U.vm) (hk : zKnH D u ca h) : zKnH D U ca h := by
  obtain ⟨tys, h1, h2⟩ := hk
  exact ⟨tys, va_K.moved hv h1, h2⟩
theorem zBlind {D : va_G} {av : List Value} {as : List Nat} {ca : Nat → ClassId} {h : zH1} {sz : Nat} : FrameBlind (va_Pc av (fun U => U.heap.size = sz ∧ zPre D as ca h U)) := fun a U g mk q =>
  ⟨q.1, q.2.1, q.2.2.1, zKnH.moved (u := U) (U := U.calling g mk a) (Vm.Alike.refl U.vm) q.2.2.2.1, q.2.2.2.2.1, q.2.2.2.2.2.1, q.2.2.2.2.2.2.1, zKnS_same (u := U) (U := U.calling g mk a) rfl q.2.2.2.2.2.2.2⟩
theorem cv_pre {b : Nat} {as as' : List Nat} {sc : Prop} {a : zAv} (hp : as <+: as') (h : wfv as.length sc a) : cv b as' a = cv b as a := by
  obtain ⟨tl, rfl⟩ := hp
  obtain ⟨t, x⟩ := a
  unfold cv wfv at *
  simp only at *
  split
  · rfl
  · rfl
  · obtain ⟨h1, h2⟩ := h
    rw [List.getD_eq_getElem?_getD, List.getElem?_append_left (by omega), ← List.getD_eq_getElem?_getD]
  · rfl
theorem wfv_sc {n : Nat} {sc : Prop} {a : zAv} (h : wfv n False a) : wfv n sc a := by
  obtain ⟨t, x⟩ := a
  unfold wfv at *
  simp only at *
  split at h
  · exact h
  · exact h
  · exact h
  · exact h.elim
  · exact h.elim
section ZC
variable {p : Program} {l : Launch} {e : Env} {R : Room} {s : State} {m : MethodId} {args : Array Value} {below : List Frame} {meth : Method} {c : Code} {Q : State → Prop}
variable {D : va_G} {A : Nat → Prop} {H0 : Heap} {b Ls : Nat} {xs : Nat → Int32} {mi n0 s0 : Nat}
theorem zA_of {as : List Nat} {ca : Nat → ClassId} {h : zH1} {H : Heap} {locs : List Loc} (hD : va_D A (zWs as ca h)) (hS : va_S A H0 H locs) (hA : ∀ q, H0.size ≤ q → A q) : ∀ q, va_A (zWs as ca h) H.size q → A q := by
  intro q hq
  rcases hq with ⟨k, ee, hk⟩ | hq
  · exact hD.2 k (q, ee) hk
  · exact hA q (Nat.le_trans hS.1 hq)
/-- behind a call -/
theorem z_back {as : List Nat} {ca : Nat → ClassId} {h h1 : zH1} {H : Heap} {locs : List Loc} {ls : Array Slot} {L : zLo} {pc mc ms k1 k2 : Nat} {st0 : List Value} {rest : List zAv} {r : Option zAv} {as0 : List Nat} {a : Array Value}
    (hA : ∀ q, H0.size ≤ q → A q) (hH : zHR s D A H0 as ca h H locs) (hF : zFR b (zmC mi = 16) as h.length L rest ls (zmMax mi)) (hp : as0 <+: as) (hle : h.length ≤ h1.length) (ek1 : k1 + mc = h1.length - n0) (ek2 : k2 + ms = zSl h1 - s0)
    (hr : va_Run p l e R s m args below meth c H locs k1 k2 mc ms (F0 m pc ls st0) (rest.map (cv b as)) (zQc D b as ca h H.size r h1 a) (va_A (zWs as ca h) H.size))
    (kk : zGoal p l e R s m args below meth c Q D A H0 b mi n0 s0 as0 (pc + 3, L, r.toList ++ rest, h1)) : W p l e R s m args below meth c H locs k1 k2 Q (F0 m pc ls st0) := by
  obtain ⟨a1, -, -, hD, hS, -⟩ := id hH
  have hfr := zA_of hD hS hA
  intro T hT X
  obtain ⟨v, st₀, t, T', LL, h0, X', hL, e1, e2, ⟨⟨as', ca', hv, hpf, b1, b2, b3, b4, b5, b6⟩, hz, hk⟩, st⟩ := hr T hT X
  cases hv
  rw [h0] at hz hk
  have hS' : va_S A H0 T'.heap (locs ++ LL) := ⟨Nat.le_trans hS.1 (by rw [e1]; exact hz), fun q h1 h2 => by rw [e1, hk q (Nat.lt_of_lt_of_le h1 hS.1) (fun z => h2 (hfr q z))]; exact hS.2.1 q h1 h2, fun q hq => by
      rcases List.mem_append.mp hq with h | h
      · exact hS.2.2 q h
      · exact hfr _ (hL q h)⟩
  have hal : s.vm.Alike t.vm := by rw [← e2]; exact X'.warmed.alike
  have hH' : zHR s D A H0 as' ca' h1 T'.heap (locs ++ LL) := by
    obtain ⟨tys, c1, c2⟩ := b2
    exact ⟨b1, ⟨tys, va_K.moved hal.symm c1, c2⟩, by rw [e1]; exact b3, ⟨b4.1, fun k q hq => hfr _ (b4.2 k q hq)⟩, hS', b5⟩
  have hcv : ∀ x, wfv h.length (zmC mi = 16) x → cv b as' x = cv b as x := by
    intro x hx
    exact cv_pre hpf (by rw [a1]; exact hx)
  have hF' : zFR b (zmC mi = 16) as' h1.length L (r.toList ++ rest) ls (zmMax mi) := by
    refine ⟨⟨hF.1.1, hF.1.2.1, fun i x hx => by rw [hcv x (hF.2.2.1 i x hx)]; exact hF.1.2.2 i x hx⟩, hF.2.1, fun i x hx => wfv_up hle (hF.2.2.1 i x hx), fun x hx => ?_⟩
    rcases List.mem_append.mp hx with hx | hx
    · cases r with
      | none => cases hx
      | some y =>
        have : x = y := by simpa using hx
        subst this
        exact wfv_sc (b6 x rfl)
    · exact wfv_up hle (hF.2.2.2 x hx)
  have := kk as' ca' ls T'.heap (locs ++ LL) hH' hF' (hp.trans hpf)
  rw [← ek1, ← ek2] at this
  have hst : (r.map (cv b as')).toList ++ rest.map (cv b as) = (r.toList ++ rest).map (cv b as') := by
    rw [List.map_append]
    congr 1
    · cases r <;> rfl
    · exact List.map_congr_left fun x hx => (hcv x (hF.2.2.2 x hx)).symm
  obtain ⟨t2, a2, b2⟩ := this T' rfl X'
  refine ⟨t2, st t2 ?_, b2⟩
  show Steps p.tables e below (T'.setTop { (F0 m pc ls st0) with pc := pc + 3, stack := (r.map (cv b as')).toList ++ rest.map (cv b as) }) t2
  rw [hst]
  exact a2
end ZC
section ZD
variable {p : Program} {l : Launch} {e : Env} {R : Room} {s : State} {m : MethodId} {args : Array Value} {below : List Frame} {meth : Method} {c : Code} {Q : State → Prop}
variable {D : va_G} {A : Nat → Prop} {H0 : Heap} {b Ls : Nat} {xs : Nat → Int32} {mi n0 s0 : Nat}
def zRc1 : zRc zH1 := fun h a ci => ci < 13 ∧ a.1 = 2 ∧ ∃ (n : Nat) (f : Nat → Int), h[a.2.toNat]? = some (ci, n, f)
theorem zAny_v {cls x k : Nat} (h : zLV.any (fun r => Nat.beq r.1 cls && Nat.beq r.2.1 x && Nat.beq r.2.2.1 k) = true) : Cond.methodLink (zOw cls) x (zmY k) ∈ zGW ∧ Cond.instanceMethod (zmY k) ∈ zGW ∧ Cond.selects (zmY k).cls (zmY k) (zmY k) ∈ zGW := by
  obtain ⟨r, hr, h1⟩ := List.any_eq_true.mp h
  simp only [Bool.and_eq_true] at h1
  obtain ⟨⟨a1, a2⟩, a3⟩ := h1
  have e1 := Nat.eq_of_beq_eq_true a1; have e2 := Nat.eq_of_beq_eq_true a2; have e3 := Nat.eq_of_beq_eq_true a3
  have h5 := zMap zLV_at r hr
  simp only [Prod.mk.injEq] at h5
  rw [e1, e2, e3] at h5
  exact ⟨zAt h5.1 rfl, zAt h5.2.1 rfl, zAt h5.2.2 rfl⟩
theorem zAny_s {cls x k : Nat} (h : zLS.any (fun r => Nat.beq r.1 cls && Nat.beq r.2.1 x && Nat.beq r.2.2.1 k) = true) : Cond.methodLink (zOw cls) x (zmY k) ∈ zGW ∧ Cond.static (zmY k) ∈ zGW := by
  obtain ⟨r, hr, h1⟩ := List.any_eq_true.mp h
  simp only [Bool.and_eq_true] at h1
  obtain ⟨⟨a1, a2⟩, a3⟩ := h1
  have e1 := Nat.eq_of_beq_eq_true a1; have e2 := Nat.eq_of_beq_eq_true a2; have e3 := Nat.eq_of_beq_eq_true a3
  have h5 := zMap zLS_at r hr
  simp only [Prod.mk.injEq] at h5
  rw [e1, e2, e3] at h5
  exact ⟨zAt h5.1 rfl, zAt h5.2 rfl⟩
theorem zAny_sn {cls x k : Nat} {s : State} (hk : zKnS s) (h : zLSN.any (fun r => Nat.beq r.1 cls && Nat.beq r.2.1 x && Nat.beq r.2.2.1 k) = true) : va_Nw (.methodLinkNest (zOw cls) x (zmY k) "EchoVale") s ∧ Cond.static (zmY k) ∈ zGW := by
  obtain ⟨r, hr, h1⟩ := List.any_eq_true.mp h
  simp only [Bool.and_eq_true] at h1
  obtain ⟨⟨a1, a2⟩, a3⟩ := h1
  have e1 := Nat.eq_of_beq_eq_true a1; have e2 := Nat.eq_of_beq_eq_true a2; have e3 := Nat.eq_of_beq_eq_true a3
  have h5 := zMap zLSN_at r hr
  simp only [Prod.mk.injEq] at h5
  have h6 := hk.2.2.1 r hr
  rw [e1, e2, e3] at h5 h6
  exact ⟨h6, zAt h5.2 rfl⟩
theorem zAny_p {cls x k : Nat} (h : zLP.any (fun r => Nat.beq r.1 cls && Nat.beq r.2.1 x && Nat.beq r.2.2.1 k) = true) : Cond.methodLink (zOw cls) x (zmY k) ∈ zGW ∧ Cond.instanceMethod (zmY k) ∈ zGW ∧ (zmY k).name = "<init>" ∧ zmRet k = none := by
  obtain ⟨r, hr, h1⟩ := List.any_eq_true.mp h
  simp only [Bool.and_eq_true] at h1
  obtain ⟨⟨a1, a2⟩, a3⟩ := h1
  have e1 := Nat.eq_of_beq_eq_true a1; have e2 := Nat.eq_of_beq_eq_true a2; have e3 := Nat.eq_of_beq_eq_true a3
  have h5 := zMap zLP_at r hr
  simp only [Prod.mk.injEq] at h5
  rw [e1, e2, e3] at h5
  exact ⟨zAt h5.1 rfl, zAt h5.2.1 rfl, h5.2.2.1, h5.2.2.2⟩
theorem zAny_pn {cls x k : Nat} {s : State} (hk : zKnS s) (h : zLPN.any (fun r => Nat.beq r.1 cls && Nat.beq r.2.1 x && Nat.beq r.2.2.1 k) = true) : va_Nw (.methodLinkNest (zOw cls) x (zmY k) "EchoVale") s ∧ Cond.instanceMethod (zmY k) ∈ zGW ∧ (zmY k).name = "<init>" ∧ zmRet k = none := by
  obtain ⟨r, hr, h1⟩ := List.any_eq_true.mp h
  simp only [Bool.and_eq_true] at h1
  obtain ⟨⟨a1, a2⟩, a3⟩ := h1
  have e1 := Nat.eq_of_beq_eq_true a1; have e2 := Nat.eq_of_beq_eq_true a2; have e3 := Nat.eq_of_beq_eq_true a3
  have h5 := zMap zLPN_at r hr
  simp only [Prod.mk.injEq] at h5
  have h6 := hk.2.2.2 r hr
  rw [e1, e2, e3] at h5 h6
  exact ⟨h6, zAt h5.2.1 rfl, h5.2.2.1, h5.2.2.2⟩
theorem zWd_good {k : Nat} (h : k < 295) : ∀ w ∈ zWd k, w ∈ zGW := by
  intro w hw
  rcases List.mem_cons.mp hw with rfl | hw
  · exact zm_code (by rw [zMs_len]; exact h)
  · exact hw
theorem zWd_pay {k : Nat} {s : State} {args : Array Value} (h : k < 295) (hts : ∀ w ∈ zGW, w.before args s = true) : ∀ w ∈ zWd k, ∀ (a' : Array Value) (U : State), s.WarmedH U.vm → w.before a' U = true :=
  pay_in hts (zGW_good (zWd_good h))
theorem z_call {d : Nat} {as0 : List Nat} {cf cf' : zCf zH1} {run : zRn zH1} (hRf : d + 1 ≤ R.frames) (hRl : 60 * d + 40 ≤ R.locals) (X : zCx p R s m args meth c A H0 b Ls xs mi) (hC : zStepC zRc1 run mi cf cf') (hm : ∀ k args h r h', run k args h r h' → zMet l d k args h r h')
    (hn : n0 ≤ cf.2.2.2.length) (hs : s0 ≤ zSl cf.2.2.2) (hrc : cf'.2.2.2.length - n0 ≤ R.cells) (hrs : zSl cf'.2.2.2 - s0 ≤ R.slots) (kk : zGoal p l e R s m args below meth c Q D A H0 b mi n0 s0 as0 cf') : zGoal p l e R s m args below meth c Q D A H0 b mi n0 s0 as0 cf := by
  obtain ⟨i, ax, as1, rest, r, h1, hdec, hic, hax, hk, h14, hst, hlen, hrcv, hrcs, hrl, h5, hrun, rfl⟩ := hC
  obtain ⟨hx, hb, hml, hown, hts, hkn, hA, hnm, -⟩ := X
  obtain ⟨pc, L, st, h⟩ := cf
  dsimp only at *
  subst hst
  obtain ⟨hle1, hle2, hmet⟩ := hm _ _ _ _ _ hrun
  have hkl : ax.1 < zMs.length := by rw [zMs_len]; exact hk
  obtain ⟨hpl, hc1, hc2⟩ := zm_plain hkl h14
  obtain ⟨hpar, hmx, -⟩ := zm_par hkl
  intro as ca ls H locs hH hF hp
  dsimp only at hH hF ⊢
  have hpre : ∀ U : State, U.heap = H → s.WarmedH U.vm → U.heap.size = H.size ∧ zPre D as ca h U := by
    intro U hU hW
    obtain ⟨a1, a2, a3, a4, a5, a6⟩ := id hH
    exact ⟨by rw [hU], a1, zKnH.moved hW.alike a2, by rw [hU]; exact a3, ⟨a4.1, fun _ _ _ => trivial⟩, a6, zKnS_warm hW hkn⟩
  have hwa : ∀ a ∈ as1, wfv h.length False a := by
    intro a ha
    have h1 := hF.2.2.2 a (List.mem_append_left _ (List.mem_reverse.mpr ha))
    have h2 := List.all_eq_true.mp h5 a ha
    obtain ⟨t, z⟩ := a
    unfold wfv at *
    simp only at *
    split at h1
    · exact h1
    · exact h1
    · exact h1
    · simp at h2
    · exact h1
  have hM := hmet D b as ca H.size hwa
  have hFr : zFR b (zmC mi = 16) as h.length L rest ls (zmMax mi) := ⟨hF.1, hF.2.1, hF.2.2.1, fun x hx => hF.2.2.2 x (List.mem_append_right _ hx)⟩
  have hroom : 2 * (F0 m pc ls ((as1.reverse ++ rest).map (cv b as))).monitorRoom + ((rest.map (cv b as)).map fun v => v.category).sum ≤ 8 := by
    have hl : zWt rest ≤ 8 := Nat.le_of_ble_eq_true hrl
    have key : ∀ r : List zAv, ((r.map (cv b as)).map fun v => v.category).sum ≤ zWt r := by
      intro r
      induction r with
      | nil => exact Nat.le_refl 0
      | cons a r ih =>
        simp only [List.map_cons, List.sum_cons]
        have ha : (cv b as a).category ≤ (match zEq1 a.1 with
          | true => 2
          | false => 1) := by
          obtain ⟨t, x⟩ := a
          match t with
          | 0 => exact Nat.le_refl 1
          | 1 => exact Nat.le_refl 2
          | 2 => exact Nat.le_refl 1
          | t + 3 => exact Nat.le_refl 1
        exact Nat.add_le_add ha ih
    have := key rest
    show 2 * 0 + _ ≤ 8
    omega
  have hfit : h.length - n0 + (h1.length - h.length) ≤ R.cells ∧ zSl h - s0 + (zSl h1 - zSl h) ≤ R.slots := ⟨by omega, by omega⟩
  have hpp : ∀ sig, parseMethodDescriptor (zmY ax.1).desc = some sig → zmN ax.1 = sig.parameters.length := by
    intro sig q
    rw [q] at hpar
    exact (Option.some.inj hpar).symm
  have hRl2 : 8 + (zmMax ax.1 + 11) + (zRm1 d (h1.length - h.length) (zSl h1 - zSl h)).locals ≤ R.locals := by
    show 8 + (zmMax ax.1 + 11) + 60 * d ≤ R.locals
    omega
  have hcal : CallFix p m c (zmCode mi) (zmMax mi) s args zGW (zOw (zmC mi)) := ⟨hx, hb, hml, hown, hts⟩
  have hB : ∀ x ret, zmRet ax.1 = ret → (Cond.methodLink (zOw (zmC mi)) x (zmY ax.1)).before args s = true → CallB R s args (zOw (zmC mi)) x (zmY ax.1) (zmCode ax.1) (zmMax ax.1) ret (zWd ax.1) (zRm1 d (h1.length - h.length) (zSl h1 - zSl h)) (h1.length - h.length) (zSl h1 - zSl h) (zmN ax.1) := by
    intro x ret hret hl
    subst hret
    exact ⟨rfl, rfl, hRf, hRl2, zWd_pay hk hts, List.mem_cons_self, hts _ (zm_code hkl), hts _ (zm_ini hkl), ⟨hc1, hc2⟩, hpp, hl⟩
  have hN : ∀ x ret, zmRet ax.1 = ret → va_Nw (.methodLinkNest (zOw (zmC mi)) x (zmY ax.1) "EchoVale") s → va_CN R s args (zOw (zmC mi)) x (zmY ax.1) "EchoVale" (zmCode ax.1) (zmMax ax.1) ret (zWd ax.1) (zRm1 d (h1.length - h.length) (zSl h1 - zSl h)) (h1.length - h.length) (zSl h1 - zSl h) (zmN ax.1) := by
    intro x ret hret hl
    subst hret
    exact ⟨⟨rfl, rfl, hRf, hRl2, zWd_pay hk hts, List.mem_cons_self⟩, hts _ (zm_code hkl), hts _ (zm_ini hkl), ⟨hc1, hc2⟩, hpp, va_Nw.use rfl hl⟩
  have fin : ∀ {a : Array Value}, va_Run p l e R s m args below meth c H locs (h.length - n0) (zSl h - s0) (h1.length - h.length) (zSl h1 - zSl h) (F0 m pc ls ((as1.reverse ++ rest).map (cv b as))) (rest.map (cv b as)) (zQc D b as ca h H.size r h1 a) (va_A (zWs as ca h) H.size) → W p l e R s m args below meth c H locs (h.length - n0) (zSl h - s0) Q (F0 m pc ls ((as1.reverse ++ rest).map (cv b as))) :=
    fun hr => z_back hA hH hFr hp hle1 (by omega) (by omega) hr kk
  have hrev : (as1.reverse ++ rest).map (cv b as) = (as1.map (cv b as)).reverse ++ rest.map (cv b as) := by rw [List.map_append, List.map_reverse]
  cases i
  case invokestatic x =>
    have hS : PreS s H (va_Pc (as1.map (cv b as)) (fun U => U.heap.size = H.size ∧ zPre D as ca h U)) (as1.map (cv b as)) := ⟨zBlind, fun U hU hW => ⟨rfl, hpre U hU hW⟩⟩
    have hax2 : zLS.any (fun r => Nat.beq r.1 (zmC mi) && Nat.beq r.2.1 x && Nat.beq r.2.2.1 ax.1) = true ∨ zLSN.any (fun r => Nat.beq r.1 (zmC mi) && Nat.beq r.2.1 x && Nat.beq r.2.2.1 ax.1) = true := by
      simp only [zAxOk] at hax
      split at hax
      · omega
      · omega
      · omega
      · omega
      · exact Bool.or_eq_true _ _ ▸ hax
    rcases hax2 with hax2 | hax2
    · obtain ⟨w1, w2⟩ := zAny_s hax2
      exact fin (va_runS (g := F0 m pc ls ((as1.reverse ++ rest).map (cv b as))) hcal hM ⟨hB x _ rfl (hts _ w1), hts _ w2⟩ hS rfl (by rw [List.length_map]; exact hlen) hF.1.1 hrev hroom hdec hfit)
    · obtain ⟨w1, w2⟩ := zAny_sn hkn hax2
      exact fin (va_runSN (g := F0 m pc ls ((as1.reverse ++ rest).map (cv b as))) hcal hM ⟨hN x _ rfl w1, hts _ w2, trivial⟩ hS rfl (by rw [List.length_map]; exact hlen) hF.1.1 hrev hroom hdec hfit)
  case invokevirtual x =>
    obtain ⟨w1, w2, w3⟩ := zAny_v hax
    obtain ⟨a0, ha0, hci, ht, nn, ff, hcell⟩ := hrcv x rfl
    cases as1 with
    | nil => cases ha0
    | cons a As =>
      cases ha0
      obtain ⟨t, o⟩ := a0
      simp only at ht
      subst ht
      obtain ⟨a1, ⟨tys, a2, a3⟩, a4, a5, a6, a7⟩ := id hH
      have he := zWs_at (as := as) (ca := ca) hcell
      rw [zEnt_o (by omega)] at he
      have hrec := va_recv a2 a4 (zCl_at hci) he
      have hV : PreV s H (zmY ax.1).cls (as.getD o.toNat 0) (va_Pc (((2, o) :: As).map (cv b as)) (fun U => U.heap.size = H.size ∧ zPre D as ca h U)) (As.map (cv b as)) := ⟨zBlind, by rw [zm_cls hkl]; exact hrec, fun U hU hW => ⟨rfl, hpre U hU hW⟩⟩
      have hlen2 : (As.map (cv b as)).length = zmN ax.1 := by
        rw [List.length_map]
        have : As.length + 1 = zmN ax.1 + 1 := hlen
        omega
      have hrev2 : (((2, o) :: As).reverse ++ rest).map (cv b as) = (As.map (cv b as)).reverse ++ .ref (as.getD o.toNat 0) :: rest.map (cv b as) := by
        rw [hrev]
        simp [cv]
      exact fin (va_runV (g := F0 m pc ls ((((2, o) :: As).reverse ++ rest).map (cv b as))) hcal hM ⟨hB x _ rfl (hts _ w1), hts _ w2, hts _ w3⟩ hV rfl hlen2 hF.1.1 hrev2 hroom hdec hfit)
  case invokespecial x =>
    have hax2 : zLP.any (fun r => Nat.beq r.1 (zmC mi) && Nat.beq r.2.1 x && Nat.beq r.2.2.1 ax.1) = true ∨ zLPN.any (fun r => Nat.beq r.1 (zmC mi) && Nat.beq r.2.1 x && Nat.beq r.2.2.1 ax.1) = true := by
      simp only [zAxOk] at hax
      split at hax
      · omega
      · exact Bool.or_eq_true _ _ ▸ hax
    cases as1 with
    | nil => simp [zNa] at hlen
    | cons a As =>
      obtain ⟨v0, hv0⟩ : ∃ v0 : Nat, cv b as a = .ref v0 := by
        obtain ⟨a9, q1, q2⟩ := hrcs x rfl
        cases q1
        obtain ⟨t9, z9⟩ := a
        exact cv_ref q2
      have hS : PreS s H (va_Pc ((a :: As).map (cv b as)) (fun U => U.heap.size = H.size ∧ zPre D as ca h U)) (.ref v0 :: As.map (cv b as)) := ⟨zBlind, fun U hU hW => ⟨by rw [List.map_cons, hv0], hpre U hU hW⟩⟩
      have hlen2 : (As.map (cv b as)).length = zmN ax.1 := by
        rw [List.length_map]
        have : As.length + 1 = zmN ax.1 + 1 := hlen
        omega
      have hrev2 : ((a :: As).reverse ++ rest).map (cv b as) = (As.map (cv b as)).reverse ++ .ref v0 :: rest.map (cv b as) := by
        rw [hrev]
        simp [hv0]
      rcases hax2 with hax2 | hax2
      · obtain ⟨w1, w2, w3, w4⟩ := zAny_p hax2
        exact fin (va_runI (g := F0 m pc ls (((a :: As).reverse ++ rest).map (cv b as))) hcal hM ⟨hB x none w4 (hts _ w1), w3, hts _ w2⟩ hS rfl hlen2 hF.1.1 hrev2 hroom hdec hfit)
      · obtain ⟨w1, w2, w3, w4⟩ := zAny_pn hkn hax2
        exact fin (va_runIN (g := F0 m pc ls (((a :: As).reverse ++ rest).map (cv b as))) hcal hM ⟨hN x none w4 w1, w3, hts _ w2⟩ hS rfl hlen2 hF.1.1 hrev2 hroom hdec hfit)
  all_goals cases hic
theorem z_forget {as0 : List Nat} {cf cf' : zCf zH1} (hC : zStepF cf cf') (kk : zGoal p l e R s m args below meth c Q D A H0 b mi n0 s0 as0 cf') : zGoal p l e R s m args below meth c Q D A H0 b mi n0 s0 as0 cf := by
  obtain ⟨pc, L, st, h⟩ := cf
  obtain ⟨pc', L', st', h'⟩ := cf'
  obtain ⟨h1, h2, h3⟩ := hC
  dsimp only at h1 h2 h3
  cases h2
  subst h1
  intro as ca ls H locs hH hF hp
  exact kk as ca ls H locs hH ⟨⟨hF.1.1, hF.1.2.1, fun i a ha => hF.1.2.2 i a (h3.2 i a ha)⟩, h3.1.trans hF.2.1, fun i a ha => hF.2.2.1 i a (h3.2 i a ha), hF.2.2.2⟩ hp
theorem zStep_mono {Ls : Nat} {xs : Nat → Int} {d : Nat} {cf cf' : zCf zH1} {run : zRn zH1} (hm : ∀ k args h r h', run k args h r h' → zMet l d k args h r h') (hS : zStep (zHop1 Ls xs) zRc1 run mi cf cf') : cf.2.2.2.length ≤ cf'.2.2.2.length ∧ zSl cf.2.2.2 ≤ zSl cf'.2.2.2 := by
  rcases hS with ⟨i, len, ax, d, gs, -, -, -, hE, -⟩ | ⟨i, ax, as1, rest, r, h1, -, -, -, -, -, -, -, -, -, -, -, hrun, rfl⟩ | ⟨-, h2, -⟩
  · rcases zX_heap hE with h | ⟨n, st', h, -⟩
    · rw [h]; exact ⟨Nat.le_refl _, Nat.le_refl _⟩
    · exact zX_mono h
  · obtain ⟨h1, h2, -⟩ := hm _ _ _ _ _ hrun
    exact ⟨h1, h2⟩
  · rw [h2]; exact ⟨Nat.le_refl _, Nat.le_refl _⟩
theorem zReach_mono {Ls : Nat} {xs : Nat → Int} {d n : Nat} {cf cf' : zCf zH1} {run : zRn zH1} (hm : ∀ k args h r h', run k args h r h' → zMet l d k args h r h') (hS : zReach (zHop1 Ls xs) zRc1 run mi n cf cf') : cf.2.2.2.length ≤ cf'.2.2.2.length ∧ zSl cf.2.2.2 ≤ zSl cf'.2.2.2 := by
  induction n generalizing cf with
  | zero => cases hS; exact ⟨Nat.le_refl _, Nat.le_refl _⟩
  | succ n ih =>
    obtain ⟨c1, h1, h2⟩ := hS
    have q1 := zStep_mono hm h1
    have q2 := ih h2
    omega
theorem z_reach {d n : Nat} {as0 : List Nat} {cf cf' : zCf zH1} {run : zRn zH1} (hRf : d + 1 ≤ R.frames) (hRl : 60 * d + 40 ≤ R.locals) (X : zCx p R s m args meth c A H0 b Ls xs mi) (hm : ∀ k args h r h', run k args h r h' → zMet l d k args h r h')
    (hS : zReach (zHop1 Ls (fun j => (xs j).toInt)) zRc1 run mi n cf cf') (hn : n0 ≤ cf.2.2.2.length) (hs : s0 ≤ zSl cf.2.2.2) (hrc : cf'.2.2.2.length - n0 ≤ R.cells) (hrs : zSl cf'.2.2.2 - s0 ≤ R.slots)
    (kk : zGoal p l e R s m args below meth c Q D A H0 b mi n0 s0 as0 cf') : zGoal p l e R s m args below meth c Q D A H0 b mi n0 s0 as0 cf := by
  induction n generalizing cf with
  | zero => cases hS; exact kk
  | succ n ih =>
    obtain ⟨c1, h1, h2⟩ := hS
    have q1 := zStep_mono hm h1
    have q2 := zReach_mono hm h2
    have k1 := ih h2 (by omega) (by omega)
    rcases h1 with ⟨i, len, ax, d, gs, g1, g2, g3, g4, g5⟩ | h1 | h1
    · obtain ⟨pc, L, st, h⟩ := cf
      exact z_step X g1 g2 g3 g4 g5 hn hs (by omega) (by omega) k1
    · exact z_call hRf hRl X h1 hm hn hs (by omega) (by omega) k1
    · exact z_forget h1 k1
end ZD
theorem zFl_len {b : Nat} {as : List Nat} {args : List zAv} : (lg_sl (args.map (cv b as))).length = (zFl args).length := by
  induction args with
  | nil => rfl
  | cons a r ih =>
    obtain ⟨t, x⟩ := a
    unfold zFl
    split
    · rename_i h1
      have h1 := Nat.eq_of_beq_eq_true h1
      subst h1
      simp only [List.map_cons, lg_sl, List.flatMap_cons, List.length_append, List.length_cons]
      have : (cv b as (1, x)).category = 2 := rfl
      rw [if_pos this]
      simp only [lg_sl] at ih
      simp [ih]
      omega
    · rename_i h1
      have h1 := Nat.ne_of_beq_eq_false h1
      simp only [List.map_cons, lg_sl, List.flatMap_cons, List.length_append, List.length_cons]
      have : ¬ (cv b as (t, x)).category = 2 := fun q => h1 (cv_cat2 q)
      rw [if_neg this]
      simp only [lg_sl] at ih
      simp [ih]
      omega
theorem zGl_cons {x : Option zAv} {L : zLo} {i : Nat} : zGl (x :: L) (i + 1) = zGl L i := rfl
theorem zEntry_in {b : Nat} {as : List Nat} {n : Nat} : ∀ (args : List zAv) (k i : Nat) (a : zAv), zGl (zFl args ++ List.replicate n none) i = some a → (k + i, cv b as a) ∈ lv_args k (args.map (cv b as)) := by
  intro args
  induction args with
  | nil =>
    intro k i a h
    exfalso
    simp only [zFl, List.nil_append] at h
    unfold zGl at h
    split at h
    · rename_i e
      have := List.mem_of_getElem? e
      have := List.eq_of_mem_replicate this
      cases this
    · cases h
  | cons y r ih =>
    intro k i a h
    obtain ⟨t, x⟩ := y
    unfold zFl at h
    split at h
    · rename_i h1
      have h1 := Nat.eq_of_beq_eq_true h1
      subst h1
      have hc : (cv b as (1, x)).category = 2 := rfl
      rw [List.map_cons]
      unfold lv_args
      rw [if_pos hc]
      match i, h with
      | 0, h =>
        cases h
        exact List.mem_cons_self
      | 1, h => cases h
      | i + 2, h =>
        have := ih (k + 2) i a h
        rw [show k + 2 + i = k + (i + 2) by omega] at this
        exact List.mem_cons_of_mem _ this
    · rename_i h1
      have h1 := Nat.ne_of_beq_eq_false h1
      have hc : ¬ (cv b as (t, x)).category = 2 := fun q => h1 (cv_cat2 q)
      rw [List.map_cons]
      unfold lv_args
      rw [if_neg hc]
      match i, h with
      | 0, h =>
        cases h
        exact List.mem_cons_self
      | i + 1, h =>
        have := ih (k + 1) i a h
        rw [show k + 1 + i = k + (i + 1) by omega] at this
        exact List.mem_cons_of_mem _ this
theorem zEntry_mem {n : Nat} : ∀ (args : List zAv) (i : Nat) (a : zAv), zGl (zFl args ++ List.replicate n none) i = some a → a ∈ args := by
  intro args
  induction args with
  | nil =>
    intro i a h
    exfalso
    simp only [zFl, List.nil_append] at h
    unfold zGl at h
    split at h
    · rename_i e
      have := List.eq_of_mem_replicate (List.mem_of_getElem? e)
      cases this
    · cases h
  | cons y r ih =>
    intro i a h
    obtain ⟨t, x⟩ := y
    unfold zFl at h
    split at h
    · match i, h with
      | 0, h => cases h; exact List.mem_cons_self
      | 1, h => cases h
      | i + 2, h => exact List.mem_cons_of_mem _ (ih i a h)
    · match i, h with
      | 0, h => cases h; exact List.mem_cons_self
      | i + 1, h => exact List.mem_cons_of_mem _ (ih i a h)
set_option maxHeartbeats 2000000 in
theorem z_met {l : Launch} {spec : zRn zH1} (hsp : ∀ d k args h r h', 7 ≤ d → spec k args h r h' → zMet l (d + 1) k args h r h') : ∀ (d mi : Nat) (args : List zAv) (h : zH1) (r : Option zAv) (h' : zH1), zRun (zHop1 0 (fun _ => 0)) zRc1 spec d mi args h r h' → zMet l d mi args h r h' := by
  intro d
  induction d with
  | zero => intro mi args h r h' q; exact q.elim
  | succ d ih =>
    intro mi args h r h' q
    rcases q with ⟨q1, q2⟩ | ⟨hk, h14, hfl, n, pc, L, st, hS, hret⟩
    · exact hsp d _ _ _ _ _ q1 q2
    have hmono := zReach_mono ih hS
    dsimp only at hmono
    refine ⟨hmono.1, hmono.2, fun D b as ca sz hwa => ?_⟩
    have hkl : mi < zMs.length := by rw [zMs_len]; exact hk
    obtain ⟨hpl, -, -⟩ := zm_plain hkl h14
    refine Met.ofW (cc := zmCode mi) (maxL := zmMax mi) (ret := zmRet mi) hpl rfl ?_
    intro p e s m args1 below meth c s₁ B hml hv
    obtain ⟨rfl, hsz, hpre⟩ := hv
    obtain ⟨a1, a2, a3, a4, a5, a6⟩ := hpre
    have hx := B.exec
    have hb := B.bytes
    have hr := B.returns
    have hts0 := atoms_spec (ws := zWd mi) B.pre
    have hts : ∀ w ∈ zGW, w.before ((args.map (cv b as)).toArray) s = true := fun w hw => hts0 w (List.mem_cons_of_mem _ hw)
    have hown : s.vm.findClass (zmY mi).cls = some m.cls := findClass_of_methodNamed B.named
    rw [zm_cls hkl] at hown
    have hlocks := B.notSynchronized
    have hin : meth.name = (zmY mi).name := (name_of_methodNamed B.named B.method).1
    subst hsz
    generalize hAe : va_A (zWs as ca h) s.heap.size = A
    have hA : ∀ q : Nat, s.heap.size ≤ q → A q := fun q h => by rw [← hAe]; exact Or.inr h
    have hD : va_D A (zWs as ca h) := by rw [← hAe]; exact a4.self
    have X : zCx p (headSpec (zWd mi) (zRm1 (d + 1) (h'.length - h.length) (zSl h' - zSl h))).room s m ((args.map (cv b as)).toArray) meth c A s.heap b 0 (fun _ => 0) mi :=
      ⟨hx, hb, hml, hown, hts, a6, hA, hin, fun q => absurd q (zm_notlaw hkl), by show 1 ≤ d + 1; omega, by show 40 ≤ 60 * (d + 1); omega⟩
    have hl := lv_entry (args.map (cv b as)) (n := zmMax mi) (by rw [zFl_len]; exact hfl)
    rw [lg_entry_eq]
    generalize (lg_sl (args.map (cv b as)) ++ List.replicate (zmMax mi - (lg_sl (args.map (cv b as))).length) Slot.unset).toArray = ls at hl ⊢
    have hF : zFR b (zmC mi = 16) as h.length (zEntry args (zmMax mi)) [] ls (zmMax mi) := by
      refine ⟨⟨hl.1, hl.2.1, fun i a ha => ?_⟩, by unfold zEntry; rw [List.length_append, List.length_replicate]; omega, fun i a ha => wfv_sc (hwa a (zEntry_mem _ _ _ ha)), fun a ha => by cases ha⟩
      have := zEntry_in (b := b) (as := as) args 0 i a ha
      rw [Nat.zero_add] at this
      exact hl.2.2 _ this
    have hH : zHR s D A s.heap as ca h s.heap [] := ⟨a1, a2, a3, hD, va_S.rf, a5⟩
    have key : zGoal p l e (headSpec (zWd mi) (zRm1 (d + 1) (h'.length - h.length) (zSl h' - zSl h))).room s m ((args.map (cv b as)).toArray) below meth c (MQ below (zQc D b as ca h s.heap.size r h') ((args.map (cv b as)).toArray) s (h'.length - h.length) (zSl h' - zSl h) A) D A s.heap b mi h.length (zSl h) as (0, zEntry args (zmMax mi), [], h) := by
      refine z_reach (d := d) (n := n) (Nat.le_refl _) (by show 60 * d + 40 ≤ 60 * (d + 1); omega) X ih (by simpa using hS) (Nat.le_refl _) (Nat.le_refl _) (Nat.le_refl _) (Nat.le_refl _) ?_
      intro as' ca' ls' H' locs' hH' hF' hp'
      dsimp only at hH' hF' hret ⊢
      obtain ⟨b1, b2, b3, b4, b5, b6⟩ := hH'
      have hq : ∀ rr : Option zAv, rr = r → (∀ a, rr = some a → wfv h'.length False a) → ∀ t : State, t.heap = H' → s.WarmedH t.vm → zQc D b as ca h s.heap.size r h' ((args.map (cv b as)).toArray) s (.returned (rr.map (cv b as'))) t := by
        intro rr hrr hwr t ht hW
        subst hrr
        refine ⟨⟨as', ca', rfl, hp', b1, zKnH.moved hW.alike b2, by rw [ht]; exact b3, by rw [hAe]; exact b4, b6, hwr⟩, ?_⟩
        rw [hAe]
        exact b5.F ht
      rcases hret with ⟨g1, v, g2, g3, g4⟩ | ⟨g1, v, g2, g3, g4⟩ | ⟨g1, g2, g3, g4⟩
      · subst g2
        subst g3
        have hwv : wfv h'.length False (0, v) := hF'.hd
        have hn : ∃ ty, zmRet mi = some ty ∧ narrow ty (.int (Int32.ofInt v)) = .int (Int32.ofInt v) := by
          rcases g4 with g4 | ⟨g4, rfl | rfl⟩
          · exact ⟨.int, g4, rfl⟩
          · exact ⟨.boolean, g4, by decide⟩
          · exact ⟨.boolean, g4, by decide⟩
        obtain ⟨ty, hty, hnn⟩ := hn
        exact W.zret hx hb (hr.trans hty) hnn (hq (some (0, v)) rfl (fun a ha => by cases ha; exact hwv)) b5.2.2 g1 hlocks
      · subst g2
        subst g3
        have hwv : wfv h'.length False (1, v) := hF'.hd
        exact W.lret hx hb (hr.trans g4) (hq (some (1, v)) rfl (fun a ha => by cases ha; exact hwv)) b5.2.2 g1 hlocks
      · subst g2
        subst g3
        exact W.vret hx hb (hr.trans g4) (hq none rfl (fun a ha => by cases ha)) b5.2.2 g1 hlocks
    have := key as ca ls s.heap [] hH hF (List.prefix_refl _)
    simp only [Nat.sub_self] at this
    exact this
