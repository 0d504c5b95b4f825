section
/-! What the abstract machine runs the real one runs, with a thing K known of the heap below bs (part 15, K carried). -/
def zKeep (bs : Nat) (K : State → Heap → Prop) : Prop := ∀ (u U : State) (H H1 : Heap), u.WarmedH U.vm → K u H → (∀ a : Nat, a < H.size → ¬ bs ≤ a → H1[a]? = H[a]?) → K U H1
def zPreK (bs : Nat) (K : State → Heap → Prop) (D : va_G) (as : List Nat) (ca : Nat → ClassId) (h : zH1) (U : State) : Prop := zPre D as ca h U ∧ K U U.heap ∧ bs ≤ U.heap.size ∧ ∀ k, k < h.length → bs ≤ as.getD k 0
def zMetK (l : Launch) (bs : Nat) (K : State → Heap → Prop) (d mi : Nat) (args : List zAv) (h : zH1) (r : Option zAv) (h' : zH1) : Prop :=
  h.length ≤ h'.length ∧ zSl h ≤ zSl h' ∧ ∀ (D : va_G) (b : Nat) (as : List Nat) (ca : Nat → ClassId) (sz : Nat), (∀ a ∈ args, wfv h.length False a) →
    Met l (zmY mi) (zWd mi) (zRm1 d (h'.length - h.length) (zSl h' - zSl h)) (va_Pc (args.map (cv b as)) (fun U => U.heap.size = sz ∧ zPreK bs K D as ca h U)) (zQc D b as ca h sz r h') (h'.length - h.length) (zSl h' - zSl h) (va_A (zWs as ca h) sz)
theorem zBlindK {bs : Nat} {K : State → Heap → Prop} (hkp : zKeep bs K) {D : va_G} {av : List Value} {as : List Nat} {ca : Nat → ClassId} {h : zH1} {sz : Nat} : FrameBlind (va_Pc av (fun U => U.heap.size = sz ∧ zPreK bs K D as ca h U)) := fun a U g mk q =>
  ⟨q.1, q.2.1, (zBlind (D := D) (av := av) (as := as) (ca := ca) (h := h) (sz := sz) a U g mk ⟨q.1, q.2.1, q.2.2.1⟩).2.2, hkp U (U.calling g mk a) U.heap U.heap (State.WarmedH.refl U) q.2.2.2.1 (fun _ _ _ => rfl), q.2.2.2.2.1, q.2.2.2.2.2⟩
theorem zWs_inv {as : List Nat} {ca : Nat → ClassId} {h : zH1} {k q : Nat} {ee : va_E} (e : (zWs as ca h)[k]? = some (q, ee)) : k < h.length ∧ q = as.getD k 0 := by
  have hk : k < h.length := by
    have := (List.getElem?_eq_some_iff.mp e).1
    rwa [zWs_len] at this
  refine ⟨hk, ?_⟩
  rw [zWs_at (List.getElem?_eq_getElem hk)] at e
  exact ((Prod.mk.inj (Option.some.inj e)).1).symm
theorem zAsA {A : Nat → Prop} {as : List Nat} {ca : Nat → ClassId} {h : zH1} (hD : va_D A (zWs as ca h)) {k : Nat} (hk : k < h.length) : A (as.getD k 0) :=
  hD.2 k _ (zWs_at (List.getElem?_eq_getElem hk))
section ZDK
variable {bs : Nat} {K : State → Heap → Prop}
variable {p : Program} {l : Launch} {e : Env} {R : Room} {s : State} {m : MethodId} {args : Array Value} {below : List Frame} {meth : Method} {c : Code} {Q : State → Prop}
variable {D : va_G} {A : Nat → Prop} {H0 : Heap} {b Ls : Nat} {xs : Nat → Int32} {mi n0 s0 : Nat}
theorem z_callK {d : Nat} {as0 : List Nat} {cf cf' : zCf zH1} {run : zRn zH1} (hRf : d + 1 ≤ R.frames) (hRl : 60 * d + 40 ≤ R.locals) (hkp : zKeep bs K) (XK : K s H0 ∧ bs ≤ H0.size ∧ ∀ q, A q → bs ≤ q) (X : zCx p R s m args meth c A H0 b Ls xs mi) (hC : zStepC zRc1 run mi cf cf') (hm : ∀ k args h r h', run k args h r h' → zMetK l bs K d k args h r h')
    (hn : n0 ≤ cf.2.2.2.length) (hs : s0 ≤ zSl cf.2.2.2) (hrc : cf'.2.2.2.length - n0 ≤ R.cells) (hrs : zSl cf'.2.2.2 - s0 ≤ R.slots) (kk : zGoal p l e R s m args below meth c Q D A H0 b mi n0 s0 as0 cf') : zGoal p l e R s m args below meth c Q D A H0 b mi n0 s0 as0 cf := by
  obtain ⟨i, ax, as1, rest, r, h1, hdec, hic, hax, hk, h14, hst, hlen, hrcv, hrcs, hrl, h5, hrun, rfl⟩ := hC
  obtain ⟨hx, hb, hml, hown, hts, hkn, hA, hnm, -⟩ := X
  obtain ⟨pc, L, st, h⟩ := cf
  dsimp only at *
  subst hst
  obtain ⟨hle1, hle2, hmet⟩ := hm _ _ _ _ _ hrun
  have hkl : ax.1 < zMs.length := by rw [zMs_len]; exact hk
  obtain ⟨hpl, hc1, hc2⟩ := zm_plain hkl h14
  obtain ⟨hpar, hmx, -⟩ := zm_par hkl
  intro as ca ls H locs hH hF hp
  dsimp only at hH hF ⊢
  have hpre : ∀ U : State, U.heap = H → s.WarmedH U.vm → U.heap.size = H.size ∧ zPreK bs K D as ca h U := by
    intro U hU hW
    obtain ⟨a1, a2, a3, a4, a5, a6⟩ := id hH
    exact ⟨by rw [hU], ⟨a1, zKnH.moved hW.alike a2, by rw [hU]; exact a3, ⟨a4.1, fun _ _ _ => trivial⟩, a6, zKnS_warm hW hkn⟩, by rw [hU]; exact hkp s U H0 H hW XK.1 (fun a ha hb => a5.2.1 a ha (fun z => hb (XK.2.2 a z))), by rw [hU]; exact Nat.le_trans XK.2.1 a5.1, fun k hk => XK.2.2 _ (zAsA a4 hk)⟩
  have hwa : ∀ a ∈ as1, wfv h.length False a := by
    intro a ha
    have h1 := hF.2.2.2 a (List.mem_append_left _ (List.mem_reverse.mpr ha))
    have h2 := List.all_eq_true.mp h5 a ha
    obtain ⟨t, z⟩ := a
    unfold wfv at *
    simp only at *
    split at h1
    · exact h1
    · exact h1
    · exact h1
    · simp at h2
    · exact h1
  have hM := hmet D b as ca H.size hwa
  have hFr : zFR b (zmC mi = 16) as h.length L rest ls (zmMax mi) := ⟨hF.1, hF.2.1, hF.2.2.1, fun x hx => hF.2.2.2 x (List.mem_append_right _ hx)⟩
  have hroom : 2 * (F0 m pc ls ((as1.reverse ++ rest).map (cv b as))).monitorRoom + ((rest.map (cv b as)).map fun v => v.category).sum ≤ 8 := by
    have hl : zWt rest ≤ 8 := Nat.le_of_ble_eq_true hrl
    have key : ∀ r : List zAv, ((r.map (cv b as)).map fun v => v.category).sum ≤ zWt r := by
      intro r
      induction r with
      | nil => exact Nat.le_refl 0
      | cons a r ih =>
        simp only [List.map_cons, List.sum_cons]
        have ha : (cv b as a).category ≤ (match zEq1 a.1 with
          | true => 2
          | false => 1) := by
          obtain ⟨t, x⟩ := a
          match t with
          | 0 => exact Nat.le_refl 1
          | 1 => exact Nat.le_refl 2
          | 2 => exact Nat.le_refl 1
          | t + 3 => exact Nat.le_refl 1
        exact Nat.add_le_add ha ih
    have := key rest
    show 2 * 0 + _ ≤ 8
    omega
  have hfit : h.length - n0 + (h1.length - h.length) ≤ R.cells ∧ zSl h - s0 + (zSl h1 - zSl h) ≤ R.slots := ⟨by omega, by omega⟩
  have hpp : ∀ sig, parseMethodDescriptor (zmY ax.1).desc = some sig → zmN ax.1 = sig.parameters.length := by
    intro sig q
    rw [q] at hpar
    exact (Option.some.inj hpar).symm
  have hRl2 : 8 + (zmMax ax.1 + 11) + (zRm1 d (h1.length - h.length) (zSl h1 - zSl h)).locals ≤ R.locals := by
    show 8 + (zmMax ax.1 + 11) + 60 * d ≤ R.locals
    omega
  have hcal : CallFix p m c (zmCode mi) (zmMax mi) s args zGW (zOw (zmC mi)) := ⟨hx, hb, hml, hown, hts⟩
  have hB : ∀ x ret, zmRet ax.1 = ret → (Cond.methodLink (zOw (zmC mi)) x (zmY ax.1)).before args s = true → CallB R s args (zOw (zmC mi)) x (zmY ax.1) (zmCode ax.1) (zmMax ax.1) ret (zWd ax.1) (zRm1 d (h1.length - h.length) (zSl h1 - zSl h)) (h1.length - h.length) (zSl h1 - zSl h) (zmN ax.1) := by
    intro x ret hret hl
    subst hret
    exact ⟨rfl, rfl, hRf, hRl2, zWd_pay hk hts, List.mem_cons_self, hts _ (zm_code hkl), hts _ (zm_ini hkl), ⟨hc1, hc2⟩, hpp, hl⟩
  have hN : ∀ x ret, zmRet ax.1 = ret → va_Nw (.methodLinkNest (zOw (zmC mi)) x (zmY ax.1) "EchoVale") s → va_CN R s args (zOw (zmC mi)) x (zmY ax.1) "EchoVale" (zmCode ax.1) (zmMax ax.1) ret (zWd ax.1) (zRm1 d (h1.length - h.length) (zSl h1 - zSl h)) (h1.length - h.length) (zSl h1 - zSl h) (zmN ax.1) := by
    intro x ret hret hl
    subst hret
    exact ⟨⟨rfl, rfl, hRf, hRl2, zWd_pay hk hts, List.mem_cons_self⟩, hts _ (zm_code hkl), hts _ (zm_ini hkl), ⟨hc1, hc2⟩, hpp, va_Nw.use rfl hl⟩
  have fin : ∀ {a : Array Value}, va_Run p l e R s m args below meth c H locs (h.length - n0) (zSl h - s0) (h1.length - h.length) (zSl h1 - zSl h) (F0 m pc ls ((as1.reverse ++ rest).map (cv b as))) (rest.map (cv b as)) (zQc D b as ca h H.size r h1 a) (va_A (zWs as ca h) H.size) → W p l e R s m args below meth c H locs (h.length - n0) (zSl h - s0) Q (F0 m pc ls ((as1.reverse ++ rest).map (cv b as))) :=
    fun hr => z_back hA hH hFr hp hle1 (by omega) (by omega) hr kk
  have hrev : (as1.reverse ++ rest).map (cv b as) = (as1.map (cv b as)).reverse ++ rest.map (cv b as) := by rw [List.map_append, List.map_reverse]
  cases i
  case invokestatic x =>
    have hS : PreS s H (va_Pc (as1.map (cv b as)) (fun U => U.heap.size = H.size ∧ zPreK bs K D as ca h U)) (as1.map (cv b as)) := ⟨zBlindK hkp, fun U hU hW => ⟨rfl, hpre U hU hW⟩⟩
    have hax2 : zLS.any (fun r => Nat.beq r.1 (zmC mi) && Nat.beq r.2.1 x && Nat.beq r.2.2.1 ax.1) = true ∨ zLSN.any (fun r => Nat.beq r.1 (zmC mi) && Nat.beq r.2.1 x && Nat.beq r.2.2.1 ax.1) = true := by
      simp only [zAxOk] at hax
      split at hax
      · omega
      · omega
      · omega
      · omega
      · exact Bool.or_eq_true _ _ ▸ hax
    rcases hax2 with hax2 | hax2
    · obtain ⟨w1, w2⟩ := zAny_s hax2
      exact fin (va_runS (g := F0 m pc ls ((as1.reverse ++ rest).map (cv b as))) hcal hM ⟨hB x _ rfl (hts _ w1), hts _ w2⟩ hS rfl (by rw [List.length_map]; exact hlen) hF.1.1 hrev hroom hdec hfit)
    · obtain ⟨w1, w2⟩ := zAny_sn hkn hax2
      exact fin (va_runSN (g := F0 m pc ls ((as1.reverse ++ rest).map (cv b as))) hcal hM ⟨hN x _ rfl w1, hts _ w2, trivial⟩ hS rfl (by rw [List.length_map]; exact hlen) hF.1.1 hrev hroom hdec hfit)
  case invokevirtual x =>
    obtain ⟨w1, w2, w3⟩ := zAny_v hax
    obtain ⟨a0, ha0, hci, ht, nn, ff, hcell⟩ := hrcv x rfl
    cases as1 with
    | nil => cases ha0
    | cons a As =>
      cases ha0
      obtain ⟨t, o⟩ := a0
      simp only at ht
      subst ht
      obtain ⟨a1, ⟨tys, a2, a3⟩, a4, a5, a6, a7⟩ := id hH
      have he := zWs_at (as := as) (ca := ca) hcell
      rw [zEnt_o (by omega)] at he
      have hrec := va_recv a2 a4 (zCl_at hci) he
      have hV : PreV s H (zmY ax.1).cls (as.getD o.toNat 0) (va_Pc (((2, o) :: As).map (cv b as)) (fun U => U.heap.size = H.size ∧ zPreK bs K D as ca h U)) (As.map (cv b as)) := ⟨zBlindK hkp, by rw [zm_cls hkl]; exact hrec, fun U hU hW => ⟨rfl, hpre U hU hW⟩⟩
      have hlen2 : (As.map (cv b as)).length = zmN ax.1 := by
        rw [List.length_map]
        have : As.length + 1 = zmN ax.1 + 1 := hlen
        omega
      have hrev2 : (((2, o) :: As).reverse ++ rest).map (cv b as) = (As.map (cv b as)).reverse ++ .ref (as.getD o.toNat 0) :: rest.map (cv b as) := by
        rw [hrev]
        simp [cv]
      exact fin (va_runV (g := F0 m pc ls ((((2, o) :: As).reverse ++ rest).map (cv b as))) hcal hM ⟨hB x _ rfl (hts _ w1), hts _ w2, hts _ w3⟩ hV rfl hlen2 hF.1.1 hrev2 hroom hdec hfit)
  case invokespecial x =>
    have hax2 : zLP.any (fun r => Nat.beq r.1 (zmC mi) && Nat.beq r.2.1 x && Nat.beq r.2.2.1 ax.1) = true ∨ zLPN.any (fun r => Nat.beq r.1 (zmC mi) && Nat.beq r.2.1 x && Nat.beq r.2.2.1 ax.1) = true := by
      simp only [zAxOk] at hax
      split at hax
      · omega
      · exact Bool.or_eq_true _ _ ▸ hax
    cases as1 with
    | nil => simp [zNa] at hlen
    | cons a As =>
      obtain ⟨v0, hv0⟩ : ∃ v0 : Nat, cv b as a = .ref v0 := by
        obtain ⟨a9, q1, q2⟩ := hrcs x rfl
        cases q1
        obtain ⟨t9, z9⟩ := a
        exact cv_ref q2
      have hS : PreS s H (va_Pc ((a :: As).map (cv b as)) (fun U => U.heap.size = H.size ∧ zPreK bs K D as ca h U)) (.ref v0 :: As.map (cv b as)) := ⟨zBlindK hkp, fun U hU hW => ⟨by rw [List.map_cons, hv0], hpre U hU hW⟩⟩
      have hlen2 : (As.map (cv b as)).length = zmN ax.1 := by
        rw [List.length_map]
        have : As.length + 1 = zmN ax.1 + 1 := hlen
        omega
      have hrev2 : ((a :: As).reverse ++ rest).map (cv b as) = (As.map (cv b as)).reverse ++ .ref v0 :: rest.map (cv b as) := by
        rw [hrev]
        simp [hv0]
      rcases hax2 with hax2 | hax2
      · obtain ⟨w1, w2, w3, w4⟩ := zAny_p hax2
        exact fin (va_runI (g := F0 m pc ls (((a :: As).reverse ++ rest).map (cv b as))) hcal hM ⟨hB x none w4 (hts _ w1), w3, hts _ w2⟩ hS rfl hlen2 hF.1.1 hrev2 hroom hdec hfit)
      · obtain ⟨w1, w2, w3, w4⟩ := zAny_pn hkn hax2
        exact fin (va_runIN (g := F0 m pc ls (((a :: As).reverse ++ rest).map (cv b as))) hcal hM ⟨hN x none w4 w1, w3, hts _ w2⟩ hS rfl hlen2 hF.1.1 hrev2 hroom hdec hfit)
  all_goals cases hic
theorem zStep_monoK {Ls : Nat} {xs : Nat → Int} {d : Nat} {cf cf' : zCf zH1} {run : zRn zH1} (hm : ∀ k args h r h', run k args h r h' → zMetK l bs K d k args h r h') (hS : zStep (zHop1 Ls xs) zRc1 run mi cf cf') : cf.2.2.2.length ≤ cf'.2.2.2.length ∧ zSl cf.2.2.2 ≤ zSl cf'.2.2.2 := by
  rcases hS with ⟨i, len, ax, d, gs, -, -, -, hE, -⟩ | ⟨i, ax, as1, rest, r, h1, -, -, -, -, -, -, -, -, -, -, -, hrun, rfl⟩ | ⟨-, h2, -⟩
  · rcases zX_heap hE with h | ⟨n, st', h, -⟩
    · rw [h]; exact ⟨Nat.le_refl _, Nat.le_refl _⟩
    · exact zX_mono h
  · obtain ⟨h1, h2, -⟩ := hm _ _ _ _ _ hrun
    exact ⟨h1, h2⟩
  · rw [h2]; exact ⟨Nat.le_refl _, Nat.le_refl _⟩
theorem zReach_monoK {Ls : Nat} {xs : Nat → Int} {d n : Nat} {cf cf' : zCf zH1} {run : zRn zH1} (hm : ∀ k args h r h', run k args h r h' → zMetK l bs K d k args h r h') (hS : zReach (zHop1 Ls xs) zRc1 run mi n cf cf') : cf.2.2.2.length ≤ cf'.2.2.2.length ∧ zSl cf.2.2.2 ≤ zSl cf'.2.2.2 := by
  induction n generalizing cf with
  | zero => cases hS; exact ⟨Nat.le_refl _, Nat.le_refl _⟩
  | succ n ih =>
    obtain ⟨c1, h1, h2⟩ := hS
    have q1 := zStep_monoK hm h1
    have q2 := ih h2
    omega
theorem z_reachK {d n : Nat} {as0 : List Nat} {cf cf' : zCf zH1} {run : zRn zH1} (hRf : d + 1 ≤ R.frames) (hRl : 60 * d + 40 ≤ R.locals) (hkp : zKeep bs K) (XK : K s H0 ∧ bs ≤ H0.size ∧ ∀ q, A q → bs ≤ q) (X : zCx p R s m args meth c A H0 b Ls xs mi) (hm : ∀ k args h r h', run k args h r h' → zMetK l bs K d k args h r h')
    (hS : zReach (zHop1 Ls (fun j => (xs j).toInt)) zRc1 run mi n cf cf') (hn : n0 ≤ cf.2.2.2.length) (hs : s0 ≤ zSl cf.2.2.2) (hrc : cf'.2.2.2.length - n0 ≤ R.cells) (hrs : zSl cf'.2.2.2 - s0 ≤ R.slots)
    (kk : zGoal p l e R s m args below meth c Q D A H0 b mi n0 s0 as0 cf') : zGoal p l e R s m args below meth c Q D A H0 b mi n0 s0 as0 cf := by
  induction n generalizing cf with
  | zero => cases hS; exact kk
  | succ n ih =>
    obtain ⟨c1, h1, h2⟩ := hS
    have q1 := zStep_monoK hm h1
    have q2 := zReach_monoK hm h2
    have k1 := ih h2 (by omega) (by omega)
    rcases h1 with ⟨i, len, ax, d, gs, g1, g2, g3, g4, g5⟩ | h1 | h1
    · obtain ⟨pc, L, st, h⟩ := cf
      exact z_step X g1 g2 g3 g4 g5 hn hs (by omega) (by omega) k1
    · exact z_callK hRf hRl hkp XK X h1 hm hn hs (by omega) (by omega) k1
    · exact z_forget h1 k1
end ZDK
set_option maxHeartbeats 2000000 in
theorem z_metK {l : Launch} {bs : Nat} {K : State → Heap → Prop} (hkp : zKeep bs K) {spec : zRn zH1} (hsp : ∀ d k args h r h', 7 ≤ d → spec k args h r h' → zMetK l bs K (d + 1) k args h r h') : ∀ (d mi : Nat) (args : List zAv) (h : zH1) (r : Option zAv) (h' : zH1), zRun (zHop1 0 (fun _ => 0)) zRc1 spec d mi args h r h' → zMetK l bs K d mi args h r h' := by
  intro d
  induction d with
  | zero => intro mi args h r h' q; exact q.elim
  | succ d ih =>
    intro mi args h r h' q
    rcases q with ⟨q1, q2⟩ | ⟨hk, h14, hfl, n, pc, L, st, hS, hret⟩
    · exact hsp d _ _ _ _ _ q1 q2
    have hmono := zReach_monoK ih hS
    dsimp only at hmono
    refine ⟨hmono.1, hmono.2, fun D b as ca sz hwa => ?_⟩
    have hkl : mi < zMs.length := by rw [zMs_len]; exact hk
    obtain ⟨hpl, -, -⟩ := zm_plain hkl h14
    refine Met.ofW (cc := zmCode mi) (maxL := zmMax mi) (ret := zmRet mi) hpl rfl ?_
    intro p e s m args1 below meth c s₁ B hml hv
    obtain ⟨rfl, hsz, hpre⟩ := hv
    obtain ⟨⟨a1, a2, a3, a4, a5, a6⟩, aK, aB, aS⟩ := hpre
    have hx := B.exec
    have hb := B.bytes
    have hr := B.returns
    have hts0 := atoms_spec (ws := zWd mi) B.pre
    have hts : ∀ w ∈ zGW, w.before ((args.map (cv b as)).toArray) s = true := fun w hw => hts0 w (List.mem_cons_of_mem _ hw)
    have hown : s.vm.findClass (zmY mi).cls = some m.cls := findClass_of_methodNamed B.named
    rw [zm_cls hkl] at hown
    have hlocks := B.notSynchronized
    have hin : meth.name = (zmY mi).name := (name_of_methodNamed B.named B.method).1
    subst hsz
    generalize hAe : va_A (zWs as ca h) s.heap.size = A
    have hA : ∀ q : Nat, s.heap.size ≤ q → A q := fun q h => by rw [← hAe]; exact Or.inr h
    have hD : va_D A (zWs as ca h) := by rw [← hAe]; exact a4.self
    have XK : K s s.heap ∧ bs ≤ s.heap.size ∧ ∀ q, A q → bs ≤ q := ⟨aK, aB, fun q hq => by
      rw [← hAe] at hq
      rcases hq with ⟨k, ee, hk⟩ | hq
      · obtain ⟨q1, q2⟩ := zWs_inv hk
        rw [q2]
        exact aS k q1
      · exact Nat.le_trans aB hq⟩
    have X : zCx p (headSpec (zWd mi) (zRm1 (d + 1) (h'.length - h.length) (zSl h' - zSl h))).room s m ((args.map (cv b as)).toArray) meth c A s.heap b 0 (fun _ => 0) mi :=
      ⟨hx, hb, hml, hown, hts, a6, hA, hin, fun q => absurd q (zm_notlaw hkl), by show 1 ≤ d + 1; omega, by show 40 ≤ 60 * (d + 1); omega⟩
    have hl := lv_entry (args.map (cv b as)) (n := zmMax mi) (by rw [zFl_len]; exact hfl)
    rw [lg_entry_eq]
    generalize (lg_sl (args.map (cv b as)) ++ List.replicate (zmMax mi - (lg_sl (args.map (cv b as))).length) Slot.unset).toArray = ls at hl ⊢
    have hF : zFR b (zmC mi = 16) as h.length (zEntry args (zmMax mi)) [] ls (zmMax mi) := by
      refine ⟨⟨hl.1, hl.2.1, fun i a ha => ?_⟩, by unfold zEntry; rw [List.length_append, List.length_replicate]; omega, fun i a ha => wfv_sc (hwa a (zEntry_mem _ _ _ ha)), fun a ha => by cases ha⟩
      have := zEntry_in (b := b) (as := as) args 0 i a ha
      rw [Nat.zero_add] at this
      exact hl.2.2 _ this
    have hH : zHR s D A s.heap as ca h s.heap [] := ⟨a1, a2, a3, hD, va_S.rf, a5⟩
    have key : zGoal p l e (headSpec (zWd mi) (zRm1 (d + 1) (h'.length - h.length) (zSl h' - zSl h))).room s m ((args.map (cv b as)).toArray) below meth c (MQ below (zQc D b as ca h s.heap.size r h') ((args.map (cv b as)).toArray) s (h'.length - h.length) (zSl h' - zSl h) A) D A s.heap b mi h.length (zSl h) as (0, zEntry args (zmMax mi), [], h) := by
      refine z_reachK (bs := bs) (K := K) (d := d) (n := n) (Nat.le_refl _) (by show 60 * d + 40 ≤ 60 * (d + 1); omega) hkp XK X ih (by simpa using hS) (Nat.le_refl _) (Nat.le_refl _) (Nat.le_refl _) (Nat.le_refl _) ?_
      intro as' ca' ls' H' locs' hH' hF' hp'
      dsimp only at hH' hF' hret ⊢
      obtain ⟨b1, b2, b3, b4, b5, b6⟩ := hH'
      have hq : ∀ rr : Option zAv, rr = r → (∀ a, rr = some a → wfv h'.length False a) → ∀ t : State, t.heap = H' → s.WarmedH t.vm → zQc D b as ca h s.heap.size r h' ((args.map (cv b as)).toArray) s (.returned (rr.map (cv b as'))) t := by
        intro rr hrr hwr t ht hW
        subst hrr
        refine ⟨⟨as', ca', rfl, hp', b1, zKnH.moved hW.alike b2, by rw [ht]; exact b3, by rw [hAe]; exact b4, b6, hwr⟩, ?_⟩
        rw [hAe]
        exact b5.F ht
      rcases hret with ⟨g1, v, g2, g3, g4⟩ | ⟨g1, v, g2, g3, g4⟩ | ⟨g1, g2, g3, g4⟩
      · subst g2
        subst g3
        have hwv : wfv h'.length False (0, v) := hF'.hd
        have hn : ∃ ty, zmRet mi = some ty ∧ narrow ty (.int (Int32.ofInt v)) = .int (Int32.ofInt v) := by
          rcases g4 with g4 | ⟨g4, rfl | rfl⟩
          · exact ⟨.int, g4, rfl⟩
          · exact ⟨.boolean, g4, by decide⟩
          · exact ⟨.boolean, g4, by decide⟩
        obtain ⟨ty, hty, hnn⟩ := hn
        exact W.zret hx hb (hr.trans hty) hnn (hq (some (0, v)) rfl (fun a ha => by cases ha; exact hwv)) b5.2.2 g1 hlocks
      · subst g2
        subst g3
        have hwv : wfv h'.length False (1, v) := hF'.hd
        exact W.lret hx hb (hr.trans g4) (hq (some (1, v)) rfl (fun a ha => by cases ha; exact hwv)) b5.2.2 g1 hlocks
      · subst g2
        subst g3
        exact W.vret hx hb (hr.trans g4) (hq none rfl (fun a ha => by cases ha)) b5.2.2 g1 hlocks
    have := key as ca ls s.heap [] hH hF (List.prefix_refl _)
    simp only [Nat.sub_self] at this
    exact this
end
section
/-! A run of the law's own places that makes nothing new, at any counts: seen from a rebased start. -/
section ZANY
variable {p : Program} {l : Launch} {e : Env} {R : Room} {s : State} {m : MethodId} {args : Array Value} {below : List Frame} {meth : Method} {c : Code} {Q : State → Prop}
variable {D : va_G} {A : Nat → Prop} {H0 : Heap} {b Ls : Nat} {xs : Nat → Int32} {mi : Nat} {bs : Nat} {K : State → Heap → Prop}
theorem zb_back {T S : State} {R' : Room} {locs locs' : List Loc} {cells slots k n : Nat} (X : Stand p l e R s m args below meth c T locs cells slots) (Y : Stand p l e R' ((T.setVm s.vm).setFrames (.invoking m args :: below)) m args below meth c T [] 0 0) (Z : Stand p l e R' ((T.setVm s.vm).setFrames (.invoking m args :: below)) m args below meth c S locs' k n) :
    Stand p l e R s m args below meth c S (locs ++ locs') (cells + k) (slots + n) := by
  have hW0 : s.WarmedH ((T.setVm s.vm).setFrames (.invoking m args :: below)).vm := State.WarmedH.refl s
  refine { admits := X.admits, cas := X.cas, clock := X.clock, frames := X.frames, room := X.room, hears := X.hears, method := X.method, code := X.code, here := Z.here, tail := Z.tail, warmed := State.WarmedH.trans hW0 Z.warmed, limits := Z.limits.trans (Y.limits.symm.trans X.limits), bytes := Z.bytes.trans (Y.bytes.symm.trans X.bytes), same := ?_ }
  obtain ⟨e1, e2⟩ := Z.same
  rw [State.setFrames_setFrames] at e1
  have h2 : (T.setVm s.vm).sameButNew (S.setVm s.vm) locs' k n := ⟨e1, e2⟩
  exact X.same.trans h2
theorem z_any {d n : Nat} {cf cf' : zCf zH1} {run : zRn zH1} {as : List Nat} {ca : Nat → ClassId} {ls : Array Slot} {H : Heap} {locs : List Loc} {k1 k2 : Nat} (hRf : d + 1 ≤ R.frames) (hRl : 60 * d + 40 ≤ R.locals) (hk1 : k1 ≤ R.cells) (hk2 : k2 ≤ R.slots)
    (hkp : zKeep bs K) (XK : K s H0 ∧ bs ≤ H0.size ∧ ∀ q, A q → bs ≤ q) (X : zCx p R s m args meth c A H0 b Ls xs mi) (hm : ∀ k args h r h', run k args h r h' → zMetK l bs K d k args h r h') (hS : zReach (zHop1 Ls (fun j => (xs j).toInt)) zRc1 run mi n cf cf')
    (e1 : cf'.2.2.2.length = cf.2.2.2.length) (e2 : zSl cf'.2.2.2 = zSl cf.2.2.2) (hH : zHR s D A H0 as ca cf.2.2.2 H locs) (hF : zFR b (zmC mi = 16) as cf.2.2.2.length cf.2.1 cf.2.2.1 ls (zmMax mi))
    (kk : ∀ (as' : List Nat) (ca' : Nat → ClassId) (ls' : Array Slot) (H' : Heap) (locs' : List Loc), zHR s D A H0 as' ca' cf'.2.2.2 H' locs' → zFR b (zmC mi = 16) as' cf'.2.2.2.length cf'.2.1 cf'.2.2.1 ls' (zmMax mi) → as <+: as' → W p l e R s m args below meth c H' locs' k1 k2 Q (F0 m cf'.1 ls' (cf'.2.2.1.map (cv b as')))) :
    W p l e R s m args below meth c H locs k1 k2 Q (F0 m cf.1 ls (cf.2.2.1.map (cv b as))) := by
  intro T hT XT
  have Y := vx_rebase XT (R' := { frames := R.frames, locals := R.locals, cells := 0, slots := 0 }) (Nat.le_refl _) (Nat.le_refl _) hk1 hk2
  have hW0 : s.WarmedH ((T.setVm s.vm).setFrames (.invoking m args :: below)).vm := State.WarmedH.refl s
  obtain ⟨g1, g2, g3, g4, g5, g6, g7, g8, g9, g10, g11⟩ := X
  obtain ⟨h1, h2, h3, h4, h5, h6⟩ := hH
  have X' : zCx p { frames := R.frames, locals := R.locals, cells := 0, slots := 0 } ((T.setVm s.vm).setFrames (.invoking m args :: below)) m args meth c A H b Ls xs mi := by
    refine ⟨g1, g2, g3, g4, fun w hw => vx_ot_at hW0 rfl (by rw [vx_ot, (List.mem_filter.mp hw).2, Bool.or_true]) (g5 w hw), zKnS_same (u := s) rfl g6, fun q hq => g7 q (Nat.le_trans h5.1 hq), g8, fun q => ?_, g10, g11⟩
    obtain ⟨a1, a2, a3, a4⟩ := g9 q
    exact ⟨va_X.moved (u := s) hW0.alike (a1.kept (h5.2.1 b a2 a3)), Nat.lt_of_lt_of_le a2 h5.1, a3, a4⟩
  have XK' : K ((T.setVm s.vm).setFrames (.invoking m args :: below)) H ∧ bs ≤ H.size ∧ ∀ q, A q → bs ≤ q := ⟨hkp s _ H0 H hW0 XK.1 (fun a ha hb => h5.2.1 a ha (fun z => hb (XK.2.2 a z))), Nat.le_trans XK.2.1 h5.1, XK.2.2⟩
  have hH' : zHR ((T.setVm s.vm).setFrames (.invoking m args :: below)) D A H as ca cf.2.2.2 H [] := ⟨h1, zKnH.moved (u := s) hW0.alike h2, h3, h4, va_S.rf, h6⟩
  have key : zGoal p l e { frames := R.frames, locals := R.locals, cells := 0, slots := 0 } ((T.setVm s.vm).setFrames (.invoking m args :: below)) m args below meth c (fun t => ∃ (T' : State) (as' : List Nat) (ca' : Nat → ClassId) (ls' : Array Slot) (locs' : List Loc), t = T'.setTop (F0 m cf'.1 ls' (cf'.2.2.1.map (cv b as'))) ∧ zHR ((T.setVm s.vm).setFrames (.invoking m args :: below)) D A H as' ca' cf'.2.2.2 T'.heap locs' ∧ zFR b (zmC mi = 16) as' cf'.2.2.2.length cf'.2.1 cf'.2.2.1 ls' (zmMax mi) ∧ as <+: as' ∧ Stand p l e { frames := R.frames, locals := R.locals, cells := 0, slots := 0 } ((T.setVm s.vm).setFrames (.invoking m args :: below)) m args below meth c T' locs' 0 0) D A H b mi cf.2.2.2.length (zSl cf.2.2.2) as cf := by
    refine z_reachK (d := d) (n := n) hRf hRl hkp XK' X' hm hS (Nat.le_refl _) (Nat.le_refl _) (by rw [e1, Nat.sub_self]; exact Nat.le_refl _) (by rw [e2, Nat.sub_self]; exact Nat.le_refl _) ?_
    intro as' ca' ls' H' locs' hH2 hF2 hp2 T' hT' Z
    subst hT'
    rw [e1, e2, Nat.sub_self, Nat.sub_self] at Z
    exact ⟨_, Steps.refl _, T', as', ca', ls', locs', rfl, hH2, hF2, hp2, Z⟩
  have r := key as ca ls H [] hH' hF (List.prefix_refl _)
  rw [Nat.sub_self, Nat.sub_self] at r
  obtain ⟨t, st, T', as', ca', ls', locs', rfl, k3, k4, k5, Z⟩ := r T hT Y
  have ZZ := zb_back XT Y Z
  obtain ⟨j1, j2, j3, j4, j5, j6⟩ := k3
  obtain ⟨t2, st2, q2⟩ := kk as' ca' ls' T'.heap (locs ++ locs') ⟨j1, zKnH.moved (u := (T.setVm s.vm).setFrames (.invoking m args :: below)) (U := s) (Vm.Alike.refl s.vm) j2, j3, j4, ⟨Nat.le_trans h5.1 j5.1, fun q c1 c2 => (j5.2.1 q (Nat.lt_of_lt_of_le c1 h5.1) c2).trans (h5.2.1 q c1 c2), fun q hq => by
    rcases List.mem_append.mp hq with hq | hq
    · exact h5.2.2 q hq
    · exact j5.2.2 q hq⟩, j6⟩ k4 k5 T' rfl ZZ
  exact ⟨t2, st.trans st2, q2⟩
end ZANY
end
section
/-! The one String that the class reads, and the JDK's members that read it. -/
def st_t : Term := .string "EchoVale$Reader" 23
def st_x : String := "land cliff person move camp felt snow owns said heard or and not lost joint of by worth loud hour echoes "
def st_b : List Int32 := [108, 97, 110, 100, 32, 99, 108, 105, 102, 102, 32, 112, 101, 114, 115, 111, 110, 32, 109, 111, 118, 101, 32, 99, 97, 109, 112, 32, 102, 101, 108, 116, 32, 115, 110, 111, 119, 32, 111, 119, 110, 115, 32, 115, 97, 105, 100, 32, 104, 101, 97, 114, 100, 32, 111, 114, 32, 97, 110, 100, 32, 110, 111, 116, 32, 108, 111, 115, 116, 32, 106, 111, 105, 110, 116, 32, 111, 102, 32, 98, 121, 32, 119, 111, 114, 116, 104, 32, 108, 111, 117, 100, 32, 104, 111, 117, 114, 32, 101, 99, 104, 111, 101, 115, 32]
def st_w (j : Nat) : Cond := .eq (.elem (.field st_t "java/lang/String" "value" "[B") (.int (Int32.ofNat j))) (.int (st_b.getD j 0))
def st_f : List Cond := flatC (Jvm.Cond.and given_1 narrow_1)
theorem st_el : (st_f.drop 58).take 105 = (List.range 105).map st_w := by decide +kernel
theorem st_elm {j : Nat} (hj : j < 105) : st_w j ∈ st_f := by
  have h : st_w j ∈ (st_f.drop 58).take 105 := by
    rw [st_el]
    exact List.mem_map.mpr ⟨j, List.mem_range.mpr hj, rfl⟩
  exact List.mem_of_mem_drop (List.mem_of_mem_take h)
theorem zG_at {i : Nat} {w : Cond} (h : tables_1[i]? = some w) (g : goodWord w = true) : w ∈ zGW := List.mem_filter.mpr ⟨List.mem_append_right _ (List.mem_of_getElem? h), g⟩
theorem gw_3 : (Jvm.Cond.initialized "java/lang/String") ∈ zGW := zG_at (i := 3) (by decide +kernel) (by decide +kernel)
theorem gw_4 : (Jvm.Cond.initialized "java/lang/StringLatin1") ∈ zGW := zG_at (i := 4) (by decide +kernel) (by decide +kernel)
theorem gw_5 : (Jvm.Cond.initialized "jdk/internal/util/Preconditions") ∈ zGW := zG_at (i := 5) (by decide +kernel) (by decide +kernel)
theorem gw_2 : (Jvm.Cond.initialized "EchoVale$Reader") ∈ zGW := zG_at (i := 2) (by decide +kernel) (by decide +kernel)
theorem gw_44 : (Jvm.Cond.methodLink "EchoVale$Reader" (25 : Nat) ({ cls := "java/lang/String", name := "length", desc := "()I" } : Jvm.MethodName)) ∈ zGW := zG_at (i := 44) (by decide +kernel) (by decide +kernel)
theorem gw_45 : (Jvm.Cond.instanceMethod ({ cls := "java/lang/String", name := "length", desc := "()I" } : Jvm.MethodName)) ∈ zGW := zG_at (i := 45) (by decide +kernel) (by decide +kernel)
theorem gw_46 : (Jvm.Cond.selects "java/lang/String" ({ cls := "java/lang/String", name := "length", desc := "()I" } : Jvm.MethodName) ({ cls := "java/lang/String", name := "length", desc := "()I" } : Jvm.MethodName)) ∈ zGW := zG_at (i := 46) (by decide +kernel) (by decide +kernel)
theorem gw_47 : (Jvm.Cond.code ({ cls := "java/lang/String", name := "length", desc := "()I" } : Jvm.MethodName) prog_22_method_54_code (1 : Nat) (Option.some Jvm.ClassFile.FieldType.int)) ∈ zGW := zG_at (i := 47) (by decide +kernel) (by decide +kernel)
theorem gw_48 : (Jvm.Cond.methodLink "java/lang/String" (335 : Nat) ({ cls := "java/lang/String", name := "coder", desc := "()B" } : Jvm.MethodName)) ∈ zGW := zG_at (i := 48) (by decide +kernel) (by decide +kernel)
theorem gw_49 : (Jvm.Cond.instanceMethod ({ cls := "java/lang/String", name := "coder", desc := "()B" } : Jvm.MethodName)) ∈ zGW := zG_at (i := 49) (by decide +kernel) (by decide +kernel)
theorem gw_50 : (Jvm.Cond.selects "java/lang/String" ({ cls := "java/lang/String", name := "coder", desc := "()B" } : Jvm.MethodName) ({ cls := "java/lang/String", name := "coder", desc := "()B" } : Jvm.MethodName)) ∈ zGW := zG_at (i := 50) (by decide +kernel) (by decide +kernel)
theorem gw_51 : (Jvm.Cond.code ({ cls := "java/lang/String", name := "coder", desc := "()B" } : Jvm.MethodName) prog_22_method_152_code (1 : Nat) (Option.some Jvm.ClassFile.FieldType.byte)) ∈ zGW := zG_at (i := 51) (by decide +kernel) (by decide +kernel)
theorem gw_52 : (Jvm.Cond.fieldLink "java/lang/String" (38 : Nat) "java/lang/String" "COMPACT_STRINGS" "Z") ∈ zGW := zG_at (i := 52) (by decide +kernel) (by decide +kernel)
theorem gw_54 : (Jvm.Cond.methodLink "EchoVale$Reader" (31 : Nat) ({ cls := "java/lang/String", name := "charAt", desc := "(I)C" } : Jvm.MethodName)) ∈ zGW := zG_at (i := 54) (by decide +kernel) (by decide +kernel)
theorem gw_55 : (Jvm.Cond.instanceMethod ({ cls := "java/lang/String", name := "charAt", desc := "(I)C" } : Jvm.MethodName)) ∈ zGW := zG_at (i := 55) (by decide +kernel) (by decide +kernel)
theorem gw_56 : (Jvm.Cond.selects "java/lang/String" ({ cls := "java/lang/String", name := "charAt", desc := "(I)C" } : Jvm.MethodName) ({ cls := "java/lang/String", name := "charAt", desc := "(I)C" } : Jvm.MethodName)) ∈ zGW := zG_at (i := 56) (by decide +kernel) (by decide +kernel)
theorem gw_57 : (Jvm.Cond.code ({ cls := "java/lang/String", name := "charAt", desc := "(I)C" } : Jvm.MethodName) prog_22_method_56_code (2 : Nat) (Option.some Jvm.ClassFile.FieldType.char)) ∈ zGW := zG_at (i := 57) (by decide +kernel) (by decide +kernel)
theorem gw_58 : (Jvm.Cond.methodLink "java/lang/String" (492 : Nat) ({ cls := "java/lang/String", name := "isLatin1", desc := "()Z" } : Jvm.MethodName)) ∈ zGW := zG_at (i := 58) (by decide +kernel) (by decide +kernel)
theorem gw_59 : (Jvm.Cond.instanceMethod ({ cls := "java/lang/String", name := "isLatin1", desc := "()Z" } : Jvm.MethodName)) ∈ zGW := zG_at (i := 59) (by decide +kernel) (by decide +kernel)
theorem gw_60 : (Jvm.Cond.selects "java/lang/String" ({ cls := "java/lang/String", name := "isLatin1", desc := "()Z" } : Jvm.MethodName) ({ cls := "java/lang/String", name := "isLatin1", desc := "()Z" } : Jvm.MethodName)) ∈ zGW := zG_at (i := 60) (by decide +kernel) (by decide +kernel)
theorem gw_61 : (Jvm.Cond.code ({ cls := "java/lang/String", name := "isLatin1", desc := "()Z" } : Jvm.MethodName) prog_22_method_154_code (1 : Nat) (Option.some Jvm.ClassFile.FieldType.boolean)) ∈ zGW := zG_at (i := 61) (by decide +kernel) (by decide +kernel)
theorem gw_62 : (Jvm.Cond.methodLink "java/lang/String" (495 : Nat) ({ cls := "java/lang/StringLatin1", name := "charAt", desc := "([BI)C" } : Jvm.MethodName)) ∈ zGW := zG_at (i := 62) (by decide +kernel) (by decide +kernel)
theorem gw_63 : (Jvm.Cond.static ({ cls := "java/lang/StringLatin1", name := "charAt", desc := "([BI)C" } : Jvm.MethodName)) ∈ zGW := zG_at (i := 63) (by decide +kernel) (by decide +kernel)
theorem gw_64 : (Jvm.Cond.code ({ cls := "java/lang/StringLatin1", name := "charAt", desc := "([BI)C" } : Jvm.MethodName) prog_23_method_2_code (2 : Nat) (Option.some Jvm.ClassFile.FieldType.char)) ∈ zGW := zG_at (i := 64) (by decide +kernel) (by decide +kernel)
theorem gw_65 : (Jvm.Cond.methodLink "java/lang/StringLatin1" (9 : Nat) ({ cls := "java/lang/String", name := "checkIndex", desc := "(II)V" } : Jvm.MethodName)) ∈ zGW := zG_at (i := 65) (by decide +kernel) (by decide +kernel)
theorem gw_66 : (Jvm.Cond.static ({ cls := "java/lang/String", name := "checkIndex", desc := "(II)V" } : Jvm.MethodName)) ∈ zGW := zG_at (i := 66) (by decide +kernel) (by decide +kernel)
theorem gw_67 : (Jvm.Cond.code ({ cls := "java/lang/String", name := "checkIndex", desc := "(II)V" } : Jvm.MethodName) prog_22_method_155_code (2 : Nat) (Option.none : Option Jvm.ClassFile.FieldType)) ∈ zGW := zG_at (i := 67) (by decide +kernel) (by decide +kernel)
theorem gw_68 : (Jvm.Cond.fieldLink "java/lang/String" (1053 : Nat) "jdk/internal/util/Preconditions" "SIOOBE_FORMATTER" "Ljava/util/function/BiFunction;") ∈ zGW := zG_at (i := 68) (by decide +kernel) (by decide +kernel)
theorem gw_70 : (Jvm.Cond.methodLink "java/lang/String" (1059 : Nat) ({ cls := "jdk/internal/util/Preconditions", name := "checkIndex", desc := "(IILjava/util/function/BiFunction;)I" } : Jvm.MethodName)) ∈ zGW := zG_at (i := 70) (by decide +kernel) (by decide +kernel)
theorem gw_71 : (Jvm.Cond.static ({ cls := "jdk/internal/util/Preconditions", name := "checkIndex", desc := "(IILjava/util/function/BiFunction;)I" } : Jvm.MethodName)) ∈ zGW := zG_at (i := 71) (by decide +kernel) (by decide +kernel)
theorem gw_72 : (Jvm.Cond.code ({ cls := "jdk/internal/util/Preconditions", name := "checkIndex", desc := "(IILjava/util/function/BiFunction;)I" } : Jvm.MethodName) prog_31_method_11_code (3 : Nat) (Option.some Jvm.ClassFile.FieldType.int)) ∈ zGW := zG_at (i := 72) (by decide +kernel) (by decide +kernel)
theorem gw_73 : (Jvm.Cond.methodLink "java/lang/String" (498 : Nat) ({ cls := "java/lang/StringUTF16", name := "charAt", desc := "([BI)C" } : Jvm.MethodName)) ∈ zGW := zG_at (i := 73) (by decide +kernel) (by decide +kernel)
theorem gw_1915 : (Jvm.Cond.fieldLink "java/lang/String" (9 : Nat) "java/lang/String" "value" "[B") ∈ zGW := zG_at (i := 1911) (by decide +kernel) (by decide +kernel)
theorem gw_1916 : (Jvm.Cond.fieldLink "java/lang/String" (15 : Nat) "java/lang/String" "coder" "B") ∈ zGW := zG_at (i := 1912) (by decide +kernel) (by decide +kernel)

abbrev yLen : MethodName := ⟨"java/lang/String", "length", "()I"⟩
abbrev yCod : MethodName := ⟨"java/lang/String", "coder", "()B"⟩
abbrev yChA : MethodName := ⟨"java/lang/String", "charAt", "(I)C"⟩
abbrev yLat : MethodName := ⟨"java/lang/String", "isLatin1", "()Z"⟩
abbrev yLcA : MethodName := ⟨"java/lang/StringLatin1", "charAt", "([BI)C"⟩
abbrev yChk : MethodName := ⟨"java/lang/String", "checkIndex", "(II)V"⟩
abbrev yPre : MethodName := ⟨"jdk/internal/util/Preconditions", "checkIndex", "(IILjava/util/function/BiFunction;)I"⟩
abbrev bLen : ByteArray := prog_22_method_54_code
abbrev bCod : ByteArray := prog_22_method_152_code
abbrev bChA : ByteArray := prog_22_method_56_code
abbrev bLat : ByteArray := prog_22_method_154_code
abbrev bLcA : ByteArray := prog_23_method_2_code
abbrev bChk : ByteArray := prog_22_method_155_code
abbrev bPre : ByteArray := prog_31_method_11_code
theorem d_cod_0 : decode bCod 0 = .ok (.getstatic 38, 3) := by decide +kernel
theorem d_cod_3 : decode bCod 3 = .ok (.ifCond .eq 10, 3) := by decide +kernel
theorem d_cod_6 : decode bCod 6 = .ok (.aload_n 0, 1) := by decide +kernel
theorem d_cod_7 : decode bCod 7 = .ok (.getfield 15, 3) := by decide +kernel
theorem d_cod_10 : decode bCod 10 = .ok (.goto 4, 3) := by decide +kernel
theorem d_cod_14 : decode bCod 14 = .ok (.ireturn, 1) := by decide +kernel
theorem d_len_0 : decode bLen 0 = .ok (.aload_n 0, 1) := by decide +kernel
theorem d_len_1 : decode bLen 1 = .ok (.getfield 9, 3) := by decide +kernel
theorem d_len_4 : decode bLen 4 = .ok (.arraylength, 1) := by decide +kernel
theorem d_len_5 : decode bLen 5 = .ok (.aload_n 0, 1) := by decide +kernel
theorem d_len_6 : decode bLen 6 = .ok (.invokevirtual 335, 3) := by decide +kernel
theorem d_len_9 : decode bLen 9 = .ok (.ishr, 1) := by decide +kernel
theorem d_len_10 : decode bLen 10 = .ok (.ireturn, 1) := by decide +kernel
theorem d_lat_0 : decode bLat 0 = .ok (.getstatic 38, 3) := by decide +kernel
theorem d_lat_3 : decode bLat 3 = .ok (.ifCond .eq 14, 3) := by decide +kernel
theorem d_lat_6 : decode bLat 6 = .ok (.aload_n 0, 1) := by decide +kernel
theorem d_lat_7 : decode bLat 7 = .ok (.getfield 15, 3) := by decide +kernel
theorem d_lat_10 : decode bLat 10 = .ok (.ifCond .ne 7, 3) := by decide +kernel
theorem d_lat_13 : decode bLat 13 = .ok (.iconst 1, 1) := by decide +kernel
theorem d_lat_14 : decode bLat 14 = .ok (.goto 4, 3) := by decide +kernel
theorem d_lat_18 : decode bLat 18 = .ok (.ireturn, 1) := by decide +kernel
theorem d_pre_0 : decode bPre 0 = .ok (.iload_n 0, 1) := by decide +kernel
theorem d_pre_1 : decode bPre 1 = .ok (.ifCond .lt 8, 3) := by decide +kernel
theorem d_pre_4 : decode bPre 4 = .ok (.iload_n 0, 1) := by decide +kernel
theorem d_pre_5 : decode bPre 5 = .ok (.iload_n 1, 1) := by decide +kernel
theorem d_pre_6 : decode bPre 6 = .ok (.if_icmp .lt 10, 3) := by decide +kernel
theorem d_pre_16 : decode bPre 16 = .ok (.iload_n 0, 1) := by decide +kernel
theorem d_pre_17 : decode bPre 17 = .ok (.ireturn, 1) := by decide +kernel
theorem d_chk_0 : decode bChk 0 = .ok (.iload_n 0, 1) := by decide +kernel
theorem d_chk_1 : decode bChk 1 = .ok (.iload_n 1, 1) := by decide +kernel
theorem d_chk_2 : decode bChk 2 = .ok (.getstatic 1053, 3) := by decide +kernel
theorem d_chk_5 : decode bChk 5 = .ok (.invokestatic 1059, 3) := by decide +kernel
theorem d_chk_8 : decode bChk 8 = .ok (.pop, 1) := by decide +kernel
theorem d_chk_9 : decode bChk 9 = .ok (.return_, 1) := by decide +kernel
theorem d_lca_0 : decode bLcA 0 = .ok (.iload_n 1, 1) := by decide +kernel
theorem d_lca_1 : decode bLcA 1 = .ok (.aload_n 0, 1) := by decide +kernel
theorem d_lca_2 : decode bLcA 2 = .ok (.arraylength, 1) := by decide +kernel
theorem d_lca_3 : decode bLcA 3 = .ok (.invokestatic 9, 3) := by decide +kernel
theorem d_lca_6 : decode bLcA 6 = .ok (.aload_n 0, 1) := by decide +kernel
theorem d_lca_7 : decode bLcA 7 = .ok (.iload_n 1, 1) := by decide +kernel
theorem d_lca_8 : decode bLcA 8 = .ok (.baload, 1) := by decide +kernel
theorem d_lca_9 : decode bLcA 9 = .ok (.sipush 255, 3) := by decide +kernel
theorem d_lca_12 : decode bLcA 12 = .ok (.iand, 1) := by decide +kernel
theorem d_lca_13 : decode bLcA 13 = .ok (.i2c, 1) := by decide +kernel
theorem d_lca_14 : decode bLcA 14 = .ok (.ireturn, 1) := by decide +kernel
theorem d_cha_0 : decode bChA 0 = .ok (.aload_n 0, 1) := by decide +kernel
theorem d_cha_1 : decode bChA 1 = .ok (.invokevirtual 492, 3) := by decide +kernel
theorem d_cha_4 : decode bChA 4 = .ok (.ifCond .eq 12, 3) := by decide +kernel
theorem d_cha_7 : decode bChA 7 = .ok (.aload_n 0, 1) := by decide +kernel
theorem d_cha_8 : decode bChA 8 = .ok (.getfield 9, 3) := by decide +kernel
theorem d_cha_11 : decode bChA 11 = .ok (.iload_n 1, 1) := by decide +kernel
theorem d_cha_12 : decode bChA 12 = .ok (.invokestatic 495, 3) := by decide +kernel
theorem d_cha_15 : decode bChA 15 = .ok (.ireturn, 1) := by decide +kernel
/-- what these members read -/
def sj (bs : Nat) (sk sv : Nat → Nat) (U : State) (H : Heap) : Prop := vk_S 1 [105] [st_b] sk sv (fun q => bs ≤ q) U H ∧ va_Z "java/lang/String" "COMPACT_STRINGS" "Z" (.int 1) (fun q => bs ≤ q) U H ∧ va_Zq "jdk/internal/util/Preconditions" "SIOOBE_FORMATTER" "Ljava/util/function/BiFunction;" (fun q => bs ≤ q) U H
theorem sj_keep {bs : Nat} {sk sv : Nat → Nat} : zKeep bs (sj bs sk sv) := fun _ _ _ _ hW h hq => ⟨(vk_S.moved hW.alike h.1).kept hq, (va_Z.moved hW.alike h.2.1).kept hq, (va_Zq.moved hW.alike h.2.2).kept hq⟩
theorem sj_blind {bs : Nat} {sk sv : Nat → Nat} {av : List Value} : FrameBlind (va_Pc av (fun U => sj bs sk sv U U.heap)) := fun a U g mk q => ⟨q.1, sj_keep U (U.calling g mk a) U.heap U.heap (State.WarmedH.refl U) q.2 (fun _ _ _ => rfl)⟩
theorem jc_good {w : Cond} {ws : List Cond} (hw : w ∈ zGW) (h : ∀ x ∈ ws, x = w ∨ x ∈ zGW) : GoodIn zGW ws := zGW_good (fun x hx => (h x hx).elim (fun e => e ▸ hw) id)
theorem jc {R : Room} {s : State} {args : Array Value} {own : String} {idx maxL n : Nat} {y : MethodName} {bytes : ByteArray} {ret : Option FieldType} {rm : Room} (hts : ∀ w ∈ zGW, w.before args s = true) (hlink : Cond.methodLink own idx y ∈ zGW) (hini : Cond.initialized y.cls ∈ zGW) (hcode : Cond.code y bytes maxL ret ∈ zGW)
    (hd : y.cls ≠ "java/lang/invoke/MethodHandle" ∧ y.cls ≠ "java/lang/invoke/VarHandle" ∧ (parseMethodDescriptor y.desc).map (fun d => d.parameters.length) = some n) (hR : rm.frames + 1 ≤ R.frames ∧ 8 + (maxL + 11) + rm.locals ≤ R.locals) (hc : rm.cells = 0) (hs : rm.slots = 0) :
    CallB R s args own idx y bytes maxL ret (Cond.code y bytes maxL ret :: zGW) rm 0 0 n :=
  callB_of n hts (jc_good hcode (fun _ hx => List.mem_cons.mp hx)) rfl hc hs (hts _ hini) (hts _ hlink) hd hR
theorem jv {U : State} {H : Heap} {b : Nat} {bs : Nat} {sk sv : Nat → Nat} (h : sj bs sk sv U H) (i : Nat) (hi : i < 1) (hb : b = sk i) : ∃ cellB : Cell, H[b]? = some cellB ∧ cellB.vm.isStatics = false ∧ U.vm.findClass "java/lang/String" = some cellB.cls := by
  subst hb
  obtain ⟨cell, h1, h2, h3, -⟩ := (h.1.1 i hi).1
  exact ⟨cell, h1, h2, h3⟩
set_option maxHeartbeats 2000000 in
theorem sj_coder (l : Launch) {bs : Nat} {sk sv : Nat → Nat} : Met l yCod (Cond.code yCod bCod 1 (some .byte) :: zGW) { frames := 0, cells := 0, slots := 0, locals := 0 } (va_Pc [.ref (sk 0)] (fun U => sj bs sk sv U U.heap)) (QcRead 0) 0 0 (fun _ => False) := by
  refine Met.ofW (cc := bCod) (maxL := 1) (ret := some .byte) (by decide) rfl ?_
  intro p e s m args below meth c s₁ B hml hv
  obtain ⟨rfl, hJ⟩ := hv
  have hx := B.exec
  have hb := B.bytes
  have hr := B.returns
  have hts := atoms_spec (ws := Cond.code yCod bCod 1 (some .byte) :: zGW) B.pre
  have hown : s.vm.findClass "java/lang/String" = some m.cls := findClass_of_methodNamed B.named
  have hlocks := B.notSynchronized
  have hS : va_S (fun q => bs ≤ q) s.heap s.heap [] := va_S.rf
  have hl := lv_entry ([.ref (sk 0)]) (n := 1) (Nat.le_of_ble_eq_true rfl)
  rw [lg_entry_eq]
  generalize (lg_sl ([.ref (sk 0)]) ++ List.replicate (1 - (lg_sl ([.ref (sk 0)])).length) Slot.unset).toArray = ls at hl ⊢
  have hl : lv_has ls 1 [(0, .ref (sk 0))] := hl
  refine va_gets hx hb hJ.2.1 hS hown (hts _ (List.mem_cons_of_mem _ gw_52)) (fun _ h => h) d_cod_0 ?_
  refine lv_if_eq (tgt := 13) hx hb d_cod_3 rfl (fun q => absurd q (by decide)) (fun _ => ?_)
  refine lv_aload_n hx hb d_cod_6 rfl (lv_at hl 0 rfl) ?_
  refine vk_getf hx hb (hJ.1.1 0 (by decide)).2.1 hS hown (hts _ (List.mem_cons_of_mem _ gw_1916)) (fun _ h => h) d_cod_7 ?_
  refine lv_goto (tgt := 14) hx hb d_cod_10 rfl ?_
  exact W.zret (v := 0) (ty := .byte) hx hb hr (by decide) (fun t ht hW => ⟨rfl, ht⟩) (fun _ h => nomatch h) d_cod_14
set_option maxHeartbeats 2000000 in
theorem sj_lat (l : Launch) {bs : Nat} {sk sv : Nat → Nat} : Met l yLat (Cond.code yLat bLat 1 (some .boolean) :: zGW) { frames := 0, cells := 0, slots := 0, locals := 0 } (va_Pc [.ref (sk 0)] (fun U => sj bs sk sv U U.heap)) (QcRead 1) 0 0 (fun _ => False) := by
  refine Met.ofW (cc := bLat) (maxL := 1) (ret := some .boolean) (by decide) rfl ?_
  intro p e s m args below meth c s₁ B hml hv
  obtain ⟨rfl, hJ⟩ := hv
  have hx := B.exec
  have hb := B.bytes
  have hr := B.returns
  have hts := atoms_spec (ws := Cond.code yLat bLat 1 (some .boolean) :: zGW) B.pre
  have hown : s.vm.findClass "java/lang/String" = some m.cls := findClass_of_methodNamed B.named
  have hlocks := B.notSynchronized
  have hS : va_S (fun q => bs ≤ q) s.heap s.heap [] := va_S.rf
  have hl := lv_entry ([.ref (sk 0)]) (n := 1) (Nat.le_of_ble_eq_true rfl)
  rw [lg_entry_eq]
  generalize (lg_sl ([.ref (sk 0)]) ++ List.replicate (1 - (lg_sl ([.ref (sk 0)])).length) Slot.unset).toArray = ls at hl ⊢
  have hl : lv_has ls 1 [(0, .ref (sk 0))] := hl
  refine va_gets hx hb hJ.2.1 hS hown (hts _ (List.mem_cons_of_mem _ gw_52)) (fun _ h => h) d_lat_0 ?_
  refine lv_if_eq (tgt := 17) hx hb d_lat_3 rfl (fun q => absurd q (by decide)) (fun _ => ?_)
  refine lv_aload_n hx hb d_lat_6 rfl (lv_at hl 0 rfl) ?_
  refine vk_getf hx hb (hJ.1.1 0 (by decide)).2.1 hS hown (hts _ (List.mem_cons_of_mem _ gw_1916)) (fun _ h => h) d_lat_7 ?_
  refine lv_if_ne (tgt := 17) hx hb d_lat_10 rfl (fun q => absurd rfl q) (fun _ => ?_)
  refine lv_iconst (v := 1) hx hb d_lat_13 rfl ?_
  refine lv_goto (tgt := 18) hx hb d_lat_14 rfl ?_
  exact W.zret (v := 1) (ty := .boolean) hx hb hr (by decide) (fun t ht hW => ⟨rfl, ht⟩) (fun _ h => nomatch h) d_lat_18
set_option maxHeartbeats 2000000 in
theorem sj_pre (l : Launch) {i n : Int32} {fv : Value} (h0 : ¬ i < 0) (h1 : i < n) (hfv : fv = .null ∨ ∃ q : Nat, fv = .ref q) : Met l yPre (Cond.code yPre bPre 3 (some .int) :: zGW) { frames := 0, cells := 0, slots := 0, locals := 0 } (va_Pc [.int i, .int n, fv] (fun _ => True)) (QcRead i) 0 0 (fun _ => False) := by
  refine Met.ofW (cc := bPre) (maxL := 3) (ret := some .int) (by decide) rfl ?_
  intro p e s m args below meth c s₁ B hml hv
  obtain ⟨rfl, -⟩ := hv
  have hx := B.exec
  have hb := B.bytes
  have hr := B.returns
  have hlocks := B.notSynchronized
  have hlen : (lg_sl ([.int i, .int n, fv])).length ≤ 3 := by
    rcases hfv with rfl | ⟨q, rfl⟩
    · exact Nat.le_of_ble_eq_true rfl
    · exact Nat.le_of_ble_eq_true rfl
  have hl := lv_entry ([.int i, .int n, fv]) (n := 3) hlen
  rw [lg_entry_eq]
  generalize (lg_sl ([.int i, .int n, fv]) ++ List.replicate (3 - (lg_sl ([.int i, .int n, fv])).length) Slot.unset).toArray = ls at hl ⊢
  have hl : lv_has ls 3 [(0, .int i), (1, .int n)] := by
    refine lv_sub hl [0, 1] ?_
    rcases hfv with rfl | ⟨q, rfl⟩
    · rfl
    · rfl
  refine lv_iload_n hx hb d_pre_0 rfl (lv_at hl 0 rfl) ?_
  refine lv_if_lt (tgt := 9) hx hb d_pre_1 rfl (fun q => absurd q h0) (fun _ => ?_)
  refine lv_iload_n hx hb d_pre_4 rfl (lv_at hl 0 rfl) ?_
  refine lv_iload_n hx hb d_pre_5 rfl (lv_at hl 1 rfl) ?_
  refine lv_icmp_lt (tgt := 16) hx hb d_pre_6 rfl (fun _ => ?_) (fun q => absurd h1 q)
  refine lv_iload_n hx hb d_pre_16 rfl (lv_at hl 0 rfl) ?_
  exact W.iret (v := i) hx hb hr (fun t ht hW => ⟨rfl, ht⟩) (fun _ h => nomatch h) d_pre_17
set_option maxHeartbeats 2000000 in
theorem sj_chk (l : Launch) {bs : Nat} {sk sv : Nat → Nat} {i n : Int32} (h0 : ¬ i < 0) (h1 : i < n) : Met l yChk (Cond.code yChk bChk 2 none :: zGW) { frames := 1, cells := 0, slots := 0, locals := 22 } (va_Pc [.int i, .int n] (fun U => sj bs sk sv U U.heap)) (va_Sv (fun _ => True)) 0 0 (fun _ => False) := by
  refine Met.ofW (cc := bChk) (maxL := 2) (ret := none) (by decide) rfl ?_
  intro p e s m args below meth c s₁ B hml hv
  obtain ⟨rfl, hJ⟩ := hv
  have hx := B.exec
  have hb := B.bytes
  have hr := B.returns
  have hts := atoms_spec (ws := Cond.code yChk bChk 2 none :: zGW) B.pre
  have hts2 : ∀ w ∈ zGW, w.before (([.int i, .int n] : List Value).toArray) s = true := fun w hw => hts w (List.mem_cons_of_mem _ hw)
  have hown : s.vm.findClass "java/lang/String" = some m.cls := findClass_of_methodNamed B.named
  have hlocks := B.notSynchronized
  have hS : va_S (fun q => bs ≤ q) s.heap s.heap [] := va_S.rf
  have hl := lv_entry ([.int i, .int n]) (n := 2) (Nat.le_of_ble_eq_true rfl)
  rw [lg_entry_eq]
  generalize (lg_sl ([.int i, .int n]) ++ List.replicate (2 - (lg_sl ([.int i, .int n])).length) Slot.unset).toArray = ls at hl ⊢
  have hl : lv_has ls 2 [(0, .int i), (1, .int n)] := hl
  refine lv_iload_n hx hb d_chk_0 rfl (lv_at hl 0 rfl) ?_
  refine lv_iload_n hx hb d_chk_1 rfl (lv_at hl 1 rfl) ?_
  have key : ∀ fv : Value, (fv = .null ∨ ∃ q : Nat, fv = .ref q) → va_Z "jdk/internal/util/Preconditions" "SIOOBE_FORMATTER" "Ljava/util/function/BiFunction;" fv (fun q => bs ≤ q) s s.heap → W p l e (headSpec (Cond.code yChk bChk 2 none :: zGW) { frames := 1, cells := 0, slots := 0, locals := 22 }).room s m (([.int i, .int n] : List Value).toArray) below meth c s.heap [] 0 0 (MQ below (va_Sv (fun _ => True)) (([.int i, .int n] : List Value).toArray) s 0 0 (fun _ => False)) (F0 m 2 ls [.int n, .int i]) := by
    intro fv hfv hZ
    refine va_gets hx hb hZ hS hown (hts2 _ gw_68) (fun _ h => h) d_chk_2 ?_
    refine W.callR (r := i) (a := ([.int i, .int n, fv] : List Value).toArray) (W.runS (As := [.int i, .int n, fv]) (rest := []) ⟨hx, hb, hml, hown, hts2⟩ (sj_pre l h0 h1 hfv) ⟨jc (n := 3) hts2 gw_70 gw_5 gw_72 (by decide +kernel) ⟨Nat.le_of_ble_eq_true rfl, Nat.le_of_ble_eq_true rfl⟩ rfl rfl, hts2 _ gw_71⟩ ⟨fun a U g mk q => ⟨q.1, trivial⟩, fun U hU hW => ⟨rfl, trivial⟩⟩ rfl rfl hl.1 rfl (lv_room (Nat.le_of_ble_eq_true rfl)) d_chk_5 ⟨Nat.zero_le _, Nat.zero_le _⟩) ?_
    refine W.eq (g2 := F0 m 8 ls [.int i]) rfl ?_
    refine lv_pop hx hb d_chk_8 rfl ?_
    exact W.vret hx hb hr (fun t ht hW => ⟨rfl, trivial, ht⟩) (fun _ h => nomatch h) d_chk_9
  rcases hJ.2.2 with h | ⟨q, h⟩
  · exact key _ (Or.inl rfl) h
  · exact key _ (Or.inr ⟨q, rfl⟩) h
theorem st_char {k : Nat} (hk : k < 105) : (((st_b.getD k 0) &&& 255).toUInt32 % 65536).toInt32 = st_b.getD k 0 ∧ narrow .char (.int (st_b.getD k 0)) = .int (st_b.getD k 0) := by
  have h : (List.range 105).all (fun k => decide ((((st_b.getD k 0) &&& 255).toUInt32 % 65536).toInt32 = st_b.getD k 0) && decide (narrow .char (.int (st_b.getD k 0)) = .int (st_b.getD k 0))) = true := by decide +kernel
  have h1 := List.all_eq_true.mp h k (List.mem_range.mpr hk)
  rw [Bool.and_eq_true, decide_eq_true_eq, decide_eq_true_eq] at h1
  exact h1
theorem st_k {k : Nat} (hk : k < 105) : ¬ Int32.ofNat k < 0 ∧ Int32.ofNat k < 105 ∧ (Int32.ofNat k).toNatClampNeg = k ∧ vp_in (Int32.ofNat k) 105 := by
  have h : (List.range 105).all (fun k => decide (¬ Int32.ofNat k < 0) && (decide (Int32.ofNat k < 105) && (decide ((Int32.ofNat k).toNatClampNeg = k) && decide (¬ (Int32.ofNat k < 0 ∨ 105 ≤ (Int32.ofNat k).toNatClampNeg))))) = true := by decide +kernel
  have h1 := List.all_eq_true.mp h k (List.mem_range.mpr hk)
  rw [Bool.and_eq_true, Bool.and_eq_true, Bool.and_eq_true, decide_eq_true_eq, decide_eq_true_eq, decide_eq_true_eq, decide_eq_true_eq] at h1
  exact ⟨h1.1, h1.2.1, h1.2.2.1, h1.2.2.2⟩
set_option maxHeartbeats 2000000 in
theorem sj_lca (l : Launch) {bs : Nat} {sk sv : Nat → Nat} {k : Nat} (hk : k < 105) : Met l yLcA (Cond.code yLcA bLcA 2 (some .char) :: zGW) { frames := 2, cells := 0, slots := 0, locals := 43 } (va_Pc [.ref (sv 0), .int (Int32.ofNat k)] (fun U => sj bs sk sv U U.heap)) (QcRead (st_b.getD k 0)) 0 0 (fun _ => False) := by
  obtain ⟨k1, k2, k3, k4⟩ := st_k hk
  refine Met.ofW (cc := bLcA) (maxL := 2) (ret := some .char) (by decide) rfl ?_
  intro p e s m args below meth c s₁ B hml hv
  obtain ⟨rfl, hJ⟩ := hv
  have hx := B.exec
  have hb := B.bytes
  have hr := B.returns
  have hts := atoms_spec (ws := Cond.code yLcA bLcA 2 (some .char) :: zGW) B.pre
  have hts2 : ∀ w ∈ zGW, w.before (([.ref (sv 0), .int (Int32.ofNat k)] : List Value).toArray) s = true := fun w hw => hts w (List.mem_cons_of_mem _ hw)
  have hown : s.vm.findClass "java/lang/StringLatin1" = some m.cls := findClass_of_methodNamed B.named
  have hlocks := B.notSynchronized
  have hS : va_S (fun q => bs ≤ q) s.heap s.heap [] := va_S.rf
  have hl := lv_entry ([.ref (sv 0), .int (Int32.ofNat k)]) (n := 2) (Nat.le_of_ble_eq_true rfl)
  rw [lg_entry_eq]
  generalize (lg_sl ([.ref (sv 0), .int (Int32.ofNat k)]) ++ List.replicate (2 - (lg_sl ([.ref (sv 0), .int (Int32.ofNat k)])).length) Slot.unset).toArray = ls at hl ⊢
  have hl : lv_has ls 2 [(0, .ref (sv 0)), (1, .int (Int32.ofNat k))] := hl
  have hT := (hJ.1.1 0 (by decide)).2.2.2
  refine lv_iload_n hx hb d_lca_0 rfl (lv_at hl 1 rfl) ?_
  refine lv_aload_n hx hb d_lca_1 rfl (lv_at hl 0 rfl) ?_
  refine va_tlen (v := 105) hx hb hT hS rfl d_lca_2 ?_
  refine va_csv (post := fun _ => True) (a := ([.int (Int32.ofNat k), .int 105] : List Value).toArray) (W.runS (As := [.int (Int32.ofNat k), .int 105]) (rest := []) ⟨hx, hb, hml, hown, hts2⟩ (sj_chk l (bs := bs) (sk := sk) (sv := sv) k1 k2) ⟨jc (n := 2) hts2 gw_65 gw_3 gw_67 (by decide +kernel) ⟨Nat.le_of_ble_eq_true rfl, Nat.le_of_ble_eq_true rfl⟩ rfl rfl, hts2 _ gw_66⟩ ⟨sj_blind, fun U hU hW => ⟨rfl, sj_keep s U s.heap U.heap hW hJ (fun a _ _ => by rw [hU])⟩⟩ rfl rfl hl.1 rfl (lv_room (Nat.le_of_ble_eq_true rfl)) d_lca_3 ⟨Nat.zero_le _, Nat.zero_le _⟩) (fun _ => ?_)
  refine lv_aload_n hx hb d_lca_6 rfl (lv_at hl 0 rfl) ?_
  refine lv_iload_n hx hb d_lca_7 rfl (lv_at hl 1 rfl) ?_
  refine va_tb (v := .int (st_b.getD k 0)) hx hb hT hS k4 (by rw [k3]; rfl) d_lca_8 ?_
  refine lv_sipush (v := 255) hx hb d_lca_9 rfl ?_
  refine lv_iand hx hb d_lca_12 ?_
  refine lv_i2c (v := st_b.getD k 0) hx hb d_lca_13 (st_char hk).1 ?_
  exact W.zret (v := st_b.getD k 0) (ty := .char) hx hb hr (st_char hk).2 (fun t ht hW => ⟨rfl, ht⟩) (fun _ h => nomatch h) d_lca_14
set_option maxHeartbeats 2000000 in
theorem sj_cha (l : Launch) {bs : Nat} {sk sv : Nat → Nat} {k : Nat} (hk : k < 105) : Met l yChA (Cond.code yChA bChA 2 (some .char) :: zGW) { frames := 3, cells := 0, slots := 0, locals := 64 } (va_Pc [.ref (sk 0), .int (Int32.ofNat k)] (fun U => sj bs sk sv U U.heap)) (QcRead (st_b.getD k 0)) 0 0 (fun _ => False) := by
  refine Met.ofW (cc := bChA) (maxL := 2) (ret := some .char) (by decide) rfl ?_
  intro p e s m args below meth c s₁ B hml hv
  obtain ⟨rfl, hJ⟩ := hv
  have hx := B.exec
  have hb := B.bytes
  have hr := B.returns
  have hts := atoms_spec (ws := Cond.code yChA bChA 2 (some .char) :: zGW) B.pre
  have hts2 : ∀ w ∈ zGW, w.before (([.ref (sk 0), .int (Int32.ofNat k)] : List Value).toArray) s = true := fun w hw => hts w (List.mem_cons_of_mem _ hw)
  have hown : s.vm.findClass "java/lang/String" = some m.cls := findClass_of_methodNamed B.named
  have hlocks := B.notSynchronized
  have hS : va_S (fun q => bs ≤ q) s.heap s.heap [] := va_S.rf
  have hl := lv_entry ([.ref (sk 0), .int (Int32.ofNat k)]) (n := 2) (Nat.le_of_ble_eq_true rfl)
  rw [lg_entry_eq]
  generalize (lg_sl ([.ref (sk 0), .int (Int32.ofNat k)]) ++ List.replicate (2 - (lg_sl ([.ref (sk 0), .int (Int32.ofNat k)])).length) Slot.unset).toArray = ls at hl ⊢
  have hl : lv_has ls 2 [(0, .ref (sk 0)), (1, .int (Int32.ofNat k))] := hl
  refine lv_aload_n hx hb d_cha_0 rfl (lv_at hl 0 rfl) ?_
  refine W.callR (r := 1) (a := ([.ref (sk 0)] : List Value).toArray) (W.runV (C := "java/lang/String") (As := []) (rest := []) ⟨hx, hb, hml, hown, hts2⟩ (sj_lat l (bs := bs) (sk := sk) (sv := sv)) ⟨jc (n := 0) hts2 gw_58 gw_3 gw_61 (by decide +kernel) ⟨Nat.le_of_ble_eq_true rfl, Nat.le_of_ble_eq_true rfl⟩ rfl rfl, hts2 _ gw_59, hts2 _ gw_60⟩ ⟨sj_blind, jv hJ 0 (by decide) rfl, fun U hU hW => ⟨rfl, sj_keep s U s.heap U.heap hW hJ (fun a _ _ => by rw [hU])⟩⟩ rfl rfl hl.1 rfl (lv_room (Nat.le_of_ble_eq_true rfl)) d_cha_1 ⟨Nat.zero_le _, Nat.zero_le _⟩) ?_
  refine W.eq (g2 := F0 m 4 ls [.int 1]) rfl ?_
  refine lv_if_eq (tgt := 16) hx hb d_cha_4 rfl (fun q => absurd q (by decide)) (fun _ => ?_)
  refine lv_aload_n hx hb d_cha_7 rfl (lv_at hl 0 rfl) ?_
  refine vk_getf hx hb (hJ.1.1 0 (by decide)).2.2.1 hS hown (hts2 _ gw_1915) (fun _ h => h) d_cha_8 ?_
  refine lv_iload_n hx hb d_cha_11 rfl (lv_at hl 1 rfl) ?_
  refine W.callR (r := st_b.getD k 0) (a := ([.ref (sv 0), .int (Int32.ofNat k)] : List Value).toArray) (W.runS (As := [.ref (sv 0), .int (Int32.ofNat k)]) (rest := []) ⟨hx, hb, hml, hown, hts2⟩ (sj_lca l (bs := bs) (sk := sk) (sv := sv) hk) ⟨jc (n := 2) hts2 gw_62 gw_4 gw_64 (by decide +kernel) ⟨Nat.le_of_ble_eq_true rfl, Nat.le_of_ble_eq_true rfl⟩ rfl rfl, hts2 _ gw_63⟩ ⟨sj_blind, fun U hU hW => ⟨rfl, sj_keep s U s.heap U.heap hW hJ (fun a _ _ => by rw [hU])⟩⟩ rfl rfl hl.1 rfl (lv_room (Nat.le_of_ble_eq_true rfl)) d_cha_12 ⟨Nat.zero_le _, Nat.zero_le _⟩) ?_
  exact W.zret (v := st_b.getD k 0) (ty := .char) hx hb hr (st_char hk).2 (fun t ht hW => ⟨rfl, ht⟩) (fun _ h => nomatch h) d_cha_15
set_option maxHeartbeats 2000000 in
theorem sj_len (l : Launch) {bs : Nat} {sk sv : Nat → Nat} : Met l yLen (Cond.code yLen bLen 1 (some .int) :: zGW) { frames := 1, cells := 0, slots := 0, locals := 20 } (va_Pc [.ref (sk 0)] (fun U => sj bs sk sv U U.heap)) (QcRead 105) 0 0 (fun _ => False) := by
  refine Met.ofW (cc := bLen) (maxL := 1) (ret := some .int) (by decide) rfl ?_
  intro p e s m args below meth c s₁ B hml hv
  obtain ⟨rfl, hJ⟩ := hv
  have hx := B.exec
  have hb := B.bytes
  have hr := B.returns
  have hts := atoms_spec (ws := Cond.code yLen bLen 1 (some .int) :: zGW) B.pre
  have hts2 : ∀ w ∈ zGW, w.before (([.ref (sk 0)] : List Value).toArray) s = true := fun w hw => hts w (List.mem_cons_of_mem _ hw)
  have hown : s.vm.findClass "java/lang/String" = some m.cls := findClass_of_methodNamed B.named
  have hlocks := B.notSynchronized
  have hS : va_S (fun q => bs ≤ q) s.heap s.heap [] := va_S.rf
  have hl := lv_entry ([.ref (sk 0)]) (n := 1) (Nat.le_of_ble_eq_true rfl)
  rw [lg_entry_eq]
  generalize (lg_sl ([.ref (sk 0)]) ++ List.replicate (1 - (lg_sl ([.ref (sk 0)])).length) Slot.unset).toArray = ls at hl ⊢
  have hl : lv_has ls 1 [(0, .ref (sk 0))] := hl
  have hT := (hJ.1.1 0 (by decide)).2.2.2
  refine lv_aload_n hx hb d_len_0 rfl (lv_at hl 0 rfl) ?_
  refine vk_getf hx hb (hJ.1.1 0 (by decide)).2.2.1 hS hown (hts2 _ gw_1915) (fun _ h => h) d_len_1 ?_
  refine va_tlen (v := 105) hx hb hT hS rfl d_len_4 ?_
  refine lv_aload_n hx hb d_len_5 rfl (lv_at hl 0 rfl) ?_
  refine W.callR (r := 0) (a := ([.ref (sk 0)] : List Value).toArray) (W.runV (C := "java/lang/String") (As := []) (rest := [.int 105]) ⟨hx, hb, hml, hown, hts2⟩ (sj_coder l (bs := bs) (sk := sk) (sv := sv)) ⟨jc (n := 0) hts2 gw_48 gw_3 gw_51 (by decide +kernel) ⟨Nat.le_of_ble_eq_true rfl, Nat.le_of_ble_eq_true rfl⟩ rfl rfl, hts2 _ gw_49, hts2 _ gw_50⟩ ⟨sj_blind, jv hJ 0 (by decide) rfl, fun U hU hW => ⟨rfl, sj_keep s U s.heap U.heap hW hJ (fun a _ _ => by rw [hU])⟩⟩ rfl rfl hl.1 rfl (lv_room (Nat.le_of_ble_eq_true rfl)) d_len_6 ⟨Nat.zero_le _, Nat.zero_le _⟩) ?_
  refine W.eq (g2 := F0 m 9 ls [.int 0, .int 105]) rfl ?_
  refine lv_ishr hx hb d_len_9 ?_
  refine lv_topi (fun r er => ?_)
  have er : r = 105 := by rw [er]; decide
  subst er
  exact W.iret (v := 105) hx hb hr (fun t ht hW => ⟨rfl, ht⟩) (fun _ h => nomatch h) d_len_10
end
section
/-! Reader.packKeywords: the words of the text, packed. -/
def pkT : List (Nat × Int64) := [(0, 0), (0, 12), (0, 385), (0, 12334), (0, 394692), (1, 0), (1, 3), (1, 108), (1, 3465), (1, 110886), (1, 3548358), (2, 0), (2, 16), (2, 517), (2, 16562), (2, 530003), (2, 16960111), (2, 542723566), (3, 0), (3, 13), (3, 431), (3, 13814), (3, 442053), (4, 0), (4, 3), (4, 97), (4, 3117), (4, 99760), (5, 0), (5, 6), (5, 197), (5, 6316), (5, 202132), (6, 0), (6, 19), (6, 622), (6, 19919), (6, 637431), (7, 0), (7, 15), (7, 503), (7, 16110), (7, 515539), (8, 0), (8, 19), (8, 609), (8, 19497), (8, 623908), (9, 0), (9, 8), (9, 261), (9, 8353), (9, 267314), (9, 8554052), (10, 0), (10, 15), (10, 498), (11, 0), (11, 1), (11, 46), (11, 1476), (12, 0), (12, 14), (12, 463), (12, 14836), (13, 0), (13, 12), (13, 399), (13, 12787), (13, 409204), (14, 0), (14, 10), (14, 335), (14, 10729), (14, 343342), (14, 10986964), (15, 0), (15, 15), (15, 486), (16, 0), (16, 2), (16, 89), (17, 0), (17, 23), (17, 751), (17, 24050), (17, 769620), (17, 24627848), (18, 0), (18, 12), (18, 399), (18, 12789), (18, 409252), (19, 0), (19, 8), (19, 271), (19, 8693), (19, 278194), (20, 0), (20, 5), (20, 163), (20, 5224), (20, 167183), (20, 5349861), (20, 171195571), (21, 0)]
theorem d_pk_0 : decode prog_7_method_2_code 0 = .ok (.bipush 21, 2) := by decide +kernel
theorem d_pk_2 : decode prog_7_method_2_code 2 = .ok (.newarray .long, 2) := by decide +kernel
theorem d_pk_4 : decode prog_7_method_2_code 4 = .ok (.astore_n 0, 1) := by decide +kernel
theorem d_pk_5 : decode prog_7_method_2_code 5 = .ok (.iconst 0, 1) := by decide +kernel
theorem d_pk_6 : decode prog_7_method_2_code 6 = .ok (.istore_n 1, 1) := by decide +kernel
theorem d_pk_7 : decode prog_7_method_2_code 7 = .ok (.lconst 0, 1) := by decide +kernel
theorem d_pk_8 : decode prog_7_method_2_code 8 = .ok (.lstore_n 2, 1) := by decide +kernel
theorem d_pk_9 : decode prog_7_method_2_code 9 = .ok (.iconst 0, 1) := by decide +kernel
theorem d_pk_10 : decode prog_7_method_2_code 10 = .ok (.istore 4, 2) := by decide +kernel
theorem d_pk_12 : decode prog_7_method_2_code 12 = .ok (.iload 4, 2) := by decide +kernel
theorem d_pk_14 : decode prog_7_method_2_code 14 = .ok (.ldc 23, 2) := by decide +kernel
theorem d_pk_16 : decode prog_7_method_2_code 16 = .ok (.invokevirtual 25, 3) := by decide +kernel
theorem d_pk_19 : decode prog_7_method_2_code 19 = .ok (.if_icmp .ge 51, 3) := by decide +kernel
theorem d_pk_22 : decode prog_7_method_2_code 22 = .ok (.iload_n 1, 1) := by decide +kernel
theorem d_pk_23 : decode prog_7_method_2_code 23 = .ok (.bipush 21, 2) := by decide +kernel
theorem d_pk_25 : decode prog_7_method_2_code 25 = .ok (.if_icmp .ge 45, 3) := by decide +kernel
theorem d_pk_28 : decode prog_7_method_2_code 28 = .ok (.ldc 23, 2) := by decide +kernel
theorem d_pk_30 : decode prog_7_method_2_code 30 = .ok (.iload 4, 2) := by decide +kernel
theorem d_pk_32 : decode prog_7_method_2_code 32 = .ok (.invokevirtual 31, 3) := by decide +kernel
theorem d_pk_35 : decode prog_7_method_2_code 35 = .ok (.bipush 32, 2) := by decide +kernel
theorem d_pk_37 : decode prog_7_method_2_code 37 = .ok (.if_icmp .ne 15, 3) := by decide +kernel
theorem d_pk_40 : decode prog_7_method_2_code 40 = .ok (.aload_n 0, 1) := by decide +kernel
theorem d_pk_41 : decode prog_7_method_2_code 41 = .ok (.iload_n 1, 1) := by decide +kernel
theorem d_pk_42 : decode prog_7_method_2_code 42 = .ok (.lload_n 2, 1) := by decide +kernel
theorem d_pk_43 : decode prog_7_method_2_code 43 = .ok (.lastore, 1) := by decide +kernel
theorem d_pk_44 : decode prog_7_method_2_code 44 = .ok (.iinc 1 1, 3) := by decide +kernel
theorem d_pk_47 : decode prog_7_method_2_code 47 = .ok (.lconst 0, 1) := by decide +kernel
theorem d_pk_48 : decode prog_7_method_2_code 48 = .ok (.lstore_n 2, 1) := by decide +kernel
theorem d_pk_49 : decode prog_7_method_2_code 49 = .ok (.goto 15, 3) := by decide +kernel
theorem d_pk_52 : decode prog_7_method_2_code 52 = .ok (.lload_n 2, 1) := by decide +kernel
theorem d_pk_53 : decode prog_7_method_2_code 53 = .ok (.ldc 23, 2) := by decide +kernel
theorem d_pk_55 : decode prog_7_method_2_code 55 = .ok (.iload 4, 2) := by decide +kernel
theorem d_pk_57 : decode prog_7_method_2_code 57 = .ok (.invokevirtual 31, 3) := by decide +kernel
theorem d_pk_60 : decode prog_7_method_2_code 60 = .ok (.invokestatic 35, 3) := by decide +kernel
theorem d_pk_63 : decode prog_7_method_2_code 63 = .ok (.lstore_n 2, 1) := by decide +kernel
theorem d_pk_64 : decode prog_7_method_2_code 64 = .ok (.iinc 4 1, 3) := by decide +kernel
theorem d_pk_67 : decode prog_7_method_2_code 67 = .ok (.goto (-55), 3) := by decide +kernel
theorem d_pk_70 : decode prog_7_method_2_code 70 = .ok (.aload_n 0, 1) := by decide +kernel
theorem d_pk_71 : decode prog_7_method_2_code 71 = .ok (.areturn, 1) := by decide +kernel
theorem d_wl_0 : decode prog_7_method_3_code 0 = .ok (.lload_n 0, 1) := by decide +kernel
theorem d_wl_1 : decode prog_7_method_3_code 1 = .ok (.iconst 5, 1) := by decide +kernel
theorem d_wl_2 : decode prog_7_method_3_code 2 = .ok (.lshl, 1) := by decide +kernel
theorem d_wl_3 : decode prog_7_method_3_code 3 = .ok (.iload_n 2, 1) := by decide +kernel
theorem d_wl_4 : decode prog_7_method_3_code 4 = .ok (.bipush 97, 2) := by decide +kernel
theorem d_wl_6 : decode prog_7_method_3_code 6 = .ok (.isub, 1) := by decide +kernel
theorem d_wl_7 : decode prog_7_method_3_code 7 = .ok (.iconst 1, 1) := by decide +kernel
theorem d_wl_8 : decode prog_7_method_3_code 8 = .ok (.iadd, 1) := by decide +kernel
theorem d_wl_9 : decode prog_7_method_3_code 9 = .ok (.i2l, 1) := by decide +kernel
theorem d_wl_10 : decode prog_7_method_3_code 10 = .ok (.lor, 1) := by decide +kernel
theorem d_wl_11 : decode prog_7_method_3_code 11 = .ok (.lreturn, 1) := by decide +kernel
def pkn (k : Nat) : Nat := (pkT.getD k (0, 0)).1
def pka (k : Nat) : Int64 := (pkT.getD k (0, 0)).2
def pkg (j : Nat) : Int64 := Int64.ofInt (kwf j)
def pkL (a : Int64) (c : Int32) : Int64 := (a <<< ((5 : Int32).toInt64 &&& 63)) ||| (c - 97 + 1).toInt64
def pkf (n : Nat) : Nat → Int64 := fun j => if j < n then pkg j else 0
def pkc (k : Nat) : Bool := Nat.blt (pkn k) 21 && (match decide (st_b.getD k 0 = 32) with
  | true => Nat.beq (pkn (k + 1)) (pkn k + 1) && (decide (pka (k + 1) = 0) && decide (pka k = pkg (pkn k)))
  | false => Nat.beq (pkn (k + 1)) (pkn k) && decide (pka (k + 1) = pkL (pka k) (st_b.getD k 0)))
theorem kq_ok : (List.range 105).all pkc = true := by decide +kernel
theorem kq_end : pkn 105 = 21 ∧ pkn 0 = 0 ∧ pka 0 = 0 := by decide +kernel
theorem kq_rng : (List.range 21).all (fun j => decide (-9223372036854775808 ≤ kwf j) && decide (kwf j < 9223372036854775808)) = true := by decide +kernel
theorem kq_inc {k : Nat} (hk : k < 105) : Int32.ofNat k + Int32.ofInt 1 = Int32.ofNat (k + 1) := by
  have h : (List.range 105).all (fun k => decide (Int32.ofNat k + Int32.ofInt 1 = Int32.ofNat (k + 1))) = true := by decide +kernel
  exact of_decide_eq_true (List.all_eq_true.mp h k (List.mem_range.mpr hk))
theorem kq_lt {k : Nat} (hk : k < 105) : ¬ (105 : Int32) ≤ Int32.ofNat k := by
  have h : (List.range 105).all (fun k => decide (¬ (105 : Int32) ≤ Int32.ofNat k)) = true := by decide +kernel
  exact of_decide_eq_true (List.all_eq_true.mp h k (List.mem_range.mpr hk))
theorem kq_n {n : Nat} (hn : n < 21) : ¬ (21 : Int32) ≤ Int32.ofNat n ∧ vp_in (Int32.ofNat n) 21 ∧ (Int32.ofNat n).toNatClampNeg = n := by
  have h : (List.range 21).all (fun n => decide (¬ (21 : Int32) ≤ Int32.ofNat n) && (decide (¬ (Int32.ofNat n < 0 ∨ 21 ≤ (Int32.ofNat n).toNatClampNeg)) && decide ((Int32.ofNat n).toNatClampNeg = n))) = true := by decide +kernel
  have h1 := List.all_eq_true.mp h n (List.mem_range.mpr hn)
  rw [Bool.and_eq_true, Bool.and_eq_true, decide_eq_true_eq, decide_eq_true_eq, decide_eq_true_eq] at h1
  exact h1
theorem kq_up {n : Nat} : vp_updL (pkf n) n (pkg n) = pkf (n + 1) := by
  funext j
  unfold vp_updL pkf
  by_cases e : j = n
  · subst e
    rw [if_pos rfl, if_pos (Nat.lt_succ_self _)]
  · rw [if_neg e]
    by_cases q : j < n
    · rw [if_pos q, if_pos (by omega)]
    · rw [if_neg q, if_neg (by omega)]
theorem kq_fin : pkf 21 = fun j => Int64.ofInt (kwf j) := by
  funext j
  unfold pkf
  by_cases q : j < 21
  · rw [if_pos q]; rfl
  · rw [if_neg q]
    have e : kw (j : Int) = [] := by
      unfold kw
      rw [show ((j : Int)).toNat = j from by omega, List.getD_eq_getElem?_getD, List.getElem?_eq_none (by show 21 ≤ j; omega)]
      rfl
    unfold kwf
    rw [e]
    rfl
theorem gw_92 : Cond.methodLink "EchoVale$Reader" 35 ⟨"EchoVale$Reader", "withLetter", "(JI)J"⟩ ∈ zGW := zG_at (i := 92) (by decide +kernel) (by decide +kernel)
theorem gw_93 : Cond.static ⟨"EchoVale$Reader", "withLetter", "(JI)J"⟩ ∈ zGW := zG_at (i := 93) (by decide +kernel) (by decide +kernel)
theorem gw_94 : Cond.code ⟨"EchoVale$Reader", "withLetter", "(JI)J"⟩ prog_7_method_3_code 3 (some .long) ∈ zGW := zG_at (i := 94) (by decide +kernel) (by decide +kernel)
abbrev yWl : MethodName := ⟨"EchoVale$Reader", "withLetter", "(JI)J"⟩
set_option maxHeartbeats 2000000 in
theorem sj_wl (l : Launch) {a : Int64} {c0 : Int32} : Met l yWl (Cond.code yWl prog_7_method_3_code 3 (some .long) :: zGW) { frames := 0, cells := 0, slots := 0, locals := 0 } (va_Pc [.long a, .int c0] (fun _ => True)) (k2_QcV (.long (pkL a c0))) 0 0 (fun _ => False) := by
  refine Met.ofW (cc := prog_7_method_3_code) (maxL := 3) (ret := some .long) (by decide) rfl ?_
  intro p e s m args below meth c s₁ B hml hv
  obtain ⟨rfl, -⟩ := hv
  have hx := B.exec
  have hb := B.bytes
  have hr := B.returns
  have hlocks := B.notSynchronized
  have hl := lv_entry ([.long a, .int c0]) (n := 3) (Nat.le_of_ble_eq_true rfl)
  rw [lg_entry_eq]
  generalize (lg_sl ([.long a, .int c0]) ++ List.replicate (3 - (lg_sl ([.long a, .int c0])).length) Slot.unset).toArray = ls at hl ⊢
  have hl : lv_has ls 3 [(0, .long a), (2, .int c0)] := hl
  refine lv_lload_n hx hb d_wl_0 rfl (lv_at hl 0 rfl) ?_
  refine lv_iconst (v := 5) hx hb d_wl_1 rfl ?_
  refine lv_lshl (v := a <<< ((5 : Int32).toInt64 &&& 63)) hx hb d_wl_2 rfl ?_
  refine lv_iload_n hx hb d_wl_3 rfl (lv_at hl 1 rfl) ?_
  refine lv_bipush (v := 97) hx hb d_wl_4 rfl ?_
  refine lv_isub hx hb d_wl_6 ?_
  refine lv_iconst (v := 1) hx hb d_wl_7 rfl ?_
  refine lv_iadd hx hb d_wl_8 ?_
  refine lv_i2l (v := (c0 - 97 + 1).toInt64) hx hb d_wl_9 rfl ?_
  refine lv_lor hx hb d_wl_10 ?_
  exact W.lret (v := pkL a c0) hx hb hr (fun t ht hW => ⟨rfl, ht⟩) (fun _ h => nomatch h) d_wl_11
/-- words that the tables alone decide, of a throw, which aren't good ones -/
def kNG : List Cond := [.castable "java/util/NoSuchElementException" "java/util/NoSuchElementException", .declares (Bundle.initS "java/lang/RuntimeException"), .declares (Bundle.initS "java/lang/Exception"), .declares (Bundle.initS Bundle.tN)]
theorem kNG_warm {u U : State} (hW : u.WarmedH U.vm) (h : ∀ w ∈ kNG, va_Nw w u) : ∀ w ∈ kNG, va_Nw w U := by
  intro w hw
  have h1 := h w hw
  simp only [kNG, List.mem_cons, List.not_mem_nil, or_false] at hw
  rcases hw with rfl | rfl | rfl | rfl
  · exact va_Nw.warmC hW h1
  · exact va_Nw.warmD hW h1
  · exact va_Nw.warmD hW h1
  · exact va_Nw.warmD hW h1
/-- what is known of the old heap, all along -/
def KK (bs : Nat) (sk sv : Nat → Nat) (ac : Nat × Nat × Nat) (U : State) (H : Heap) : Prop := sj bs sk sv U H ∧ vk_R "EchoVale$Reader" 23 st_x (sk 0) U ∧ vk_R "EchoVale" 145 "no such cliff" ac.1 U ∧ vk_R "EchoVale" 175 "no such person" ac.2.1 U ∧ vk_R "EchoVale" 194 "no such saying" ac.2.2 U ∧ vx_Zq Bundle.tN "UNASSIGNED_STACK" Bundle.steD (fun q => bs ≤ q) U H ∧ vx_Zq Bundle.tN "SUPPRESSED_SENTINEL" Bundle.listD (fun q => bs ≤ q) U H ∧ ∀ w ∈ kNG, va_Nw w U
theorem KK_keep {bs : Nat} {sk sv : Nat → Nat} {ac : Nat × Nat × Nat} : zKeep bs (KK bs sk sv ac) := fun u U H H1 hW h hq => ⟨sj_keep u U H H1 hW h.1 hq, vk_R.warm hW h.2.1, vk_R.warm hW h.2.2.1, vk_R.warm hW h.2.2.2.1, vk_R.warm hW h.2.2.2.2.1, (vx_Zq.moved hW.alike h.2.2.2.2.2.1).kept hq, (vx_Zq.moved hW.alike h.2.2.2.2.2.2.1).kept hq, kNG_warm hW h.2.2.2.2.2.2.2⟩
section PK
variable {p : Program} {l : Launch} {e : Env} {R : Room} {s : State} {m : MethodId} {args : Array Value} {below : List Frame} {meth : Method} {c : Code} {Q : State → Prop}
variable {D : va_G} {A : Nat → Prop}
set_option maxHeartbeats 4000000 in
theorem kq_loop {bs : Nat} {sk sv : Nat → Nat} {q : Nat} {cA : ClassId} {ws : va_W} {tys : List (ClassId × FieldType)} (hRf : 8 ≤ R.frames) (hRl : 480 ≤ R.locals) (hRc : 1 ≤ R.cells) (hRs : 21 ≤ R.slots) (hx : p.tables.exec = Jvm.exec) (hb : c.code = prog_7_method_2_code) (hml : c.maxLocals = 5) (hown : s.vm.findClass "EchoVale$Reader" = some m.cls) (hts : ∀ w ∈ zGW, w.before args s = true)
    (hJ : sj bs sk sv s s.heap) (hR : vk_R "EchoVale$Reader" 23 st_x (sk 0) s) (hA : ∀ x, A x → bs ≤ x) (hK : va_K D vwCl (tys ++ [(cA, .long)]) s)
    (kk : ∀ (ls : Array Slot) (H : Heap) (locs : List Loc), lv_has ls 5 [(0, .ref q)] → va_P D vwCl (ws ++ [(q, .inl (cA, 21, .inr (.inl (pkf 21))))]) H → va_D A (ws ++ [(q, .inl (cA, 21, .inr (.inl (pkf 21))))]) → va_S A s.heap H locs → W p l e R s m args below meth c H locs 1 21 Q (F0 m 70 ls [])) :
    ∀ (n k : Nat) (ls : Array Slot) (H : Heap) (locs : List Loc), k + n = 105 → lv_has ls 5 [(4, .int (Int32.ofNat k)), (2, .long (pka k)), (1, .int (Int32.ofNat (pkn k))), (0, .ref q)] → va_P D vwCl (ws ++ [(q, .inl (cA, 21, .inr (.inl (pkf (pkn k)))))]) H → va_D A (ws ++ [(q, .inl (cA, 21, .inr (.inl (pkf (pkn k)))))]) → va_S A s.heap H locs → W p l e R s m args below meth c H locs 1 21 Q (F0 m 12 ls []) := by
  have hq0 : ∀ f : Nat → Int64, (ws ++ [((q, .inl (cA, 21, .inr (.inl f))) : Nat × va_E)])[ws.length]? = some (q, .inl (cA, 21, .inr (.inl f))) := fun f => by simp
  have ht0 : (tys ++ [(cA, FieldType.long)])[tys.length]? = some (cA, .long) := by simp
  have hset : ∀ f g : Nat → Int64, (ws ++ [((q, .inl (cA, 21, .inr (.inl f))) : Nat × va_E)]).set ws.length (q, .inl (cA, 21, .inr (.inl g))) = ws ++ [(q, .inl (cA, 21, .inr (.inl g)))] := fun f g => by simp
  intro n
  induction n with
  | zero =>
    intro k ls H locs hkn hl hP hD hS
    have hk : k = 105 := by omega
    subst hk
    have hJH : sj bs sk sv s H := sj_keep s s s.heap H (State.WarmedH.refl s) hJ (fun a ha hb => hS.2.1 a ha (fun z => hb (hA a z)))
    refine lv_iload hx hb d_pk_12 (lv_at hl 0 rfl) ?_
    refine va_ldcS hx hb hown hR d_pk_14 ?_
    refine W.callR (r := 105) (a := ([.ref (sk 0)] : List Value).toArray) (W.runV (C := "java/lang/String") (As := []) (rest := [.int (Int32.ofNat 105)]) ⟨hx, hb, hml, hown, hts⟩ (sj_len l (bs := bs) (sk := sk) (sv := sv)) ⟨jc (n := 0) hts gw_44 gw_3 gw_47 (by decide +kernel) ⟨by show 1 + 1 ≤ R.frames; omega, by show 8 + (1 + 11) + 20 ≤ R.locals; omega⟩ rfl rfl, hts _ gw_45, hts _ gw_46⟩ ⟨sj_blind, jv hJH 0 (by decide) rfl, fun U hU hW => ⟨rfl, sj_keep s U H U.heap hW hJH (fun a _ _ => by rw [hU])⟩⟩ rfl rfl hl.1 rfl (lv_room (Nat.le_of_ble_eq_true rfl)) d_pk_16 ⟨hRc, hRs⟩) ?_
    refine W.eq (g2 := F0 m 19 ls [.int 105, .int (Int32.ofNat 105)]) rfl ?_
    refine lv_icmp_ge (tgt := 70) hx hb d_pk_19 rfl (fun _ => ?_) (fun z => absurd (by decide) z)
    rw [kq_end.1] at hP hD
    exact kk ls H locs (lv_sub hl [3] rfl) hP hD hS
  | succ n ih =>
    intro k ls H locs hkn hl hP hD hS
    have hk : k < 105 := by omega
    have hc := List.all_eq_true.mp kq_ok k (List.mem_range.mpr hk)
    unfold pkc at hc
    rw [Bool.and_eq_true] at hc
    obtain ⟨c1, c2⟩ := hc
    have c1 : pkn k < 21 := Nat.le_of_ble_eq_true c1
    obtain ⟨n1, n2, n3⟩ := kq_n c1
    have hJH : sj bs sk sv s H := sj_keep s s s.heap H (State.WarmedH.refl s) hJ (fun a ha hb => hS.2.1 a ha (fun z => hb (hA a z)))
    refine lv_iload hx hb d_pk_12 (lv_at hl 0 rfl) ?_
    refine va_ldcS hx hb hown hR d_pk_14 ?_
    refine W.callR (r := 105) (a := ([.ref (sk 0)] : List Value).toArray) (W.runV (C := "java/lang/String") (As := []) (rest := [.int (Int32.ofNat k)]) ⟨hx, hb, hml, hown, hts⟩ (sj_len l (bs := bs) (sk := sk) (sv := sv)) ⟨jc (n := 0) hts gw_44 gw_3 gw_47 (by decide +kernel) ⟨by show 1 + 1 ≤ R.frames; omega, by show 8 + (1 + 11) + 20 ≤ R.locals; omega⟩ rfl rfl, hts _ gw_45, hts _ gw_46⟩ ⟨sj_blind, jv hJH 0 (by decide) rfl, fun U hU hW => ⟨rfl, sj_keep s U H U.heap hW hJH (fun a _ _ => by rw [hU])⟩⟩ rfl rfl hl.1 rfl (lv_room (Nat.le_of_ble_eq_true rfl)) d_pk_16 ⟨hRc, hRs⟩) ?_
    refine W.eq (g2 := F0 m 19 ls [.int 105, .int (Int32.ofNat k)]) rfl ?_
    refine lv_icmp_ge (tgt := 70) hx hb d_pk_19 rfl (fun z => absurd z (kq_lt hk)) (fun _ => ?_)
    refine lv_iload_n hx hb d_pk_22 rfl (lv_at hl 2 rfl) ?_
    refine lv_bipush (v := 21) hx hb d_pk_23 rfl ?_
    refine lv_icmp_ge (tgt := 70) hx hb d_pk_25 rfl (fun z => absurd z n1) (fun _ => ?_)
    refine va_ldcS hx hb hown hR d_pk_28 ?_
    refine lv_iload hx hb d_pk_30 (lv_at hl 0 rfl) ?_
    refine W.callR (r := st_b.getD k 0) (a := ([.ref (sk 0), .int (Int32.ofNat k)] : List Value).toArray) (W.runV (C := "java/lang/String") (As := [.int (Int32.ofNat k)]) (rest := []) ⟨hx, hb, hml, hown, hts⟩ (sj_cha l (bs := bs) (sk := sk) (sv := sv) hk) ⟨jc (n := 1) hts gw_54 gw_3 gw_57 (by decide +kernel) ⟨by show 3 + 1 ≤ R.frames; omega, by show 8 + (2 + 11) + 64 ≤ R.locals; omega⟩ rfl rfl, hts _ gw_55, hts _ gw_56⟩ ⟨sj_blind, jv hJH 0 (by decide) rfl, fun U hU hW => ⟨rfl, sj_keep s U H U.heap hW hJH (fun a _ _ => by rw [hU])⟩⟩ rfl rfl hl.1 rfl (lv_room (Nat.le_of_ble_eq_true rfl)) d_pk_32 ⟨hRc, hRs⟩) ?_
    refine W.eq (g2 := F0 m 35 ls [.int (st_b.getD k 0)]) rfl ?_
    refine lv_bipush (v := 32) hx hb d_pk_35 rfl ?_
    refine lv_icmp_ne (tgt := 52) hx hb d_pk_37 rfl (fun z => ?_) (fun z => ?_)
    · rw [decide_eq_false z] at c2
      dsimp only at c2
      rw [Bool.and_eq_true, decide_eq_true_eq] at c2
      obtain ⟨c3, c4⟩ := c2
      have c3 := Nat.eq_of_beq_eq_true c3
      refine lv_lload_n hx hb d_pk_52 rfl (lv_at hl 1 rfl) ?_
      refine va_ldcS hx hb hown hR d_pk_53 ?_
      refine lv_iload hx hb d_pk_55 (lv_at hl 0 rfl) ?_
      refine W.callR (r := st_b.getD k 0) (a := ([.ref (sk 0), .int (Int32.ofNat k)] : List Value).toArray) (W.runV (C := "java/lang/String") (As := [.int (Int32.ofNat k)]) (rest := [.long (pka k)]) ⟨hx, hb, hml, hown, hts⟩ (sj_cha l (bs := bs) (sk := sk) (sv := sv) hk) ⟨jc (n := 1) hts gw_54 gw_3 gw_57 (by decide +kernel) ⟨by show 3 + 1 ≤ R.frames; omega, by show 8 + (2 + 11) + 64 ≤ R.locals; omega⟩ rfl rfl, hts _ gw_55, hts _ gw_56⟩ ⟨sj_blind, jv hJH 0 (by decide) rfl, fun U hU hW => ⟨rfl, sj_keep s U H U.heap hW hJH (fun a _ _ => by rw [hU])⟩⟩ rfl rfl hl.1 rfl (lv_room (Nat.le_of_ble_eq_true rfl)) d_pk_57 ⟨hRc, hRs⟩) ?_
      refine W.eq (g2 := F0 m 60 ls [.int (st_b.getD k 0), .long (pka k)]) rfl ?_
      refine W.callV (r := .long (pkL (pka k) (st_b.getD k 0))) (a := ([.long (pka k), .int (st_b.getD k 0)] : List Value).toArray) (W.runS (As := [.long (pka k), .int (st_b.getD k 0)]) (rest := []) ⟨hx, hb, hml, hown, hts⟩ (sj_wl l) ⟨jc (n := 2) hts gw_92 gw_2 gw_94 (by decide +kernel) ⟨by show 0 + 1 ≤ R.frames; omega, by show 8 + (3 + 11) + 0 ≤ R.locals; omega⟩ rfl rfl, hts _ gw_93⟩ ⟨fun a U g mk q => ⟨q.1, trivial⟩, fun U hU hW => ⟨rfl, trivial⟩⟩ rfl rfl hl.1 rfl (lv_room (Nat.le_of_ble_eq_true rfl)) d_pk_60 ⟨hRc, hRs⟩) ?_
      refine W.eq (g2 := F0 m 63 ls [.long (pkL (pka k) (st_b.getD k 0))]) rfl ?_
      rw [← c4]
      refine lv_lstore_n (lv' := [(2, .long (pka (k + 1))), (4, .int (Int32.ofNat k)), (1, .int (Int32.ofNat (pkn k))), (0, .ref q)]) hx hb d_pk_63 rfl hl (by decide) rfl (fun ls1 hl1 => ?_)
      refine lv_iinc (k := 1) (v := Int32.ofNat (k + 1)) (lv' := [(4, .int (Int32.ofNat (k + 1))), (2, .long (pka (k + 1))), (1, .int (Int32.ofNat (pkn k))), (0, .ref q)]) hx hb d_pk_64 hl1 rfl (kq_inc hk) (by decide) rfl (fun ls2 hl2 => ?_)
      refine lv_goto (tgt := 12) hx hb d_pk_67 rfl ?_
      rw [← c3] at hl2 hP hD
      exact ih (k + 1) ls2 H locs (by omega) hl2 hP hD hS
    · rw [decide_eq_true z] at c2
      dsimp only at c2
      rw [Bool.and_eq_true, Bool.and_eq_true, decide_eq_true_eq, decide_eq_true_eq] at c2
      obtain ⟨c3, c4, c5⟩ := c2
      have c3 := Nat.eq_of_beq_eq_true c3
      refine lv_aload_n hx hb d_pk_40 rfl (lv_at hl 3 rfl) ?_
      refine lv_iload_n hx hb d_pk_41 rfl (lv_at hl 2 rfl) ?_
      refine lv_lload_n hx hb d_pk_42 rfl (lv_at hl 1 rfl) ?_
      refine va_last hx hb hK hP hD hS ws.length tys.length (hq0 _) ht0 n2 d_pk_43 (fun H1 locs1 hP1 hD1 hS1 => ?_)
      rw [hset, n3, c5, kq_up, ← c3] at hP1 hD1
      refine lv_iinc (k := 2) (v := Int32.ofNat (pkn (k + 1))) (lv' := [(1, .int (Int32.ofNat (pkn (k + 1)))), (4, .int (Int32.ofNat k)), (2, .long (pka k)), (0, .ref q)]) hx hb d_pk_44 hl rfl (by rw [c3]; exact kq_inc (by omega)) (by decide) rfl (fun ls1 hl1 => ?_)
      refine lv_lconst (v := 0) hx hb d_pk_47 rfl ?_
      rw [← c4]
      refine lv_lstore_n (lv' := [(2, .long (pka (k + 1))), (1, .int (Int32.ofNat (pkn (k + 1)))), (4, .int (Int32.ofNat k)), (0, .ref q)]) hx hb d_pk_48 rfl hl1 (by decide) rfl (fun ls2 hl2 => ?_)
      refine lv_goto (tgt := 64) hx hb d_pk_49 rfl ?_
      refine lv_iinc (k := 2) (v := Int32.ofNat (k + 1)) (lv' := [(4, .int (Int32.ofNat (k + 1))), (2, .long (pka (k + 1))), (1, .int (Int32.ofNat (pkn (k + 1)))), (0, .ref q)]) hx hb d_pk_64 hl2 rfl (kq_inc hk) (by decide) rfl (fun ls3 hl3 => ?_)
      refine lv_goto (tgt := 12) hx hb d_pk_67 rfl ?_
      exact ih (k + 1) ls3 H1 locs1 (by omega) hl3 hP1 hD1 hS1
end PK
theorem kq_zm : zmY 2 = ⟨"EchoVale$Reader", "packKeywords", "()[J"⟩ ∧ zmCode 2 = prog_7_method_2_code ∧ zmMax 2 = 5 ∧ zmRet 2 = some (.array .long) := by decide +kernel
set_option maxHeartbeats 4000000 in
theorem z_pack {l : Launch} {bs : Nat} {sk sv : Nat → Nat} {ac : Nat × Nat × Nat} {d : Nat} {h : zH1} (hd : 7 ≤ d) : zMetK l bs (KK bs sk sv ac) (d + 1) 2 [] h (some (2, (h.length : Int))) (h ++ [((21, 21, kwf) : zCe)]) := by
  refine ⟨by simp, by rw [zSl_app]; omega, fun D b as ca sz _ => ?_⟩
  have e1 : (h ++ [((21, 21, kwf) : zCe)]).length - h.length = 1 := by simp
  have e2 : zSl (h ++ [((21, 21, kwf) : zCe)]) - zSl h = 21 := by
    rw [zSl_app]
    show zSl h + 21 - zSl h = 21
    omega
  rw [e1, e2]
  obtain ⟨z1, z2, z3, z4⟩ := kq_zm
  have hwd : zWd 2 = Cond.code ⟨"EchoVale$Reader", "packKeywords", "()[J"⟩ prog_7_method_2_code 5 (some (.array .long)) :: zGW := by
    unfold zWd
    rw [z1, z2, z3, z4]
  rw [hwd, z1]
  refine Met.ofW (cc := prog_7_method_2_code) (maxL := 5) (ret := some (.array .long)) (by decide) rfl ?_
  intro p e s m args below meth c s₁ B hml hv
  obtain ⟨rfl, hsz, ⟨a1, a2, a3, a4, a5, a6⟩, aK, aB, aS⟩ := hv
  have hx := B.exec
  have hb := B.bytes
  have hr := B.returns
  have hts0 := atoms_spec (ws := Cond.code ⟨"EchoVale$Reader", "packKeywords", "()[J"⟩ prog_7_method_2_code 5 (some (.array .long)) :: zGW) B.pre
  have hts : ∀ w ∈ zGW, w.before ((([] : List zAv).map (cv b as)).toArray) s = true := fun w hw => hts0 w (List.mem_cons_of_mem _ hw)
  have hown : s.vm.findClass "EchoVale$Reader" = some m.cls := findClass_of_methodNamed B.named
  have hlocks := B.notSynchronized
  subst hsz
  generalize hAe : va_A (zWs as ca h) s.heap.size = A
  have hA : ∀ q : Nat, s.heap.size ≤ q → A q := fun q h => by rw [← hAe]; exact Or.inr h
  have hAb : ∀ q, A q → bs ≤ q := fun q hq => by
    rw [← hAe] at hq
    rcases hq with ⟨k, ee, hk⟩ | hq
    · obtain ⟨q1, q2⟩ := zWs_inv hk
      rw [q2]
      exact aS k q1
    · exact Nat.le_trans aB hq
  have hD : va_D A (zWs as ca h) := by rw [← hAe]; exact a4.self
  obtain ⟨tys, hK, hty⟩ := a2
  have hS : va_S A s.heap s.heap [] := va_S.rf
  have hl := lv_entry ([] : List Value) (n := 5) (Nat.le_of_ble_eq_true rfl)
  rw [show ((([] : List zAv).map (cv b as)).toArray) = (([] : List Value).toArray) from rfl, lg_entry_eq]
  generalize (lg_sl ([] : List Value) ++ List.replicate (5 - (lg_sl ([] : List Value)).length) Slot.unset).toArray = ls at hl ⊢
  have hl : lv_has ls 5 [] := hl
  refine lv_bipush (v := 21) hx hb d_pk_0 rfl ?_
  refine va_newa (atype := .long) (a0 := (21, .inr (.inl (fun _ => 0)))) (N' := 21) hx hb (hts _ zp_aJ) rfl hK a3 hD hS hA (fun _ => rfl) (by decide) (by decide) (by decide) (by show 0 + 1 ≤ 1; omega) (by show 0 + 21 ≤ 21; omega) d_pk_2 (fun q cA H1 hK1 hP1 hD1 hS1 => ?_)
  refine W.eq (g2 := F0 m 4 ls [.ref q]) rfl ?_
  refine lv_astore_n (lv' := [(0, .ref q)]) hx hb d_pk_4 rfl hl (by decide) rfl (fun ls1 hl1 => ?_)
  refine lv_iconst (v := 0) hx hb d_pk_5 rfl ?_
  refine lv_istore_n (lv' := [(1, .int 0), (0, .ref q)]) hx hb d_pk_6 rfl hl1 (by decide) rfl (fun ls2 hl2 => ?_)
  refine lv_lconst (v := 0) hx hb d_pk_7 rfl ?_
  refine lv_lstore_n (lv' := [(2, .long 0), (1, .int 0), (0, .ref q)]) hx hb d_pk_8 rfl hl2 (by decide) rfl (fun ls3 hl3 => ?_)
  refine lv_iconst (v := 0) hx hb d_pk_9 rfl ?_
  refine lv_istore (lv' := [(4, .int 0), (2, .long 0), (1, .int 0), (0, .ref q)]) hx hb d_pk_10 hl3 (by decide) rfl (fun ls4 hl4 => ?_)
  have f0 : (fun _ => (0 : Int64)) = pkf (pkn 0) := by
    rw [kq_end.2.1]
    rfl
  rw [f0] at hP1 hD1
  refine kq_loop (cA := cA) (q := q) (ws := zWs as ca h) (tys := tys) (by show 8 ≤ d + 1; omega) (by show 480 ≤ 60 * (d + 1); omega) (by show 1 ≤ 1; omega) (by show 21 ≤ 21; omega) hx hb hml hown hts aK.1 aK.2.1 hAb hK1 ?_ 105 0 ls4 H1 [] rfl (by rw [kq_end.2.1, kq_end.2.2]; exact hl4) hP1 hD1 hS1
  intro ls5 H2 locs2 hl5 hP2 hD2 hS2
  rw [kq_fin] at hP2 hD2
  refine lv_aload_n hx hb d_pk_70 rfl (lv_at hl5 0 rfl) ?_
  have hwf : ∀ (k : Nat) (c : zCe), h[k]? = some c → wfc as.length c := fun k c hk => by rw [a1]; exact a5 k c hk
  have hlen : (h ++ [((21, 21, kwf) : zCe)]).length = h.length + 1 := by simp
  have hcell : ∀ (k : Nat) (c : zCe), (h ++ [((21, 21, kwf) : zCe)])[k]? = some c → (k < h.length ∧ h[k]? = some c) ∨ (k = h.length ∧ c = (21, 21, kwf)) := by
    intro k c hk
    by_cases q : k < h.length
    · rw [List.getElem?_append_left q] at hk
      exact Or.inl ⟨q, hk⟩
    · rw [List.getElem?_append_right (by omega)] at hk
      have hz := (List.getElem?_eq_some_iff.mp hk).1
      have hz : k - h.length = 0 := by
        have : k - h.length < 1 := hz
        omega
      rw [hz] at hk
      exact Or.inr ⟨by omega, (Option.some.inj hk).symm⟩
  refine W.aret (v := .ref q) (rt := .array .long) hx hb hr (Or.inr ⟨_, rfl⟩) (Or.inr ⟨_, rfl⟩) (fun t ht hW => ⟨⟨as ++ [q], fun k => if k = h.length then cA else ca k, ?_, List.prefix_append _ _, by simp [a1], ?_, by rw [ht]; exact zP_app a1 hwf hP2, by rw [hAe]; exact zD_app a1 hD2, ?_, ?_⟩, ?_⟩) hS2.2.2 d_pk_71
  · show Outcome.returned (some (.ref q)) = .returned (some (.ref ((as ++ [q]).getD ((h.length : Int)).toNat 0)))
    rw [show ((h.length : Int)).toNat = as.length by rw [a1]; omega, getD_last]
  · refine ⟨tys ++ [(cA, .long)], va_K.moved hW.alike hK1, fun k c hk h20 => ?_⟩
    rcases hcell k c hk with ⟨k1, k2⟩ | ⟨k1, k2⟩
    · obtain ⟨t0, ht0⟩ := hty k c k2 h20
      refine ⟨t0, ?_⟩
      dsimp only
      rw [if_neg (by omega), List.getElem?_append_left (List.getElem?_eq_some_iff.mp ht0).1]
      exact ht0
    · subst k2
      refine ⟨tys.length, ?_⟩
      dsimp only
      rw [if_pos k1]
      simp [zAk]
  · intro k c hk
    rcases hcell k c hk with ⟨k1, k2⟩ | ⟨k1, k2⟩
    · exact wfc_up (by rw [hlen]; omega) (a5 k c k2)
    · subst k2
      refine Or.inr ⟨by decide, by decide, by decide, fun j hj => ?_⟩
      have h1 := List.all_eq_true.mp kq_rng j (List.mem_range.mpr hj)
      rw [Bool.and_eq_true, decide_eq_true_eq, decide_eq_true_eq] at h1
      exact h1
  · intro a ha
    cases ha
    refine ⟨?_, ?_⟩
    · show (0 : Int) ≤ (h.length : Int)
      omega
    · show (h.length : Int) < ((h ++ [((21, 21, kwf) : zCe)]).length : Int)
      rw [hlen]
      omega
  · rw [hAe]
    exact hS2.F ht
end
