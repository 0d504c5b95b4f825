/-! What the abstract machine runs the real one runs, with a thing K known of the heap below bs (part 15, K carried). -/
def zKeep (bs : Nat) (K : State → Heap → Prop) : Prop := ∀ (u U : State) (H H1 : Heap), u.WarmedH U.vm → K u H → (∀ a : Nat, a < H.size → ¬ bs ≤ a → H1[a]? = H[a]?) → K U H1
def zPreK (bs : Nat) (K : State → Heap → Prop) (D : va_G) (as : List Nat) (ca : Nat → ClassId) (h : zH1) (U : State) : Prop := zPre D as ca h U ∧ K U U.heap ∧ bs ≤ U.heap.size ∧ ∀ k, k < h.length → bs ≤ as.getD k 0
def zMetK (l : Launch) (bs : Nat) (K : State → Heap → Prop) (d mi : Nat) (args : List zAv) (h : zH1) (r : Option zAv) (h' : zH1) : Prop :=
  h.length ≤ h'.length ∧ zSl h ≤ zSl h' ∧ ∀ (D : va_G) (b : Nat) (as : List Nat) (ca : Nat → ClassId) (sz : Nat), (∀ a ∈ args, wfv h.length False a) →
    Met l (zmY mi) (zWd mi) (zRm1 d (h'.length - h.length) (zSl h' - zSl h)) (va_Pc (args.map (cv b as)) (fun U => U.heap.size = sz ∧ zPreK bs K D as ca h U)) (zQc D b as ca h sz r h') (h'.length - h.length) (zSl h' - zSl h) (va_A (zWs as ca h) sz)
theorem zBlindK {bs : Nat} {K : State → Heap → Prop} (hkp : zKeep bs K) {D : va_G} {av : List Value} {as : List Nat} {ca : Nat → ClassId} {h : zH1} {sz : Nat} : FrameBlind (va_Pc av (fun U => U.heap.size = sz ∧ zPreK bs K D as ca h U)) := fun a U g mk q =>
  ⟨q.1, q.2.1, (zBlind (D := D) (av := av) (as := as) (ca := ca) (h := h) (sz := sz) a U g mk ⟨q.1, q.2.1, q.2.2.1⟩).2.2, hkp U (U.calling g mk a) U.heap U.heap (State.WarmedH.refl U) q.2.2.2.1 (fun _ _ _ => rfl), q.2.2.2.2.1, q.2.2.2.2.2⟩
theorem zWs_inv {as : List Nat} {ca : Nat → ClassId} {h : zH1} {k q : Nat} {ee : va_E} (e : (zWs as ca h)[k]? = some (q, ee)) : k < h.length ∧ q = as.getD k 0 := by
  have hk : k < h.length := by
    have := (List.getElem?_eq_some_iff.mp e).1
    rwa [zWs_len] at this
  refine ⟨hk, ?_⟩
  rw [zWs_at (List.getElem?_eq_getElem hk)] at e
  exact ((Prod.mk.inj (Option.some.inj e)).1).symm
theorem zAsA {A : Nat → Prop} {as : List Nat} {ca : Nat → ClassId} {h : zH1} (hD : va_D A (zWs as ca h)) {k : Nat} (hk : k < h.length) : A (as.getD k 0) :=
  hD.2 k _ (zWs_at (List.getElem?_eq_getElem hk))
section ZDK
variable {bs : Nat} {K : State → Heap → Prop}
variable {p : Program} {l : Launch} {e : Env} {R : Room} {s : State} {m : MethodId} {args : Array Value} {below : List Frame} {meth : Method} {c : Code} {Q : State → Prop}
variable {D : va_G} {A : Nat → Prop} {H0 : Heap} {b Ls : Nat} {xs : Nat → Int32} {mi n0 s0 : Nat}
theorem z_callK {d : Nat} {as0 : List Nat} {cf cf' : zCf zH1} {run : zRn zH1} (hRf : d + 1 ≤ R.frames) (hRl : 60 * d + 40 ≤ R.locals) (hkp : zKeep bs K) (XK : K s H0 ∧ bs ≤ H0.size ∧ ∀ q, A q → bs ≤ q) (X : zCx p R s m args meth c A H0 b Ls xs mi) (hC : zStepC zRc1 run mi cf cf') (hm : ∀ k args h r h', run k args h r h' → zMetK l bs K d k args h r h')
    (hn : n0 ≤ cf.2.2.2.length) (hs : s0 ≤ zSl cf.2.2.2) (hrc : cf'.2.2.2.length - n0 ≤ R.cells) (hrs : zSl cf'.2.2.2 - s0 ≤ R.slots) (kk : zGoal p l e R s m args below meth c Q D A H0 b mi n0 s0 as0 cf') : zGoal p l e R s m args below meth c Q D A H0 b mi n0 s0 as0 cf := by
  obtain ⟨i, ax, as1, rest, r, h1, hdec, hic, hax, hk, h14, hst, hlen, hrcv, hrcs, hrl, h5, hrun, rfl⟩ := hC
  obtain ⟨hx, hb, hml, hown, hts, hkn, hA, hnm, -⟩ := X
  obtain ⟨pc, L, st, h⟩ := cf
  dsimp only at *
  subst hst
  obtain ⟨hle1, hle2, hmet⟩ := hm _ _ _ _ _ hrun
  have hkl : ax.1 < zMs.length := by rw [zMs_len]; exact hk
  obtain ⟨hpl, hc1, hc2⟩ := zm_plain hkl h14
  obtain ⟨hpar, hmx, -⟩ := zm_par hkl
  intro as ca ls H locs hH hF hp
  dsimp only at hH hF ⊢
  have hpre : ∀ U : State, U.heap = H → s.WarmedH U.vm → U.heap.size = H.size ∧ zPreK bs K D as ca h U := by
    intro U hU hW
    obtain ⟨a1, a2, a3, a4, a5, a6⟩ := id hH
    exact ⟨by rw [hU], ⟨a1, zKnH.moved hW.alike a2, by rw [hU]; exact a3, ⟨a4.1, fun _ _ _ => trivial⟩, a6, zKnS_warm hW hkn⟩, by rw [hU]; exact hkp s U H0 H hW XK.1 (fun a ha hb => a5.2.1 a ha (fun z => hb (XK.2.2 a z))), by rw [hU]; exact Nat.le_trans XK.2.1 a5.1, fun k hk => XK.2.2 _ (zAsA a4 hk)⟩
  have hwa : ∀ a ∈ as1, wfv h.length False a := by
    intro a ha
    have h1 := hF.2.2.2 a (List.mem_append_left _ (List.mem_reverse.mpr ha))
    have h2 := List.all_eq_true.mp h5 a ha
    obtain ⟨t, z⟩ := a
    unfold wfv at *
    simp only at *
    split at h1
    · exact h1
    · exact h1
    · exact h1
    · simp at h2
    · exact h1
  have hM := hmet D b as ca H.size hwa
  have hFr : zFR b (zmC mi = 16) as h.length L rest ls (zmMax mi) := ⟨hF.1, hF.2.1, hF.2.2.1, fun x hx => hF.2.2.2 x (List.mem_append_right _ hx)⟩
  have hroom : 2 * (F0 m pc ls ((as1.reverse ++ rest).map (cv b as))).monitorRoom + ((rest.map (cv b as)).map fun v => v.category).sum ≤ 8 := by
    have hl : zWt rest ≤ 8 := Nat.le_of_ble_eq_true hrl
    have key : ∀ r : List zAv, ((r.map (cv b as)).map fun v => v.category).sum ≤ zWt r := by
      intro r
      induction r with
      | nil => exact Nat.le_refl 0
      | cons a r ih =>
        simp only [List.map_cons, List.sum_cons]
        have ha : (cv b as a).category ≤ (match zEq1 a.1 with
          | true => 2
          | false => 1) := by
          obtain ⟨t, x⟩ := a
          match t with
          | 0 => exact Nat.le_refl 1
          | 1 => exact Nat.le_refl 2
          | 2 => exact Nat.le_refl 1
          | t + 3 => exact Nat.le_refl 1
        exact Nat.add_le_add ha ih
    have := key rest
    show 2 * 0 + _ ≤ 8
    omega
  have hfit : h.length - n0 + (h1.length - h.length) ≤ R.cells ∧ zSl h - s0 + (zSl h1 - zSl h) ≤ R.slots := ⟨by omega, by omega⟩
  have hpp : ∀ sig, parseMethodDescriptor (zmY ax.1).desc = some sig → zmN ax.1 = sig.parameters.length := by
    intro sig q
    rw [q] at hpar
    exact (Option.some.inj hpar).symm
  have hRl2 : 8 + (zmMax ax.1 + 11) + (zRm1 d (h1.length - h.length) (zSl h1 - zSl h)).locals ≤ R.locals := by
    show 8 + (zmMax ax.1 + 11) + 60 * d ≤ R.locals
    omega
  have hcal : CallFix p m c (zmCode mi) (zmMax mi) s args zGW (zOw (zmC mi)) := ⟨hx, hb, hml, hown, hts⟩
  have hB : ∀ x ret, zmRet ax.1 = ret → (Cond.methodLink (zOw (zmC mi)) x (zmY ax.1)).before args s = true → CallB R s args (zOw (zmC mi)) x (zmY ax.1) (zmCode ax.1) (zmMax ax.1) ret (zWd ax.1) (zRm1 d (h1.length - h.length) (zSl h1 - zSl h)) (h1.length - h.length) (zSl h1 - zSl h) (zmN ax.1) := by
    intro x ret hret hl
    subst hret
    exact ⟨rfl, rfl, hRf, hRl2, zWd_pay hk hts, List.mem_cons_self, hts _ (zm_code hkl), hts _ (zm_ini hkl), ⟨hc1, hc2⟩, hpp, hl⟩
  have hN : ∀ x ret, zmRet ax.1 = ret → va_Nw (.methodLinkNest (zOw (zmC mi)) x (zmY ax.1) "EchoVale") s → va_CN R s args (zOw (zmC mi)) x (zmY ax.1) "EchoVale" (zmCode ax.1) (zmMax ax.1) ret (zWd ax.1) (zRm1 d (h1.length - h.length) (zSl h1 - zSl h)) (h1.length - h.length) (zSl h1 - zSl h) (zmN ax.1) := by
    intro x ret hret hl
    subst hret
    exact ⟨⟨rfl, rfl, hRf, hRl2, zWd_pay hk hts, List.mem_cons_self⟩, hts _ (zm_code hkl), hts _ (zm_ini hkl), ⟨hc1, hc2⟩, hpp, va_Nw.use rfl hl⟩
  have fin : ∀ {a : Array Value}, va_Run p l e R s m args below meth c H locs (h.length - n0) (zSl h - s0) (h1.length - h.length) (zSl h1 - zSl h) (F0 m pc ls ((as1.reverse ++ rest).map (cv b as))) (rest.map (cv b as)) (zQc D b as ca h H.size r h1 a) (va_A (zWs as ca h) H.size) → W p l e R s m args below meth c H locs (h.length - n0) (zSl h - s0) Q (F0 m pc ls ((as1.reverse ++ rest).map (cv b as))) :=
    fun hr => z_back hA hH hFr hp hle1 (by omega) (by omega) hr kk
  have hrev : (as1.reverse ++ rest).map (cv b as) = (as1.map (cv b as)).reverse ++ rest.map (cv b as) := by rw [List.map_append, List.map_reverse]
  cases i
  case invokestatic x =>
    have hS : PreS s H (va_Pc (as1.map (cv b as)) (fun U => U.heap.size = H.size ∧ zPreK bs K D as ca h U)) (as1.map (cv b as)) := ⟨zBlindK hkp, fun U hU hW => ⟨rfl, hpre U hU hW⟩⟩
    have hax2 : zLS.any (fun r => Nat.beq r.1 (zmC mi) && Nat.beq r.2.1 x && Nat.beq r.2.2.1 ax.1) = true ∨ zLSN.any (fun r => Nat.beq r.1 (zmC mi) && Nat.beq r.2.1 x && Nat.beq r.2.2.1 ax.1) = true := by
      simp only [zAxOk] at hax
      split at hax
      · omega
      · omega
      · omega
      · omega
      · exact Bool.or_eq_true _ _ ▸ hax
    rcases hax2 with hax2 | hax2
    · obtain ⟨w1, w2⟩ := zAny_s hax2
      exact fin (va_runS (g := F0 m pc ls ((as1.reverse ++ rest).map (cv b as))) hcal hM ⟨hB x _ rfl (hts _ w1), hts _ w2⟩ hS rfl (by rw [List.length_map]; exact hlen) hF.1.1 hrev hroom hdec hfit)
    · obtain ⟨w1, w2⟩ := zAny_sn hkn hax2
      exact fin (va_runSN (g := F0 m pc ls ((as1.reverse ++ rest).map (cv b as))) hcal hM ⟨hN x _ rfl w1, hts _ w2, trivial⟩ hS rfl (by rw [List.length_map]; exact hlen) hF.1.1 hrev hroom hdec hfit)
  case invokevirtual x =>
    obtain ⟨w1, w2, w3⟩ := zAny_v hax
    obtain ⟨a0, ha0, hci, ht, nn, ff, hcell⟩ := hrcv x rfl
    cases as1 with
    | nil => cases ha0
    | cons a As =>
      cases ha0
      obtain ⟨t, o⟩ := a0
      simp only at ht
      subst ht
      obtain ⟨a1, ⟨tys, a2, a3⟩, a4, a5, a6, a7⟩ := id hH
      have he := zWs_at (as := as) (ca := ca) hcell
      rw [zEnt_o (by omega)] at he
      have hrec := va_recv a2 a4 (zCl_at hci) he
      have hV : PreV s H (zmY ax.1).cls (as.getD o.toNat 0) (va_Pc (((2, o) :: As).map (cv b as)) (fun U => U.heap.size = H.size ∧ zPreK bs K D as ca h U)) (As.map (cv b as)) := ⟨zBlindK hkp, by rw [zm_cls hkl]; exact hrec, fun U hU hW => ⟨rfl, hpre U hU hW⟩⟩
      have hlen2 : (As.map (cv b as)).length = zmN ax.1 := by
        rw [List.length_map]
        have : As.length + 1 = zmN ax.1 + 1 := hlen
        omega
      have hrev2 : (((2, o) :: As).reverse ++ rest).map (cv b as) = (As.map (cv b as)).reverse ++ .ref (as.getD o.toNat 0) :: rest.map (cv b as) := by
        rw [hrev]
        simp [cv]
      exact fin (va_runV (g := F0 m pc ls ((((2, o) :: As).reverse ++ rest).map (cv b as))) hcal hM ⟨hB x _ rfl (hts _ w1), hts _ w2, hts _ w3⟩ hV rfl hlen2 hF.1.1 hrev2 hroom hdec hfit)
  case invokespecial x =>
    have hax2 : zLP.any (fun r => Nat.beq r.1 (zmC mi) && Nat.beq r.2.1 x && Nat.beq r.2.2.1 ax.1) = true ∨ zLPN.any (fun r => Nat.beq r.1 (zmC mi) && Nat.beq r.2.1 x && Nat.beq r.2.2.1 ax.1) = true := by
      simp only [zAxOk] at hax
      split at hax
      · omega
      · exact Bool.or_eq_true _ _ ▸ hax
    cases as1 with
    | nil => simp [zNa] at hlen
    | cons a As =>
      obtain ⟨v0, hv0⟩ : ∃ v0 : Nat, cv b as a = .ref v0 := by
        obtain ⟨a9, q1, q2⟩ := hrcs x rfl
        cases q1
        obtain ⟨t9, z9⟩ := a
        exact cv_ref q2
      have hS : PreS s H (va_Pc ((a :: As).map (cv b as)) (fun U => U.heap.size = H.size ∧ zPreK bs K D as ca h U)) (.ref v0 :: As.map (cv b as)) := ⟨zBlindK hkp, fun U hU hW => ⟨by rw [List.map_cons, hv0], hpre U hU hW⟩⟩
      have hlen2 : (As.map (cv b as)).length = zmN ax.1 := by
        rw [List.length_map]
        have : As.length + 1 = zmN ax.1 + 1 := hlen
        omega
      have hrev2 : ((a :: As).reverse ++ rest).map (cv b as) = (As.map (cv b as)).reverse ++ .ref v0 :: rest.map (cv b as) := by
        rw [hrev]
        simp [hv0]
      rcases hax2 with hax2 | hax2
      · obtain ⟨w1, w2, w3, w4⟩ := zAny_p hax2
        exact fin (va_runI (g := F0 m pc ls (((a :: As).reverse ++ rest).map (cv b as))) hcal hM ⟨hB x none w4 (hts _ w1), w3, hts _ w2⟩ hS rfl hlen2 hF.1.1 hrev2 hroom hdec hfit)
      · obtain ⟨w1, w2, w3, w4⟩ := zAny_pn hkn hax2
        exact fin (va_runIN (g := F0 m pc ls (((a :: As).reverse ++ rest).map (cv b as))) hcal hM ⟨hN x none w4 w1, w3, hts _ w2⟩ hS rfl hlen2 hF.1.1 hrev2 hroom hdec hfit)
  all_goals cases hic
theorem zStep_monoK {Ls : Nat} {xs : Nat → Int} {d : Nat} {cf cf' : zCf zH1} {run : zRn zH1} (hm : ∀ k args h r h', run k args h r h' → zMetK l bs K d k args h r h') (hS : zStep (zHop1 Ls xs) zRc1 run mi cf cf') : cf.2.2.2.length ≤ cf'.2.2.2.length ∧ zSl cf.2.2.2 ≤ zSl cf'.2.2.2 := by
  rcases hS with ⟨i, len, ax, d, gs, -, -, -, hE, -⟩ | ⟨i, ax, as1, rest, r, h1, -, -, -, -, -, -, -, -, -, -, -, hrun, rfl⟩ | ⟨-, h2, -⟩
  · rcases zX_heap hE with h | ⟨n, st', h, -⟩
    · rw [h]; exact ⟨Nat.le_refl _, Nat.le_refl _⟩
    · exact zX_mono h
  · obtain ⟨h1, h2, -⟩ := hm _ _ _ _ _ hrun
    exact ⟨h1, h2⟩
  · rw [h2]; exact ⟨Nat.le_refl _, Nat.le_refl _⟩
theorem zReach_monoK {Ls : Nat} {xs : Nat → Int} {d n : Nat} {cf cf' : zCf zH1} {run : zRn zH1} (hm : ∀ k args h r h', run k args h r h' → zMetK l bs K d k args h r h') (hS : zReach (zHop1 Ls xs) zRc1 run mi n cf cf') : cf.2.2.2.length ≤ cf'.2.2.2.length ∧ zSl cf.2.2.2 ≤ zSl cf'.2.2.2 := by
  induction n generalizing cf with
  | zero => cases hS; exact ⟨Nat.le_refl _, Nat.le_refl _⟩
  | succ n ih =>
    obtain ⟨c1, h1, h2⟩ := hS
    have q1 := zStep_monoK hm h1
    have q2 := ih h2
    omega
theorem z_reachK {d n : Nat} {as0 : List Nat} {cf cf' : zCf zH1} {run : zRn zH1} (hRf : d + 1 ≤ R.frames) (hRl : 60 * d + 40 ≤ R.locals) (hkp : zKeep bs K) (XK : K s H0 ∧ bs ≤ H0.size ∧ ∀ q, A q → bs ≤ q) (X : zCx p R s m args meth c A H0 b Ls xs mi) (hm : ∀ k args h r h', run k args h r h' → zMetK l bs K d k args h r h')
    (hS : zReach (zHop1 Ls (fun j => (xs j).toInt)) zRc1 run mi n cf cf') (hn : n0 ≤ cf.2.2.2.length) (hs : s0 ≤ zSl cf.2.2.2) (hrc : cf'.2.2.2.length - n0 ≤ R.cells) (hrs : zSl cf'.2.2.2 - s0 ≤ R.slots)
    (kk : zGoal p l e R s m args below meth c Q D A H0 b mi n0 s0 as0 cf') : zGoal p l e R s m args below meth c Q D A H0 b mi n0 s0 as0 cf := by
  induction n generalizing cf with
  | zero => cases hS; exact kk
  | succ n ih =>
    obtain ⟨c1, h1, h2⟩ := hS
    have q1 := zStep_monoK hm h1
    have q2 := zReach_monoK hm h2
    have k1 := ih h2 (by omega) (by omega)
    rcases h1 with ⟨i, len, ax, d, gs, g1, g2, g3, g4, g5⟩ | h1 | h1
    · obtain ⟨pc, L, st, h⟩ := cf
      exact z_step X g1 g2 g3 g4 g5 hn hs (by omega) (by omega) k1
    · exact z_callK hRf hRl hkp XK X h1 hm hn hs (by omega) (by omega) k1
    · exact z_forget h1 k1
end ZDK
set_option maxHeartbeats 2000000 in
theorem z_metK {l : Launch} {bs : Nat} {K : State → Heap → Prop} (hkp : zKeep bs K) {spec : zRn zH1} (hsp : ∀ d k args h r h', 7 ≤ d → spec k args h r h' → zMetK l bs K (d + 1) k args h r h') : ∀ (d mi : Nat) (args : List zAv) (h : zH1) (r : Option zAv) (h' : zH1), zRun (zHop1 0 (fun _ => 0)) zRc1 spec d mi args h r h' → zMetK l bs K d mi args h r h' := by
  intro d
  induction d with
  | zero => intro mi args h r h' q; exact q.elim
  | succ d ih =>
    intro mi args h r h' q
    rcases q with ⟨q1, q2⟩ | ⟨hk, h14, hfl, n, pc, L, st, hS, hret⟩
    · exact hsp d _ _ _ _ _ q1 q2
    have hmono := zReach_monoK ih hS
    dsimp only at hmono
    refine ⟨hmono.1, hmono.2, fun D b as ca sz hwa => ?_⟩
    have hkl : mi < zMs.length := by rw [zMs_len]; exact hk
    obtain ⟨hpl, -, -⟩ := zm_plain hkl h14
    refine Met.ofW (cc := zmCode mi) (maxL := zmMax mi) (ret := zmRet mi) hpl rfl ?_
    intro p e s m args1 below meth c s₁ B hml hv
    obtain ⟨rfl, hsz, hpre⟩ := hv
    obtain ⟨⟨a1, a2, a3, a4, a5, a6⟩, aK, aB, aS⟩ := hpre
    have hx := B.exec
    have hb := B.bytes
    have hr := B.returns
    have hts0 := atoms_spec (ws := zWd mi) B.pre
    have hts : ∀ w ∈ zGW, w.before ((args.map (cv b as)).toArray) s = true := fun w hw => hts0 w (List.mem_cons_of_mem _ hw)
    have hown : s.vm.findClass (zmY mi).cls = some m.cls := findClass_of_methodNamed B.named
    rw [zm_cls hkl] at hown
    have hlocks := B.notSynchronized
    have hin : meth.name = (zmY mi).name := (name_of_methodNamed B.named B.method).1
    subst hsz
    generalize hAe : va_A (zWs as ca h) s.heap.size = A
    have hA : ∀ q : Nat, s.heap.size ≤ q → A q := fun q h => by rw [← hAe]; exact Or.inr h
    have hD : va_D A (zWs as ca h) := by rw [← hAe]; exact a4.self
    have XK : K s s.heap ∧ bs ≤ s.heap.size ∧ ∀ q, A q → bs ≤ q := ⟨aK, aB, fun q hq => by
      rw [← hAe] at hq
      rcases hq with ⟨k, ee, hk⟩ | hq
      · obtain ⟨q1, q2⟩ := zWs_inv hk
        rw [q2]
        exact aS k q1
      · exact Nat.le_trans aB hq⟩
    have X : zCx p (headSpec (zWd mi) (zRm1 (d + 1) (h'.length - h.length) (zSl h' - zSl h))).room s m ((args.map (cv b as)).toArray) meth c A s.heap b 0 (fun _ => 0) mi :=
      ⟨hx, hb, hml, hown, hts, a6, hA, hin, fun q => absurd q (zm_notlaw hkl), by show 1 ≤ d + 1; omega, by show 40 ≤ 60 * (d + 1); omega⟩
    have hl := lv_entry (args.map (cv b as)) (n := zmMax mi) (by rw [zFl_len]; exact hfl)
    rw [lg_entry_eq]
    generalize (lg_sl (args.map (cv b as)) ++ List.replicate (zmMax mi - (lg_sl (args.map (cv b as))).length) Slot.unset).toArray = ls at hl ⊢
    have hF : zFR b (zmC mi = 16) as h.length (zEntry args (zmMax mi)) [] ls (zmMax mi) := by
      refine ⟨⟨hl.1, hl.2.1, fun i a ha => ?_⟩, by unfold zEntry; rw [List.length_append, List.length_replicate]; omega, fun i a ha => wfv_sc (hwa a (zEntry_mem _ _ _ ha)), fun a ha => by cases ha⟩
      have := zEntry_in (b := b) (as := as) args 0 i a ha
      rw [Nat.zero_add] at this
      exact hl.2.2 _ this
    have hH : zHR s D A s.heap as ca h s.heap [] := ⟨a1, a2, a3, hD, va_S.rf, a5⟩
    have key : zGoal p l e (headSpec (zWd mi) (zRm1 (d + 1) (h'.length - h.length) (zSl h' - zSl h))).room s m ((args.map (cv b as)).toArray) below meth c (MQ below (zQc D b as ca h s.heap.size r h') ((args.map (cv b as)).toArray) s (h'.length - h.length) (zSl h' - zSl h) A) D A s.heap b mi h.length (zSl h) as (0, zEntry args (zmMax mi), [], h) := by
      refine z_reachK (bs := bs) (K := K) (d := d) (n := n) (Nat.le_refl _) (by show 60 * d + 40 ≤ 60 * (d + 1); omega) hkp XK X ih (by simpa using hS) (Nat.le_refl _) (Nat.le_refl _) (Nat.le_refl _) (Nat.le_refl _) ?_
      intro as' ca' ls' H' locs' hH' hF' hp'
      dsimp only at hH' hF' hret ⊢
      obtain ⟨b1, b2, b3, b4, b5, b6⟩ := hH'
      have hq : ∀ rr : Option zAv, rr = r → (∀ a, rr = some a → wfv h'.length False a) → ∀ t : State, t.heap = H' → s.WarmedH t.vm → zQc D b as ca h s.heap.size r h' ((args.map (cv b as)).toArray) s (.returned (rr.map (cv b as'))) t := by
        intro rr hrr hwr t ht hW
        subst hrr
        refine ⟨⟨as', ca', rfl, hp', b1, zKnH.moved hW.alike b2, by rw [ht]; exact b3, by rw [hAe]; exact b4, b6, hwr⟩, ?_⟩
        rw [hAe]
        exact b5.F ht
      rcases hret with ⟨g1, v, g2, g3, g4⟩ | ⟨g1, v, g2, g3, g4⟩ | ⟨g1, g2, g3, g4⟩
      · subst g2
        subst g3
        have hwv : wfv h'.length False (0, v) := hF'.hd
        have hn : ∃ ty, zmRet mi = some ty ∧ narrow ty (.int (Int32.ofInt v)) = .int (Int32.ofInt v) := by
          rcases g4 with g4 | ⟨g4, rfl | rfl⟩
          · exact ⟨.int, g4, rfl⟩
          · exact ⟨.boolean, g4, by decide⟩
          · exact ⟨.boolean, g4, by decide⟩
        obtain ⟨ty, hty, hnn⟩ := hn
        exact W.zret hx hb (hr.trans hty) hnn (hq (some (0, v)) rfl (fun a ha => by cases ha; exact hwv)) b5.2.2 g1 hlocks
      · subst g2
        subst g3
        have hwv : wfv h'.length False (1, v) := hF'.hd
        exact W.lret hx hb (hr.trans g4) (hq (some (1, v)) rfl (fun a ha => by cases ha; exact hwv)) b5.2.2 g1 hlocks
      · subst g2
        subst g3
        exact W.vret hx hb (hr.trans g4) (hq none rfl (fun a ha => by cases ha)) b5.2.2 g1 hlocks
    have := key as ca ls s.heap [] hH hF (List.prefix_refl _)
    simp only [Nat.sub_self] at this
    exact this
