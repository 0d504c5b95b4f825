/-! EchoVale's cliff, person, saying where they throw. -/
def xtL : List Cond := xt_at "EchoVale" 147 "java/util/NoSuchElementException" 13 prog_30_method_4_code "java/lang/RuntimeException" ["java/lang/Exception"]
def xtP : List Nat := [20, 1179, 1188, 1190, 1193, 1195, 1180, 1181, 32, 33, 1182, 1187, 1191, 1211, 1169, 1212, 1171, 1213, 1173, 1183, 1185, 1175, 1207, 1208, 1210, 1175, 1198, 1199, 1200, 1201, 1201, 1202, 1203, 1204, 1204, 1205, 1206, 1207, 1197, 1158, 1166, 1167, 1168, 1170, 1172, 1174, 1178, 1177, 1176]
theorem xtL_good : xtL.filter goodWord = xtP.map (fun i => tables_1.getD i .tt) := by decide +kernel
theorem xtP_lt : xtP.all (fun i => Nat.blt i tables_1.length) = true := by decide +kernel
theorem xtL_ng : xtL.filter (fun w => !goodWord w) = [.declares (Bundle.initS "java/lang/RuntimeException"), .declares (Bundle.initS "java/lang/Exception"), .declares (Bundle.initS Bundle.tN), .castable "java/util/NoSuchElementException" "java/util/NoSuchElementException"] := by decide +kernel
theorem xtL_ot : (Cond.classLink "EchoVale" 143 "java/util/NoSuchElementException" :: Cond.initialized "java/util/NoSuchElementException" :: xtL).all vx_ot = true := by decide +kernel
theorem kNG_ot : kNG.all Cond.onTables = true := by decide +kernel
theorem xtL_in : ∀ w ∈ xtL.filter goodWord, w ∈ zGW := by
  intro w hw
  have g := (List.mem_filter.mp hw).2
  rw [xtL_good] at hw
  obtain ⟨i, hi, rfl⟩ := List.mem_map.mp hw
  have hl : i < tables_1.length := Nat.le_of_ble_eq_true (List.all_eq_true.mp xtP_lt i hi)
  refine zGW_in (List.mem_append_right _ ?_) g
  rw [List.getD_eq_getElem?_getD, List.getElem?_eq_getElem hl]
  exact List.getElem_mem hl
theorem xtL_at {args : Array Value} {s : State} {bs : Nat} {sk sv : Nat → Nat} {ac : Nat × Nat × Nat} {H : Heap} (hts : ∀ w ∈ zGW, w.before args s = true) (hK : KK bs sk sv ac s H) : ∀ w ∈ xtL, w.before args s = true :=
  vx_hat (B := kNG) (fun w hw => hts w (xtL_in w hw)) (fun w hw => by
    rw [xtL_ng] at hw
    simp only [List.mem_cons, List.not_mem_nil, or_false, kNG] at hw ⊢
    rcases hw with rfl | rfl | rfl | rfl
    · exact Or.inr (Or.inl rfl)
    · exact Or.inr (Or.inr (Or.inl rfl))
    · exact Or.inr (Or.inr (Or.inr rfl))
    · exact Or.inl rfl) (fun w hw => va_Nw.use (List.all_eq_true.mp kNG_ot w hw) (hK.2.2.2.2.2.2.2 w hw))
theorem gw_1156 : Cond.classLink "EchoVale" 143 "java/util/NoSuchElementException" ∈ zGW := zG_at (i := 1157) (by decide +kernel) (by decide +kernel)
theorem gw_23 : Cond.initialized "java/util/NoSuchElementException" ∈ zGW := zG_at (i := 23) (by decide +kernel) (by decide +kernel)
theorem vS_up {A B : Nat → Prop} {H0 H : Heap} {locs : List Loc} (hAB : ∀ q, A q → B q) (h : va_S A H0 H locs) : va_S B H0 H locs := ⟨h.1, fun q h1 h2 => h.2.1 q h1 (fun z => h2 (hAB q z)), fun z hz => hAB _ (h.2.2 z hz)⟩
/-- what is so where one of them has thrown -/
def xX (D : va_G) (as : List Nat) (ca : Nat → ClassId) (h : zH1) (sz : Nat) (h' : zH1) : String → State → State → Prop := fun E st t =>
  E = "java/util/NoSuchElementException" ∧ (∃ (as' : List Nat) (ca' : Nat → ClassId), as <+: as' ∧ as'.length = h'.length ∧ zKnH D t ca' h' ∧ va_P D vwCl (zWs as' ca' h') t.heap ∧ va_D (va_A (zWs as ca h) sz) (zWs as' ca' h') ∧ ∀ (k : Nat) (c : zCe), h'[k]? = some c → wfc h'.length c) ∧ va_F (va_A (zWs as ca h) sz) st t
set_option maxHeartbeats 4000000 in
theorem x_thr {l : Launch} (hl0 : l.stackTraces = false) {bs : Nat} {sk sv : Nat → Nat} {ac : Nat × Nat × Nat} {d k is sa n t0 : Nat} {tx : String} {args : List zAv} {h h' : zH1} {L' : zLo} (hm : ∀ k args h r h', zRun (zHop1 0 (fun _ => 0)) zRc1 spec1 d k args h r h' → zMetK l bs (KK bs sk sv ac) d k args h r h') (hd : 7 ≤ d) (hk : k < 295) (h11 : zmC k = 11) (hfl : (zFl args).length ≤ zmMax k)
    (hS0 : zReach (zHop1 0 (fun _ => 0)) zRc1 (zRun (zHop1 0 (fun _ => 0)) zRc1 spec1 d) k n (0, zEntry args (zmMax k), [], h) (t0, L', [], h')) (eL : zLn2 h h') (d0 : decode (zmCode k) t0 = .ok (.new 143, 3)) (d3 : decode (zmCode k) (t0 + 3) = .ok (.dup, 1)) (d4 : decode (zmCode k) (t0 + 4) = .ok (.ldc is, 2)) (d6 : decode (zmCode k) (t0 + 6) = .ok (.invokespecial 147, 3)) (d9 : decode (zmCode k) (t0 + 9) = .ok (.athrow, 1))
    (hstr : ∀ U H, KK bs sk sv ac U H → vk_R "EchoVale" is tx sa U) (D : va_G) (b : Nat) (as : List Nat) (ca : Nat → ClassId) (sz : Nat) (hwa : ∀ a ∈ args, wfv h.length False a) :
    vx_Met l (zmY k) (zWd k) (zRm1 (d + 1) 1 6) (va_Pc (args.map (cv b as)) (fun U => U.heap.size = sz ∧ zPreK bs (KK bs sk sv ac) D as ca h U)) (fun _ _ _ _ => False) (xX D as ca h sz h') 1 6 (va_A (zWs as ca h) sz) := by
  have hkl : k < zMs.length := by rw [zMs_len]; exact hk
  have h14 : ¬ zmC k = 14 := by rw [h11]; decide
  obtain ⟨hpl, -, -⟩ := zm_plain hkl h14
  refine vx_ofW (cc := zmCode k) (maxL := zmMax k) (ret := zmRet k) hpl rfl ?_
  intro p e s m args1 below meth c s₁ B hml ht hv
  obtain ⟨rfl, hsz, ⟨a1, a2, a3, a4, a5, a6⟩, aK, aB, aS⟩ := hv
  have hx := B.exec
  have hb := B.bytes
  have hts0 := atoms_spec (ws := zWd k) B.pre
  have hts : ∀ w ∈ zGW, w.before ((args.map (cv b as)).toArray) s = true := fun w hw => hts0 w (List.mem_cons_of_mem _ hw)
  have hown : s.vm.findClass (zmY k).cls = some m.cls := findClass_of_methodNamed B.named
  rw [zm_cls hkl] at hown
  have hlocks := B.notSynchronized
  have hin : meth.name = (zmY k).name := (name_of_methodNamed B.named B.method).1
  subst hsz
  generalize hAe : va_A (zWs as ca h) s.heap.size = A
  have hA : ∀ q : Nat, s.heap.size ≤ q → A q := fun q h => by rw [← hAe]; exact Or.inr h
  have hAb : ∀ q, A q → bs ≤ q := fun q hq => by
    rw [← hAe] at hq
    rcases hq with ⟨k, ee, hk⟩ | hq
    · obtain ⟨q1, q2⟩ := zWs_inv hk
      rw [q2]
      exact aS k q1
    · exact Nat.le_trans aB hq
  have hD : va_D A (zWs as ca h) := by rw [← hAe]; exact a4.self
  have XK : KK bs sk sv ac s s.heap ∧ bs ≤ s.heap.size ∧ ∀ q, A q → bs ≤ q := ⟨aK, aB, hAb⟩
  have X : zCx p (headSpec (zWd k) (zRm1 (d + 1) 1 6)).room s m ((args.map (cv b as)).toArray) meth c A s.heap b 0 (fun _ => 0) k :=
    ⟨hx, hb, hml, hown, hts, a6, hA, hin, fun q => absurd q (zm_notlaw hkl), by show 1 ≤ d + 1; omega, by show 40 ≤ 60 * (d + 1); omega⟩
  have hl := lv_entry (args.map (cv b as)) (n := zmMax k) (by rw [zFl_len]; exact hfl)
  rw [lg_entry_eq]
  generalize (lg_sl (args.map (cv b as)) ++ List.replicate (zmMax k - (lg_sl (args.map (cv b as))).length) Slot.unset).toArray = ls at hl ⊢
  have hF : zFR b (zmC k = 16) as h.length (zEntry args (zmMax k)) [] ls (zmMax k) := by
    refine ⟨⟨hl.1, hl.2.1, fun i a ha => ?_⟩, by unfold zEntry; rw [List.length_append, List.length_replicate]; omega, fun i a ha => wfv_sc (hwa a (zEntry_mem _ _ _ ha)), fun a ha => by cases ha⟩
    have := zEntry_in (b := b) (as := as) args 0 i a ha
    rw [Nat.zero_add] at this
    exact hl.2.2 _ this
  have hH : zHR s D A s.heap as ca h s.heap [] := ⟨a1, a2, a3, hD, va_S.rf, a5⟩
  have key : zGoal p l e (headSpec (zWd k) (zRm1 (d + 1) 1 6)).room s m ((args.map (cv b as)).toArray) below meth c (vx_MQ below (fun _ _ _ _ => False) (xX D as ca h s.heap.size h') ((args.map (cv b as)).toArray) s 1 6 A) D A s.heap b k h.length (zSl h) as (0, zEntry args (zmMax k), [], h) := by
    refine z_reachK (bs := bs) (K := KK bs sk sv ac) (d := d) (n := n) (Nat.le_refl _) (by show 60 * d + 40 ≤ 60 * (d + 1); omega) KK_keep XK X hm (by simpa using hS0) (Nat.le_refl _) (Nat.le_refl _) (by show h'.length - h.length ≤ 1; rw [eL.1]; omega) (by show zSl h' - zSl h ≤ 6; rw [eL.2]; omega) ?_
    intro as' ca' ls' H' locs' hH' hF' hp'
    dsimp only at hH' hF' ⊢
    obtain ⟨b1, b2, b3, b4, b5, b6⟩ := hH'
    rw [eL.1, eL.2, Nat.sub_self, Nat.sub_self]
    rw [h11] at hown
    refine xt_throwS (A := fun q => bs ≤ q) (own := "EchoVale") (cls := "java/util/NoSuchElementException") (Y9 := "java/lang/RuntimeException") (r9 := ["java/lang/Exception"]) (ik := 143) (ic := 147) (ix := 13) (rx := prog_30_method_4_code) (is := is) (text := tx) (sa := sa) hx hb hl0 (by decide +kernel) (by decide +kernel) (by decide +kernel) (by decide +kernel) hown (by decide +kernel) (by decide +kernel) (by decide +kernel) (hts _ gw_1156) (hts _ gw_23) (hstr _ _ aK) (xtL_at hts aK) (fun w hw => List.all_eq_true.mp xtL_ot w hw) aK.2.2.2.2.2.1 aK.2.2.2.2.2.2.1 (vS_up hAb b5) (by rw [hml]; exact hF'.1.1) d0 d3 d4 d6 d9 (fun x hx => (ht x hx).elim) (by show 1 + 1 + 3 < d + 1; omega) (by show 0 + (13 * (1 + 1 + 1) + 43) ≤ 60 * (d + 1); omega) (by show 0 + 1 ≤ 1; omega) (by show 0 + 6 ≤ 6; omega) hlocks ?_ b5.2.2 (Nat.le_refl _) (Nat.le_refl _)
    intro t hal f1 f2
    refine ⟨rfl, ⟨as', ca', hp', b1, zKnH.moved hal b2, b3.kept (fun k x hx => f2 x.1 ((b3 k x hx).lt)), by rw [hAe]; exact b4, b6⟩, ?_⟩
    rw [hAe]
    exact ⟨Nat.le_trans b5.1 f1, fun q h1 h2 => (f2 q (Nat.lt_of_lt_of_le h1 b5.1)).trans (b5.2.1 q h1 h2)⟩
  have := key as ca ls s.heap [] hH hF (List.prefix_refl _)
  simp only [Nat.sub_self] at this
  exact this
