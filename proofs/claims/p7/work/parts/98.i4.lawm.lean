/-! The law's own three methods, that catch. -/
section ZBW
variable {p : Program} {l : Launch} {e : Env} {R : Room} {s : State} {m : MethodId} {args : Array Value} {below : List Frame} {meth : Method} {c : Code} {Q : State → Prop}
variable {D : va_G} {A : Nat → Prop} {H0 : Heap} {b : Nat}
/-- behind a call, at any place -/
theorem z_backW {as : List Nat} {ca : Nat → ClassId} {h h1 : zH1} {H : Heap} {locs : List Loc} {ls : Array Slot} {pc mc ms k1 k2 : Nat} {st0 rest : List Value} {r : Option zAv} {a : Array Value}
    (hA : ∀ q, H0.size ≤ q → A q) (hH : zHR s D A H0 as ca h H locs) (hr : va_Run p l e R s m args below meth c H locs k1 k2 mc ms (F0 m pc ls st0) rest (zQc D b as ca h H.size r h1 a) (va_A (zWs as ca h) H.size))
    (kk : ∀ (as' : List Nat) (ca' : Nat → ClassId) (H' : Heap) (locs' : List Loc), zHR s D A H0 as' ca' h1 H' locs' → as <+: as' → (∀ x, r = some x → wfv h1.length False x) → W p l e R s m args below meth c H' locs' (k1 + mc) (k2 + ms) Q (F0 m (pc + 3) ls ((r.map (cv b as')).toList ++ rest))) : W p l e R s m args below meth c H locs k1 k2 Q (F0 m pc ls st0) := by
  obtain ⟨a1, -, -, hD, hS, -⟩ := id hH
  have hfr := zA_of hD hS hA
  intro T hT X
  obtain ⟨v, st₀, t, T', LL, h0, X', hL, e1, e2, ⟨⟨as', ca', hv, hpf, b1, b2, b3, b4, b5, b6⟩, hz, hk⟩, st⟩ := hr T hT X
  cases hv
  rw [h0] at hz hk
  have hS' : va_S A H0 T'.heap (locs ++ LL) := ⟨Nat.le_trans hS.1 (by rw [e1]; exact hz), fun q h1 h2 => by rw [e1, hk q (Nat.lt_of_lt_of_le h1 hS.1) (fun z => h2 (hfr q z))]; exact hS.2.1 q h1 h2, fun q hq => by
      rcases List.mem_append.mp hq with h | h
      · exact hS.2.2 q h
      · exact hfr _ (hL q h)⟩
  have hal : s.vm.Alike t.vm := by rw [← e2]; exact X'.warmed.alike
  have hH' : zHR s D A H0 as' ca' h1 T'.heap (locs ++ LL) := ⟨b1, zKnH.moved hal.symm b2, by rw [e1]; exact b3, ⟨b4.1, fun k q hq => hfr _ (b4.2 k q hq)⟩, hS', b5⟩
  obtain ⟨t2, a2, b2⟩ := kk as' ca' T'.heap (locs ++ LL) hH' hpf b6 T' rfl X'
  exact ⟨t2, st t2 a2, b2⟩
/-- behind a call that throws -/
theorem z_backX {as : List Nat} {ca : Nat → ClassId} {h h1 : zH1} {H : Heap} {locs : List Loc} {ls : Array Slot} {pc mc ms k1 k2 : Nat} {st0 rest : List Value}
    (hA : ∀ q, H0.size ≤ q → A q) (hH : zHR s D A H0 as ca h H locs) (hr : vx_Run p l e R s m args below meth c H locs k1 k2 mc ms (F0 m pc ls st0) rest (fun _ _ _ => False) (xX D as ca h H.size h1) (va_A (zWs as ca h) H.size))
    (kk : ∀ (q9 : Addr) (ce : Cell) (as' : List Nat) (ca' : Nat → ClassId) (H' : Heap) (locs' : List Loc), zHR s D A H0 as' ca' h1 H' locs' → as <+: as' → H'[q9]? = some ce → ce.vm = .none → s.vm.findClass "java/util/NoSuchElementException" = some ce.cls → vx_W p l e R s m args below meth c H' locs' (k1 + mc) (k2 + ms) Q (F0 m pc ls rest) q9) : W p l e R s m args below meth c H locs k1 k2 Q (F0 m pc ls st0) := by
  obtain ⟨a1, -, -, hD, hS, -⟩ := id hH
  have hfr := zA_of hD hS hA
  intro T hT X
  rcases hr T hT X with ⟨v, st₀, t, T', LL, h0, X', hL, e1, e2, hq, st⟩ | ⟨q, st₀, t, T', LL, E, ce, h0, X', hL, e1, e2, ⟨hE, ⟨as', ca', hpf, b1, b2, b3, b4, b5⟩, hz, hk⟩, hce, hcv, hcl, st⟩
  · exact hq.elim
  · subst hE
    rw [h0] at hz hk
    have hS' : va_S A H0 T'.heap (locs ++ LL) := ⟨Nat.le_trans hS.1 (by rw [e1]; exact hz), fun q h1 h2 => by rw [e1, hk q (Nat.lt_of_lt_of_le h1 hS.1) (fun z => h2 (hfr q z))]; exact hS.2.1 q h1 h2, fun q hq => by
        rcases List.mem_append.mp hq with h | h
        · exact hS.2.2 q h
        · exact hfr _ (hL q h)⟩
    have hal : s.vm.Alike t.vm := by rw [← e2]; exact X'.warmed.alike
    have hH' : zHR s D A H0 as' ca' h1 T'.heap (locs ++ LL) := ⟨b1, zKnH.moved hal.symm b2, by rw [e1]; exact b3, ⟨b4.1, fun k q hq => hfr _ (b4.2 k q hq)⟩, hS', b5⟩
    obtain ⟨t2, a2, b2⟩ := kk q ce as' ca' T'.heap (locs ++ LL) hH' hpf (by rw [e1]; exact hce) hcv hcl T' rfl X'
    exact ⟨t2, st.trans a2, b2⟩
end ZBW
def xl_dec (bL : ByteArray) (idx : Nat) : Prop := decode bL 0 = .ok (.aload_n 3, 1) ∧ decode bL 1 = .ok (.iconst 0, 1) ∧ decode bL 2 = .ok (.aload_n 0, 1) ∧ decode bL 3 = .ok (.iload_n 1, 1) ∧ decode bL 4 = .ok (.iload_n 2, 1) ∧ decode bL 5 = .ok (.invokevirtual idx, 3) ∧ decode bL 8 = .ok (.i2l, 1) ∧ decode bL 9 = .ok (.lastore, 1) ∧ decode bL 10 = .ok (.goto 7, 3) ∧ decode bL 13 = .ok (.astore 4, 2) ∧ decode bL 15 = .ok (.iconst 1, 1) ∧ decode bL 16 = .ok (.ireturn, 1) ∧ decode bL 17 = .ok (.iconst 0, 1) ∧ decode bL 18 = .ok (.ireturn, 1)
def xl_wds (k idx : Nat) : Prop := k < 295 ∧ zmC k = 11 ∧ zmN k = 2 ∧ Cond.methodLink "EchoValeLaw" idx (zmY k) ∈ zGW ∧ Cond.instanceMethod (zmY k) ∈ zGW ∧ Cond.selects (zmY k).cls (zmY k) (zmY k) ∈ zGW
theorem gw_1151 : Cond.classLink "EchoValeLaw" 13 "java/util/NoSuchElementException" ∈ zGW := zG_at (i := 1152) (by decide +kernel) (by decide +kernel)
abbrev xlh : List (Nat × Nat × Nat × Nat) := [(0, 10, 13, 13)]
section XLM
variable {l : Launch} {bs : Nat} {sk sv : Nat → Nat} {ac : Nat × Nat × Nat} {d k idx : Nat} {yL : MethodName} {bL : ByteArray} {h h1 : zH1} {c0 w0 r : Int}
set_option maxHeartbeats 4000000 in
theorem xl_ret (hm : ∀ k args h r h', zRun (zHop1 0 (fun _ => 0)) zRc1 spec1 d k args h r h' → zMetK l bs (KK bs sk sv ac) d k args h r h') (hy : plainName yL.cls = true) (hyc : yL.cls = "EchoValeLaw") (hdc : xl_dec bL idx) (hwd : xl_wds k idx)
    (hrun : zRun (zHop1 0 (fun _ => 0)) zRc1 spec1 d k [(2, 0), (0, c0), (0, w0)] h (some (0, r)) h1) (eL : zLn2 h h1) {f0 f1 : Nat → Int} (hc0 : h[0]? = some (11, zNf 11, f0)) (hc1 : h1[196]? = some (21, 1, f1)) (hln : 197 ≤ h.length) (rc : zR32 c0) (rw0 : zR32 w0) (D : va_G) (b : Nat) (as : List Nat) (ca : Nat → ClassId) (sz : Nat) :
    Met l yL (Cond.codeWith yL bL 5 (some .int) xlh :: zGW) (zRm1 (d + 2) 1 6) (va_Pc ([(2, 0), (0, c0), (0, w0), (2, 196)].map (cv b as)) (fun U => U.heap.size = sz ∧ zPreK bs (KK bs sk sv ac) D as ca h U)) (zQc D b as ca h sz (some (0, 0)) (h1.set 196 (21, 1, zUp f1 0 r))) 1 6 (va_A (zWs as ca h) sz) := by
  obtain ⟨d0, d1, d2, d3, d4, d5, d8, d9, d10, -, -, -, d17, d18⟩ := hdc
  obtain ⟨hk, h11, hN, w1, w2, w3⟩ := hwd
  have hkl : k < zMs.length := by rw [zMs_len]; exact hk
  have h14 : ¬ zmC k = 14 := by rw [h11]; decide
  obtain ⟨hpl, hc1', hc2'⟩ := zm_plain hkl h14
  obtain ⟨hpar, hmx, -⟩ := zm_par hkl
  refine va_MetW (cc := bL) (maxL := 5) (ret := some .int) (hh := xlh) hy rfl ?_
  intro p e s m args below meth c s₁ B hml hv
  obtain ⟨rfl, hsz, ⟨a1, a2, a3, a4, a5, a6⟩, aK, aB, aS⟩ := hv
  have hx := B.exec
  have hb := B.bytes
  have hr := B.returns
  have hts0 := atoms_spec (ws := Cond.codeWith yL bL 5 (some .int) xlh :: zGW) B.pre
  have hts : ∀ w ∈ zGW, w.before (([(2, 0), (0, c0), (0, w0), (2, 196)].map (cv b as)).toArray) s = true := fun w hw => hts0 w (List.mem_cons_of_mem _ hw)
  have hown : s.vm.findClass yL.cls = some m.cls := findClass_of_methodNamed B.named
  rw [hyc] at hown
  have hlocks := B.notSynchronized
  subst hsz
  generalize hAe : va_A (zWs as ca h) s.heap.size = A
  have hA : ∀ q : Nat, s.heap.size ≤ q → A q := fun q h => by rw [← hAe]; exact Or.inr h
  have hD : va_D A (zWs as ca h) := by rw [← hAe]; exact a4.self
  have hH : zHR s D A s.heap as ca h s.heap [] := ⟨a1, a2, a3, hD, va_S.rf, a5⟩
  have hl := lv_entry ([(2, 0), (0, c0), (0, w0), (2, 196)].map (cv b as)) (n := 5) (Nat.le_of_ble_eq_true rfl)
  rw [lg_entry_eq]
  generalize (lg_sl ([(2, 0), (0, c0), (0, w0), (2, 196)].map (cv b as)) ++ List.replicate (5 - (lg_sl ([(2, 0), (0, c0), (0, w0), (2, 196)].map (cv b as))).length) Slot.unset).toArray = ls at hl ⊢
  have hl : lv_has ls 5 [(0, .ref (as.getD 0 0)), (1, .int (Int32.ofInt c0)), (2, .int (Int32.ofInt w0)), (3, .ref (as.getD 196 0))] := hl
  refine lv_aload_n hx hb d0 rfl (lv_at hl 3 rfl) ?_
  refine lv_iconst (v := 0) hx hb d1 rfl ?_
  refine lv_aload_n hx hb d2 rfl (lv_at hl 0 rfl) ?_
  refine lv_iload_n hx hb d3 rfl (lv_at hl 1 rfl) ?_
  refine lv_iload_n hx hb d4 rfl (lv_at hl 2 rfl) ?_
  obtain ⟨z1, z2, hmet⟩ := hm _ _ _ _ _ hrun
  have hwa : ∀ a ∈ ([(2, 0), (0, c0), (0, w0)] : List zAv), wfv h.length False a := by
    intro a ha
    simp only [List.mem_cons, List.not_mem_nil, or_false] at ha
    rcases ha with rfl | rfl | rfl
    · exact (⟨by decide, by omega⟩ : (0 : Int) ≤ 0 ∧ (0 : Int) < (h.length : Int))
    · exact rc
    · exact rw0
  have hM := hmet D b as ca s.heap.size hwa
  rw [eL.1, eL.2, Nat.sub_self, Nat.sub_self] at hM
  obtain ⟨tys, t1, t2⟩ := a2
  have he := zWs_at (as := as) (ca := ca) hc0
  rw [zEnt_o (by decide)] at he
  have hrec := va_recv t1 a3 (zCl_at (ci := 11) (by decide)) he
  have hcls : (zmY k).cls = zOw 11 := by rw [zm_cls hkl, h11]
  have hpp : ∀ sig, parseMethodDescriptor (zmY k).desc = some sig → 2 = sig.parameters.length := by
    intro sig q
    rw [q] at hpar
    rw [← hN]
    exact (Option.some.inj hpar).symm
  have hcal : CallFix p m c bL 5 s (([(2, 0), (0, c0), (0, w0), (2, 196)].map (cv b as)).toArray) zGW "EchoValeLaw" := ⟨hx, hb, hml, hown, hts⟩
  have hrr := va_runV (p := p) (l := l) (e := e) (below := below) (meth := meth) (R := (headSpec (Cond.codeWith yL bL 5 (some .int) xlh :: zGW) (zRm1 (d + 2) 1 6)).room) (H := s.heap) (locs := []) (cells := 0) (slots := 0) (C := (zmY k).cls) (b := as.getD 0 0) (As := [.int (Int32.ofInt c0), .int (Int32.ofInt w0)]) (rest := [.int 0, .ref (as.getD 196 0)]) (g := F0 m 5 ls [.int (Int32.ofInt w0), .int (Int32.ofInt c0), .ref (as.getD 0 0), .int 0, .ref (as.getD 196 0)]) (n := 2) hcal hM
    ⟨⟨rfl, rfl, by show d + 1 ≤ d + 2; omega, by show 8 + (zmMax k + 11) + 60 * d ≤ 60 * (d + 2); omega, zWd_pay hk hts, List.mem_cons_self, hts _ (zm_code hkl), hts _ (zm_ini hkl), ⟨hc1', hc2'⟩, hpp, hts _ w1⟩, hts _ w2, hts _ w3⟩
    ⟨zBlindK KK_keep, by rw [hcls]; exact hrec, fun U hU hW => ⟨rfl, by rw [hU], ⟨a1, zKnH.moved hW.alike ⟨tys, t1, t2⟩, by rw [hU]; exact a3, a4, a5, zKnS_warm hW a6⟩, by rw [hU]; exact KK_keep s U s.heap s.heap hW aK (fun _ _ _ => rfl), by rw [hU]; exact aB, aS⟩⟩ rfl rfl hl.1 rfl (lv_room (Nat.le_of_ble_eq_true rfl)) d5 ⟨Nat.zero_le _, Nat.zero_le _⟩
  refine z_backW (b := b) (r := some (0, r)) (h1 := h1) hA hH hrr ?_
  intro as' ca' H' locs' hH' hp' hwr
  refine W.eq (g2 := F0 m 8 ls [.int (Int32.ofInt r), .int 0, .ref (as.getD 196 0)]) rfl ?_
  have rr : zR32 r := hwr _ rfl
  have r6 : zR64 r := ⟨by have := rr.1; omega, by have := rr.2; omega⟩
  refine lv_i2l (v := Int64.ofInt r) hx hb d8 (Int32.toInt64_ofInt (by show -2147483648 ≤ r; exact rr.1) (by show r ≤ 2147483647; have := rr.2; omega)) ?_
  obtain ⟨b1, ⟨tys', b2, b3⟩, b4, b5, b6, b7⟩ := id hH'
  have e196 : as'.getD 196 0 = as.getD 196 0 := by
    have := cv_pre (b := b) (sc := False) (a := (2, 196)) hp' (⟨by decide, by rw [a1]; omega⟩ : (0 : Int) ≤ 196 ∧ (196 : Int) < (as.length : Int))
    exact Value.ref.inj this
  obtain ⟨tt, htt⟩ := b3 196 _ hc1 (show 20 ≤ 21 by decide)
  have he1 := zWs_at (as := as') (ca := ca') hc1
  rw [zEnt_J, e196] at he1
  refine va_last (f := fun j => Int64.ofInt (f1 j)) hx hb b2 b4 b5 b6 196 tt he1 htt (i := 0) (x := Int64.ofInt r) (show ¬ ((0 : Int32) < 0 ∨ 1 ≤ (0 : Int32).toNatClampNeg) by decide) d9 (fun H2 locs2 g1 g2 g3 => ?_)
  rw [show ((0 : Int32)).toNatClampNeg = 0 from by decide, ← updL_of, ← zEnt_J (as := as'), ← e196, zWs_set] at g1 g2
  have hHs := hH'.set (cl' := (21, 1, zUp f1 0 r)) hc1 rfl (wfc_up1 (b7 _ _ hc1) (by decide) r6) g1 g2 g3
  refine lv_goto (tgt := 17) hx hb d10 rfl ?_
  refine lv_iconst (v := 0) hx hb d17 rfl ?_
  refine W.widen (k := 1) (n := 6) (by omega) (by omega) ?_
  obtain ⟨q1, q2, q3, q4, q5, q6⟩ := hHs
  refine W.iret (v := 0) hx hb hr (fun t ht hW => ⟨⟨as', ca', rfl, hp', q1, zKnH.moved hW.alike q2, by rw [ht]; exact q3, by rw [hAe]; exact q4, q6, fun a ha => ?_⟩, by rw [hAe]; exact q5.F ht⟩) q5.2.2 d18
  cases ha
  exact r32_0
set_option maxHeartbeats 4000000 in
theorem xl_thr (hl0 : l.stackTraces = false) {is sa n t0 : Nat} {tx : String} {L' : zLo} (hm : ∀ k args h r h', zRun (zHop1 0 (fun _ => 0)) zRc1 spec1 d k args h r h' → zMetK l bs (KK bs sk sv ac) d k args h r h') (hd : 7 ≤ d) (hy : plainName yL.cls = true) (hyc : yL.cls = "EchoValeLaw") (hdc : xl_dec bL idx) (hwd : xl_wds k idx)
    (hfl : 3 ≤ zmMax k) (hS0 : zReach (zHop1 0 (fun _ => 0)) zRc1 (zRun (zHop1 0 (fun _ => 0)) zRc1 spec1 d) k n (0, zEntry [(2, 0), (0, c0), (0, w0)] (zmMax k), [], h) (t0, L', [], h1)) (eL : zLn2 h h1) (g0 : decode (zmCode k) t0 = .ok (.new 143, 3)) (g3 : decode (zmCode k) (t0 + 3) = .ok (.dup, 1)) (g4 : decode (zmCode k) (t0 + 4) = .ok (.ldc is, 2)) (g6 : decode (zmCode k) (t0 + 6) = .ok (.invokespecial 147, 3)) (g9 : decode (zmCode k) (t0 + 9) = .ok (.athrow, 1))
    (hstr : ∀ U H, KK bs sk sv ac U H → vk_R "EchoVale" is tx sa U) {f0 : Nat → Int} (hc0 : h[0]? = some (11, zNf 11, f0)) (hln : 197 ≤ h.length) (rc : zR32 c0) (rw0 : zR32 w0) (D : va_G) (b : Nat) (as : List Nat) (ca : Nat → ClassId) (sz : Nat) :
    Met l yL (Cond.codeWith yL bL 5 (some .int) xlh :: zGW) (zRm1 (d + 2) 1 6) (va_Pc ([(2, 0), (0, c0), (0, w0), (2, 196)].map (cv b as)) (fun U => U.heap.size = sz ∧ zPreK bs (KK bs sk sv ac) D as ca h U)) (zQc D b as ca h sz (some (0, 1)) h1) 1 6 (va_A (zWs as ca h) sz) := by
  obtain ⟨d0, d1, d2, d3, d4, d5, -, -, -, d13, d15, d16, -, -⟩ := hdc
  obtain ⟨hk, h11, hN, w1, w2, w3⟩ := hwd
  have hkl : k < zMs.length := by rw [zMs_len]; exact hk
  have h14 : ¬ zmC k = 14 := by rw [h11]; decide
  obtain ⟨hpl, hc1', hc2'⟩ := zm_plain hkl h14
  obtain ⟨hpar, hmx, -⟩ := zm_par hkl
  refine va_MetW (cc := bL) (maxL := 5) (ret := some .int) (hh := xlh) hy rfl ?_
  intro p e s m args below meth c s₁ B hml hv
  obtain ⟨rfl, hsz, ⟨a1, a2, a3, a4, a5, a6⟩, aK, aB, aS⟩ := hv
  have hx := B.exec
  have hb := B.bytes
  have hr := B.returns
  have hts0 := atoms_spec (ws := Cond.codeWith yL bL 5 (some .int) xlh :: zGW) B.pre
  have hts : ∀ w ∈ zGW, w.before (([(2, 0), (0, c0), (0, w0), (2, 196)].map (cv b as)).toArray) s = true := fun w hw => hts0 w (List.mem_cons_of_mem _ hw)
  have htab : c.exceptionTable.toList = tableOf xlh := vx_table (x := yL) B (hts0 _ List.mem_cons_self)
  have hown : s.vm.findClass yL.cls = some m.cls := findClass_of_methodNamed B.named
  rw [hyc] at hown
  have hlocks := B.notSynchronized
  subst hsz
  generalize hAe : va_A (zWs as ca h) s.heap.size = A
  have hA : ∀ q : Nat, s.heap.size ≤ q → A q := fun q h => by rw [← hAe]; exact Or.inr h
  have hD : va_D A (zWs as ca h) := by rw [← hAe]; exact a4.self
  have hH : zHR s D A s.heap as ca h s.heap [] := ⟨a1, a2, a3, hD, va_S.rf, a5⟩
  have hl := lv_entry ([(2, 0), (0, c0), (0, w0), (2, 196)].map (cv b as)) (n := 5) (Nat.le_of_ble_eq_true rfl)
  rw [lg_entry_eq]
  generalize (lg_sl ([(2, 0), (0, c0), (0, w0), (2, 196)].map (cv b as)) ++ List.replicate (5 - (lg_sl ([(2, 0), (0, c0), (0, w0), (2, 196)].map (cv b as))).length) Slot.unset).toArray = ls at hl ⊢
  have hl : lv_has ls 5 [(0, .ref (as.getD 0 0)), (1, .int (Int32.ofInt c0)), (2, .int (Int32.ofInt w0)), (3, .ref (as.getD 196 0))] := hl
  refine lv_aload_n hx hb d0 rfl (lv_at hl 3 rfl) ?_
  refine lv_iconst (v := 0) hx hb d1 rfl ?_
  refine lv_aload_n hx hb d2 rfl (lv_at hl 0 rfl) ?_
  refine lv_iload_n hx hb d3 rfl (lv_at hl 1 rfl) ?_
  refine lv_iload_n hx hb d4 rfl (lv_at hl 2 rfl) ?_
  have hwa : ∀ a ∈ ([(2, 0), (0, c0), (0, w0)] : List zAv), wfv h.length False a := by
    intro a ha
    simp only [List.mem_cons, List.not_mem_nil, or_false] at ha
    rcases ha with rfl | rfl | rfl
    · exact (⟨by decide, by omega⟩ : (0 : Int) ≤ 0 ∧ (0 : Int) < (h.length : Int))
    · exact rc
    · exact rw0
  have hM := x_thr (l := l) hl0 (h := h) (h' := h1) (args := [(2, 0), (0, c0), (0, w0)]) hm hd hk h11 hfl hS0 eL g0 g3 g4 g6 g9 hstr D b as ca s.heap.size hwa
  obtain ⟨tys, t1, t2⟩ := a2
  have he := zWs_at (as := as) (ca := ca) hc0
  rw [zEnt_o (by decide)] at he
  have hrec := va_recv t1 a3 (zCl_at (ci := 11) (by decide)) he
  have hcls : (zmY k).cls = zOw 11 := by rw [zm_cls hkl, h11]
  have hpp : ∀ sig, parseMethodDescriptor (zmY k).desc = some sig → 2 = sig.parameters.length := by
    intro sig q
    rw [q] at hpar
    rw [← hN]
    exact (Option.some.inj hpar).symm
  have hcal : CallFix p m c bL 5 s (([(2, 0), (0, c0), (0, w0), (2, 196)].map (cv b as)).toArray) zGW "EchoValeLaw" := ⟨hx, hb, hml, hown, hts⟩
  have hrr := vx_runV (p := p) (l := l) (e := e) (below := below) (meth := meth) (R := (headSpec (Cond.codeWith yL bL 5 (some .int) xlh :: zGW) (zRm1 (d + 2) 1 6)).room) (H := s.heap) (locs := []) (cells := 0) (slots := 0) (C := (zmY k).cls) (b := as.getD 0 0) (As := [.int (Int32.ofInt c0), .int (Int32.ofInt w0)]) (rest := [.int 0, .ref (as.getD 196 0)]) (g := F0 m 5 ls [.int (Int32.ofInt w0), .int (Int32.ofInt c0), .ref (as.getD 0 0), .int 0, .ref (as.getD 196 0)]) (n := 2) hcal hM
    ⟨⟨rfl, rfl, by show d + 1 + 1 ≤ d + 2; omega, by show 8 + (zmMax k + 11) + 60 * (d + 1) ≤ 60 * (d + 2); omega, zWd_pay hk hts, List.mem_cons_self, hts _ (zm_code hkl), hts _ (zm_ini hkl), ⟨hc1', hc2'⟩, hpp, hts _ w1⟩, hts _ w2, hts _ w3⟩
    ⟨zBlindK KK_keep, by rw [hcls]; exact hrec, fun U hU hW => ⟨rfl, by rw [hU], ⟨a1, zKnH.moved hW.alike ⟨tys, t1, t2⟩, by rw [hU]; exact a3, a4, a5, zKnS_warm hW a6⟩, by rw [hU]; exact KK_keep s U s.heap s.heap hW aK (fun _ _ _ => rfl), by rw [hU]; exact aB, aS⟩⟩ rfl rfl hl.1 rfl (lv_room (Nat.le_of_ble_eq_true rfl)) d5 ⟨by show 0 + 1 ≤ 1; omega, by show 0 + 6 ≤ 6; omega⟩
  refine z_backX (h1 := h1) hA hH hrr ?_
  intro q9 ce as' ca' H' locs' hH' hp' hce hcv hcl
  refine vx_catch (own := "EchoValeLaw") (name := "java/util/NoSuchElementException") (E := "java/util/NoSuchElementException") hown [] ⟨0, 10, 13, 13⟩ [] htab (fun z hz => nomatch hz) rfl (by decide) (hts _ gw_1151) (va_Nw.use rfl (aK.2.2.2.2.2.2.2 _ List.mem_cons_self)) hce hcv hcl ?_
  refine W.eq (g2 := F0 m 13 ls [.ref q9]) rfl ?_
  refine lv_astore (lv' := [(4, .ref q9), (0, .ref (as.getD 0 0)), (1, .int (Int32.ofInt c0)), (2, .int (Int32.ofInt w0)), (3, .ref (as.getD 196 0))]) hx hb d13 hl (by decide) rfl (fun ls1 hl1 => ?_)
  refine lv_iconst (v := 1) hx hb d15 rfl ?_
  obtain ⟨q1, q2, q3, q4, q5, q6⟩ := hH'
  refine W.iret (v := 1) hx hb hr (fun t ht hW => ⟨⟨as', ca', rfl, hp', q1, zKnH.moved hW.alike q2, by rw [ht]; exact q3, by rw [hAe]; exact q4, q6, fun a ha => ?_⟩, by rw [hAe]; exact q5.F ht⟩) q5.2.2 d16
  cases ha
  exact (⟨by decide, by decide⟩ : zR32 1)
end XLM
