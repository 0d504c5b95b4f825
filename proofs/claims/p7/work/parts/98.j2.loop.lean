/-! The law's loop. -/
section WL
variable {p : Program} {l : Launch} {e : Env} {R : Room} {s : State} {m : MethodId} {args : Array Value} {below : List Frame} {meth : Method} {c : Code} {Q : State → Prop}
variable {D : va_G} {b Ls : Nat} {xs : Nat → Int32} {sk sv : Nat → Nat} {ac : Nat × Nat × Nat}
/-- what stands all along -/
def wX (p : Program) (l : Launch) (R : Room) (s : State) (m : MethodId) (args : Array Value) (meth : Method) (c : Code) (b Ls : Nat) (xs : Nat → Int32) (sk sv : Nat → Nat) (ac : Nat × Nat × Nat) : Prop :=
  601 ≤ R.frames ∧ 36040 ≤ R.locals ∧ zCx p R s m args meth c (fun q => s.heap.size ≤ q) s.heap b Ls xs 295 ∧ KK s.heap.size sk sv ac s s.heap ∧ Ls ≤ 3072 ∧ l.stackTraces = false
theorem w_go {P : zCf zH2 → Prop} {c2 : zCf zH2} {c1 : zCf zH1} {as : List Nat} {ca : Nat → ClassId} {ls : Array Slot} {H : Heap} {locs : List Loc} {k1 k2 : Nat} (hX : wX p l R s m args meth c b Ls xs sk sv ac) (hk1 : k1 ≤ R.cells) (hk2 : k2 ≤ R.slots) (ht : zTo Ls (fun j => (xs j).toInt) (zRu2 (fun _ _ _ _ _ => False) 600) 295 P c2) (hC : zCR zlO zlA True c2 c1)
    (hH : zHR s D (fun q => s.heap.size ≤ q) s.heap as ca c1.2.2.2 H locs) (hF : zFR b (zmC 295 = 16) as c1.2.2.2.length c1.2.1 c1.2.2.1 ls (zmMax 295))
    (kk : ∀ (c2' : zCf zH2) (c1' : zCf zH1) (as' : List Nat) (ca' : Nat → ClassId) (ls' : Array Slot) (H' : Heap) (locs' : List Loc), P c2' → zCR zlO zlA True c2' c1' → zLn2 c1.2.2.2 c1'.2.2.2 → zHR s D (fun q => s.heap.size ≤ q) s.heap as' ca' c1'.2.2.2 H' locs' → zFR b (zmC 295 = 16) as' c1'.2.2.2.length c1'.2.1 c1'.2.2.1 ls' (zmMax 295) → W p l e R s m args below meth c H' locs' k1 k2 Q (F0 m c1'.1 ls' (c1'.2.2.1.map (cv b as')))) :
    W p l e R s m args below meth c H locs k1 k2 Q (F0 m c1.1 ls (c1.2.2.1.map (cv b as))) := by
  obtain ⟨x1, x2, x3, x4, x5, x6⟩ := hX
  obtain ⟨n, c2', g1, g2⟩ := ht
  obtain ⟨n', c1', q1, q2, q3⟩ := z_parNs zAp_ok sp_rr hC g1
  exact z_any (d := 600) (bs := s.heap.size) (K := KK s.heap.size sk sv ac) x1 x2 hk1 hk2 KK_keep ⟨x4, Nat.le_refl _, fun q h => h⟩ x3 (hm_K 600) q1 q3.1 q3.2 hH hF (fun as' ca' ls' H' locs' h1 h2 h3 => kk c2' c1' as' ca' ls' H' locs' g2 q2 q3 h1 h2)
theorem w_call {yL : MethodName} {bL : ByteArray} {idL p1 : Nat} {v1 v2 k9 : Int} {L' : zLo} {h1 h2 : zH1} {as : List Nat} {ca : Nat → ClassId} {ls : Array Slot} {H : Heap} {locs : List Loc} {k1 k2 : Nat} (hX : wX p l R s m args meth c b Ls xs sk sv ac) (hk1 : k1 + 1 ≤ R.cells) (hk2 : k2 + 6 ≤ R.slots)
    (hM : Met l yL (Cond.codeWith yL bL 5 (some .int) xlh :: zGW) (zRm1 22 1 6) (va_Pc ([(2, 0), (0, v1), (0, v2), (2, 196)].map (cv b as)) (fun U => U.heap.size = H.size ∧ zPreK s.heap.size (KK s.heap.size sk sv ac) D as ca h1 U)) (zQc D b as ca h1 H.size (some (0, k9)) h2) 1 6 (va_A (zWs as ca h1) H.size))
    (hwd : Cond.methodLink "EchoValeLaw" idL yL ∈ zGW ∧ Cond.static yL ∈ zGW ∧ Cond.codeWith yL bL 5 (some .int) xlh ∈ zGW) (hini : Cond.initialized yL.cls ∈ zGW) (hyn : yL.cls ≠ "java/lang/invoke/MethodHandle" ∧ yL.cls ≠ "java/lang/invoke/VarHandle") (hpar : (parseMethodDescriptor yL.desc).map (fun d => d.parameters.length) = some 4) (hdec : decode (zmCode 295) p1 = .ok (.invokestatic idL, 3))
    (hH : zHR s D (fun q => s.heap.size ≤ q) s.heap as ca h1 H locs) (hF : zFR b (zmC 295 = 16) as h1.length L' [(2, 196), (0, v2), (0, v1), (2, 0)] ls (zmMax 295)) (eL : zLn2 h1 h2)
    (kk : ∀ (as' : List Nat) (ca' : Nat → ClassId) (H' : Heap) (locs' : List Loc), zHR s D (fun q => s.heap.size ≤ q) s.heap as' ca' h2 H' locs' → zFR b (zmC 295 = 16) as' h2.length L' [(0, k9)] ls (zmMax 295) → W p l e R s m args below meth c H' locs' (k1 + 1) (k2 + 6) Q (F0 m (p1 + 3) ls ([(0, k9)].map (cv b as')))) :
    W p l e R s m args below meth c H locs k1 k2 Q (F0 m p1 ls ([(2, 196), (0, v2), (0, v1), (2, 0)].map (cv b as))) := by
  obtain ⟨x1, x2, ⟨hx, hb, hml, hown, hts, hkn, hA, hnm, hscr, hf, hlo⟩, x4, x5, x6⟩ := hX
  have hown' : s.vm.findClass "EchoValeLaw" = some m.cls := by
    rw [← hown]
    exact congrArg _ (by decide +kernel)
  obtain ⟨a1, a2, a3, a4, a5, a6⟩ := id hH
  have hp4 : ∀ sig, parseMethodDescriptor yL.desc = some sig → 4 = sig.parameters.length := by
    intro sig q
    rw [q] at hpar
    exact (Option.some.inj hpar).symm
  have hrr := vx_runSW (p := p) (l := l) (e := e) (R := R) (below := below) (meth := meth) (H := H) (locs := locs) (cells := k1) (slots := k2) (own := "EchoValeLaw") (index := idL) (As := [.ref (as.getD 0 0), .int (Int32.ofInt v1), .int (Int32.ofInt v2), .ref (as.getD 196 0)]) (rest := []) (g := F0 m p1 ls ([(2, 196), (0, v2), (0, v1), (2, 0)].map (cv b as))) (n := 4) (hh := xlh) (cc := zmCode 295) (nL := zmMax 295) (Ts := zGW) ⟨hx, hb, hml, hown', hts⟩ hM
    ⟨⟨rfl, rfl, by show 22 + 1 ≤ R.frames; omega, by show 8 + (5 + 11) + 60 * 22 ≤ R.locals; omega, pay_in hts (jc_good hwd.2.2 (fun _ hx => List.mem_cons.mp hx)), List.mem_cons_self⟩, hts _ hwd.2.2, hts _ hini, hyn, hp4, hts _ hwd.1, hts _ hwd.2.1⟩
    ⟨zBlindK KK_keep, fun U hU hW => ⟨rfl, by rw [hU], ⟨a1, zKnH.moved hW.alike a2, by rw [hU]; exact a3, ⟨a4.1, fun _ _ _ => trivial⟩, a6, zKnS_warm hW hkn⟩, by rw [hU]; exact KK_keep s U s.heap H hW x4 (fun a ha hb => a5.2.1 a ha hb), by rw [hU]; exact a5.1, fun k hk => zAsA a4 hk⟩⟩ rfl rfl hF.1.1 rfl (lv_room (Nat.le_of_ble_eq_true rfl)) hdec ⟨hk1, hk2⟩
  refine z_backW (b := b) (r := some (0, k9)) (h1 := h2) hA hH hrr ?_
  intro as' ca' H' locs' hH' hp' hwr
  have hcv : ∀ x, wfv h1.length (zmC 295 = 16) x → cv b as' x = cv b as x := fun x hx => cv_pre hp' (by rw [a1]; exact hx)
  refine kk as' ca' H' locs' hH' ⟨⟨hF.1.1, hF.1.2.1, fun i x hx => by rw [hcv x (hF.2.2.1 i x hx)]; exact hF.1.2.2 i x hx⟩, hF.2.1, fun i x hx => wfv_up (Nat.le_of_eq eL.1.symm) (hF.2.2.1 i x hx), fun x hx => ?_⟩
  have : x = (0, k9) := by simpa using hx
  subst this
  exact wfv_sc (hwr _ rfl)
theorem zVR6 {lO lA : Nat → Int → Nat} {sc : Prop} {x : Int} {a1 : zAv} (h : zVR lO lA sc (6, x) a1) : a1 = (2, (lO 20 0 : Int)) := by
  rcases h with ⟨h, -⟩ | ⟨h, -⟩ | ⟨h, -⟩ | ⟨-, h⟩ | ⟨ci, -, h, -⟩ | ⟨ci, k, y, q1, q2, -, h, -⟩
  · exact absurd h (by show ¬ (6 : Nat) = 0; decide)
  · exact absurd h (by show ¬ (6 : Nat) = 1; decide)
  · exact absurd h (by show ¬ (6 : Nat) = 5; decide)
  · exact h
  · have h : (6 : Nat) = 10 + ci := h
    omega
  · have h : (6 : Nat) = zTg2 (ci * 64 + k) y := h
    have := (zTg2_r (r := ci * 64 + k) (x := y) (zNf_le2 q1 q2).1).2.2.2
    omega
theorem w_sp {yL : MethodName} {bL : ByteArray} {idL p1 : Nat} {i : Int} {hc : zHC} {hm : zHM} {o : Int → Int} {h : zH1} {L1 : zLo} {as : List Nat} {ca : Nat → ClassId} {ls : Array Slot} {H : Heap} {locs : List Loc} {k1 k2 : Nat} (hX : wX p l R s m args meth c b Ls xs sk sv ac) (hk1 : k1 + 1 ≤ R.cells) (hk2 : k2 + 6 ≤ R.slots)
    (hwd : Cond.methodLink "EchoValeLaw" idL yL ∈ zGW ∧ Cond.static yL ∈ zGW ∧ Cond.codeWith yL bL 5 (some .int) xlh ∈ zGW) (hini : Cond.initialized yL.cls ∈ zGW) (hyn : yL.cls ≠ "java/lang/invoke/MethodHandle" ∧ yL.cls ≠ "java/lang/invoke/VarHandle") (hpar : (parseMethodDescriptor yL.desc).map (fun d => d.parameters.length) = some 4) (hdec : decode (zmCode 295) p1 = .ok (.invokestatic idL, 3))
    (v1 v2 : Int) (ht : zTo Ls (fun j => (xs j).toInt) (zRu2 (fun _ _ _ _ _ => False) 600) 295 (fun c => c = (p1, Lh i, [(6, 0), (0, v2), (0, v1), (21, 0)], (hc, hm, o))) (23, Lh i, [], (hc, hm, o)))
    (hw : ∀ h1 : zH1, zR2 zlO zlA (hc, hm, o) h1 → 197 ≤ h1.length → wC l s.heap.size sk sv ac yL bL v1 v2 Ls (fun j => (xs j).toInt) i (p1 + 3) hc hm h1)
    (hC : zCR zlO zlA True (23, Lh i, [], (hc, hm, o)) (23, L1, [], h)) (hln : 197 ≤ h.length) (hH : zHR s D (fun q => s.heap.size ≤ q) s.heap as ca h H locs) (hF : zFR b (zmC 295 = 16) as h.length L1 [] ls (zmMax 295))
    (kk : ∀ (o' : Int → Int) (c2' : zCf zH2) (c1' : zCf zH1) (as' : List Nat) (ca' : Nat → ClassId) (ls' : Array Slot) (H' : Heap) (locs' : List Loc), LN i o' c2' → zCR zlO zlA True c2' c1' → 197 ≤ c1'.2.2.2.length → zHR s D (fun q => s.heap.size ≤ q) s.heap as' ca' c1'.2.2.2 H' locs' → zFR b (zmC 295 = 16) as' c1'.2.2.2.length c1'.2.1 c1'.2.2.1 ls' (zmMax 295) → W p l e R s m args below meth c H' locs' (k1 + 1) (k2 + 6) Q (F0 m c1'.1 ls' (c1'.2.2.1.map (cv b as')))) :
    W p l e R s m args below meth c H locs k1 k2 Q (F0 m 23 ls []) := by
  refine w_go (c1 := (23, L1, [], h)) hX (by omega) (by omega) ht hC hH hF ?_
  intro c2' c1' as1 ca1 ls1 H1 locs1 hP hC1 hLn hH1 hF1
  subst hP
  obtain ⟨pc1, L2, st1, h1⟩ := c1'
  obtain ⟨e1, e2, e3, e4⟩ := hC1
  dsimp only at e1 e2 e3 e4 hH1 hF1 hLn
  have e1' := e1.symm; subst e1'
  obtain ⟨b0, s0, rfl, q1, r1⟩ := zSR_cons e3
  have := zVR6 q1; subst this
  obtain ⟨b1, s1, rfl, q2, r2⟩ := zSR_cons r1
  have := zVR0 q2; subst this
  obtain ⟨b2, s2, rfl, q3, r3⟩ := zSR_cons r2
  have := zVR0 q3; subst this
  obtain ⟨b3, s3, rfl, q4, r4⟩ := zSR_cons r3
  have := (zVR_obj (ci := 11) (by decide) q4).2.2; subst this
  have := zSR_nil r4; subst this
  rw [show zlO 20 0 = 196 from by decide, show zlO 11 0 = 0 from by decide] at hF1
  rw [show zlO 20 0 = 196 from by decide, show zlO 11 0 = 0 from by decide]
  have hln1 : 197 ≤ h1.length := by have := hLn.1; omega
  obtain ⟨k9, o', h2, g1, g2, g3, g4⟩ := hw h1 e4 hln1
  refine w_call (v1 := v1) (v2 := v2) (k9 := k9) (h1 := h1) (h2 := h2) (L' := L2) hX hk1 hk2 (g3 D b as1 ca1 H1.size) hwd hini hyn hpar hdec hH1 hF1 g1 ?_
  intro as2 ca2 H2 locs2 hH2 hF2
  refine w_go (c1 := (p1 + 3, L2, [(0, k9)], h2)) hX hk1 hk2 g4 ⟨rfl, e2, ⟨Or.inl ⟨rfl, rfl⟩, trivial⟩, g2⟩ hH2 hF2 ?_
  intro c2' c1' as3 ca3 ls3 H3 locs3 hP hC3 hLn3 hH3 hF3
  exact kk o' c2' c1' as3 ca3 ls3 H3 locs3 hP hC3 (by have := hLn3.1; have := g1.1; dsimp only at *; omega) hH3 hF3
theorem gw_0 : Cond.initialized "EchoValeLaw" ∈ zGW := zG_at (i := 0) (by decide +kernel) (by decide +kernel)
theorem w_loop {KC KS : Nat} (hKC : KC ≤ R.cells) (hKS : KS ≤ R.slots) (hX : wX p l R s m args meth c b Ls xs sk sv ac)
    (fin : ∀ (ls : Array Slot) (H : Heap) (locs : List Loc) (k1 k2 : Nat), k1 ≤ KC → k2 ≤ KS → (∀ q ∈ locs, s.heap.size ≤ q.base) → W p l e R s m args below meth c H locs k1 k2 Q (F0 m 1649 ls [.int 1])) :
    ∀ (n : Nat) (i : Int) (hc : zHC) (hm : zHM) (o : Int → Int) (h : zH1) (L1 : zLo) (as : List Nat) (ca : Nat → ClassId) (ls : Array Slot) (H : Heap) (locs : List Loc) (k1 k2 : Nat), 0 ≤ i → (Ls : Int) < i + 6 + 6 * (n : Int) → RG hc hm → zCR zlO zlA True (23, Lh i, [], (hc, hm, o)) (23, L1, [], h) → 197 ≤ h.length → zHR s D (fun q => s.heap.size ≤ q) s.heap as ca h H locs → zFR b (zmC 295 = 16) as h.length L1 [] ls (zmMax 295) → k1 + n ≤ KC → k2 + 6 * n ≤ KS → W p l e R s m args below meth c H locs k1 k2 Q (F0 m 23 ls []) := by
  have hLs : Ls ≤ 3072 := hX.2.2.2.2.1
  have hl0 := hX.2.2.2.2.2
  have hxs : ∀ j, zR32 ((fun j => (xs j).toInt) j) := fun j => r32 _
  have out : ∀ (i : Int) (hc : zHC) (hm : zHM) (o : Int → Int) (h : zH1) (L1 : zLo) (as : List Nat) (ca : Nat → ClassId) (ls : Array Slot) (H : Heap) (locs : List Loc) (k1 k2 : Nat), (Ls : Int) < i + 6 → zCR zlO zlA True (23, Lh i, [], (hc, hm, o)) (23, L1, [], h) → zHR s D (fun q => s.heap.size ≤ q) s.heap as ca h H locs → zFR b (zmC 295 = 16) as h.length L1 [] ls (zmMax 295) → k1 ≤ KC → k2 ≤ KS → W p l e R s m args below meth c H locs k1 k2 Q (F0 m 23 ls []) := by
    intro i hc hm o h L1 as ca ls H locs k1 k2 hlt hC hH hF hk1 hk2
    refine w_go (c1 := (23, L1, [], h)) hX (by omega) (by omega) (LH_out hLs hlt) hC hH hF ?_
    intro c2' c1' as1 ca1 ls1 H1 locs1 hP hC1 hLn hH1 hF1
    subst hP
    obtain ⟨pc1, L2, st1, h1⟩ := c1'
    obtain ⟨e1, e2, e3, e4⟩ := hC1
    dsimp only at e1 e2 e3 e4 hH1 hF1
    subst e1
    obtain ⟨b0, s0, rfl, q1, r1⟩ := zSR_cons e3
    have := zVR0 q1; subst this
    have := zSR_nil r1; subst this
    exact fin ls1 H1 locs1 k1 k2 hk1 hk2 hH1.2.2.2.2.1.2.2
  intro n
  induction n with
  | zero =>
    intro i hc hm o h L1 as ca ls H locs k1 k2 h0 hlt hG hC hln hH hF hk1 hk2
    exact out i hc hm o h L1 as ca ls H locs k1 k2 (by omega) hC hH hF (by omega) (by omega)
  | succ n ih =>
    intro i hc hm o h L1 as ca ls H locs k1 k2 h0 hlt hG hC hln hH hF hk1 hk2
    by_cases hin : (Ls : Int) < i + 6
    · exact out i hc hm o h L1 as ca ls H locs k1 k2 hin hC hH hF (by omega) (by omega)
    · have hi : 0 ≤ i ∧ i + 6 ≤ (Ls : Int) ∧ Ls ≤ 3072 := ⟨h0, by omega, hLs⟩
      have e6 : wadd i 6 = i + 6 := wadd_eq (by omega) (by omega)
      have nx : ∀ (o' : Int → Int) (j1 j2 : Nat) (c2' : zCf zH2) (c1' : zCf zH1) (as' : List Nat) (ca' : Nat → ClassId) (ls' : Array Slot) (H' : Heap) (locs' : List Loc), j1 + n ≤ KC → j2 + 6 * n ≤ KS → LN i o' c2' → zCR zlO zlA True c2' c1' → 197 ≤ c1'.2.2.2.length → zHR s D (fun q => s.heap.size ≤ q) s.heap as' ca' c1'.2.2.2 H' locs' → zFR b (zmC 295 = 16) as' c1'.2.2.2.length c1'.2.1 c1'.2.2.1 ls' (zmMax 295) → W p l e R s m args below meth c H' locs' j1 j2 Q (F0 m c1'.1 ls' (c1'.2.2.1.map (cv b as'))) := by
        intro o' j1 j2 c2' c1' as' ca' ls' H' locs' hj1 hj2 hP hC' hln' hH' hF'
        obtain ⟨hc', hm', hG', rfl⟩ := hP
        obtain ⟨pc1, L2, st1, h1⟩ := c1'
        obtain ⟨e1, e2, e3, e4⟩ := id hC'
        dsimp only at e1 e2 e3 e4 hH' hF' hln'
        subst e1
        have := zSR_nil e3; subst this
        exact ih (wadd i 6) hc' hm' o' h1 L2 as' ca' ls' H' locs' j1 j2 (by rw [e6]; omega) (by rw [e6]; omega) hG' hC' hln' hH' hF' hj1 hj2
      by_cases q4 : wand ((xs i.toNat).toInt) 63 = 4
      · exact w_sp (yL := yL_cliff) (bL := method_3_code) (idL := 44) (p1 := 358) hX (by omega) (by omega) lw_cliff gw_0 (by decide) (by decide +kernel) (by decide +kernel) _ _ (LH_in hi (LX_4 hi q4)) (fun h1 hR1 hl1 => wc_cliff hl0 hi hxs hG hR1 hl1) hC hln hH hF (fun o' c2' c1' as' ca' ls' H' locs' a1 a2 a3 a4 a5 => nx o' (k1 + 1) (k2 + 6) c2' c1' as' ca' ls' H' locs' (by omega) (by omega) a1 a2 a3 a4 a5)
      by_cases q5 : wand ((xs i.toNat).toInt) 63 = 5
      · exact w_sp (yL := yL_person) (bL := method_4_code) (idL := 50) (p1 := 398) hX (by omega) (by omega) lw_person gw_0 (by decide) (by decide +kernel) (by decide +kernel) _ _ (LH_in hi (LX_5 hi q5)) (fun h1 hR1 hl1 => wc_person hl0 hi hxs hG hR1 hl1) hC hln hH hF (fun o' c2' c1' as' ca' ls' H' locs' a1 a2 a3 a4 a5 => nx o' (k1 + 1) (k2 + 6) c2' c1' as' ca' ls' H' locs' (by omega) (by omega) a1 a2 a3 a4 a5)
      by_cases q6 : wand ((xs i.toNat).toInt) 63 = 6
      · exact w_sp (yL := yL_saying) (bL := method_5_code) (idL := 56) (p1 := 466) hX (by omega) (by omega) lw_saying gw_0 (by decide) (by decide +kernel) (by decide +kernel) _ _ (LH_in hi (LX_6 hi q6)) (fun h1 hR1 hl1 => wc_saying hl0 hi hxs hG hR1 hl1) hC hln hH hF (fun o' c2' c1' as' ca' ls' H' locs' a1 a2 a3 a4 a5 => nx o' (k1 + 1) (k2 + 6) c2' c1' as' ca' ls' H' locs' (by omega) (by omega) a1 a2 a3 a4 a5)
      refine w_go (c1 := (23, L1, [], h)) (P := LN i o) hX (by omega) (by omega) (LH_in hi (LC_all hi hxs hG q4 q5 q6)) hC hH hF ?_
      intro c2' c1' as' ca' ls' H' locs' a1 a2 a3 a4 a5
      exact nx o k1 k2 c2' c1' as' ca' ls' H' locs' (by omega) (by omega) a1 a2 (by have := a3.1; dsimp only at this; omega) a4 a5
end WL
