/-! The law's three calls that catch, as the loop sees them. -/
theorem zGt_o {hc : zHC} {hm : zHM} {o o' : Int → Int} {r : Nat} {n i : Int} : zGt (hc, hm, o) r n i = zGt (hc, hm, o') r n i := rfl
theorem zR2_out {lO lA : Nat → Int → Nat} (ap : zAp lO lA) {hc : zHC} {hm : zHM} {o o' : Int → Int} {h : zH1} {f f' : Nat → Int} (hR : zR2 lO lA (hc, hm, o) h) (hf : h[lO 20 0]? = some (21, 1, f)) (e : f' 0 = o' 0) : zR2 lO lA (hc, hm, o') (h.set (lO 20 0) (21, 1, f')) := by
  obtain ⟨r1, r2, r3⟩ := hR
  have hlt : lO 20 0 < h.length := (List.getElem?_eq_some_iff.mp hf).1
  refine ⟨fun ci n hc' h0 h1 => ?_, fun ci k x n hc' hk hw h0 h1 => ?_, ⟨f', ?_, e⟩⟩
  · obtain ⟨f2, e2, e3⟩ := r1 ci n hc' h0 h1
    have hne : lO 20 0 ≠ lO ci n := by
      intro q
      rw [q, e2] at hf
      have := (Prod.mk.inj (Option.some.inj hf)).1
      omega
    refine ⟨f2, by rw [List.getElem?_set_ne hne]; exact e2, fun k hk => ?_⟩
    have := e3 k hk
    unfold zFl2 at this ⊢
    exact this
  · obtain ⟨f2, e2, e3⟩ := r2 ci k x n hc' hk hw h0 h1
    have hne : lO 20 0 ≠ lA (ci * 64 + k) n := fun q => ap.1 ci k x n hc' hk hw h0 h1 q.symm
    refine ⟨f2, by rw [List.getElem?_set_ne hne]; exact e2, fun i hi => ?_⟩
    have := e3 i hi
    unfold zRw2 at this ⊢
    exact this
  · rw [List.getElem?_set_self hlt]
theorem hm_K {l : Launch} {bs : Nat} {sk sv : Nat → Nat} {ac : Nat × Nat × Nat} (d : Nat) : ∀ k args h r h', zRun (zHop1 0 (fun _ => 0)) zRc1 spec1 d k args h r h' → zMetK l bs (KK bs sk sv ac) d k args h r h' :=
  z_metK KK_keep (fun d k args h r h' hd hs => by
    obtain ⟨rfl, rfl, rfl, rfl⟩ := hs
    exact z_pack hd) d
theorem xl_sr {c w : Int} : zSR zlO zlA False [(21, 0), (0, c), (0, w)] [(2, 0), (0, c), (0, w)] := ⟨Or.inr (Or.inr (Or.inr (Or.inr (Or.inl ⟨11, by decide, rfl, by decide, by decide, by decide⟩)))), Or.inl ⟨rfl, rfl⟩, Or.inl ⟨rfl, rfl⟩, trivial⟩
/-- what such a call gives the loop -/
def wC (l : Launch) (bs : Nat) (sk sv : Nat → Nat) (ac : Nat × Nat × Nat) (yL : MethodName) (bL : ByteArray) (v1 v2 : Int) (Ls : Nat) (xs : Nat → Int) (i : Int) (p2 : Nat) (hc : zHC) (hm : zHM) (h : zH1) : Prop :=
  ∃ (kk : Int) (o' : Int → Int) (h2 : zH1), zLn2 h h2 ∧ zR2 zlO zlA (hc, hm, o') h2 ∧ (∀ (D : va_G) (b : Nat) (as : List Nat) (ca : Nat → ClassId) (sz : Nat), Met l yL (Cond.codeWith yL bL 5 (some .int) xlh :: zGW) (zRm1 22 1 6) (va_Pc ([(2, 0), (0, v1), (0, v2), (2, 196)].map (cv b as)) (fun U => U.heap.size = sz ∧ zPreK bs (KK bs sk sv ac) D as ca h U)) (zQc D b as ca h sz (some (0, kk)) h2) 1 6 (va_A (zWs as ca h) sz)) ∧
    zTo Ls xs (zRu2 (fun _ _ _ _ _ => False) 600) 295 (LN i o') (p2, Lh i, [(0, kk)], (hc, hm, o'))
abbrev yL_cliff : MethodName := ⟨"EchoValeLaw", "cliff", "(LEchoVale;II[J)I"⟩
theorem xd_cliff : xl_dec method_3_code 7 := by
  unfold xl_dec
  decide +kernel
theorem xw_cliff : xl_wds 163 7 := ⟨by decide, by decide +kernel, by decide +kernel, zG_at (i := 1153) (by decide +kernel) (by decide +kernel), zG_at (i := 1154) (by decide +kernel) (by decide +kernel), zG_at (i := 1155) (by decide +kernel) (by decide +kernel)⟩
theorem lw_cliff : Cond.methodLink "EchoValeLaw" 44 yL_cliff ∈ zGW ∧ Cond.static yL_cliff ∈ zGW ∧ Cond.codeWith yL_cliff method_3_code 5 (some .int) xlh ∈ zGW := ⟨zG_at (i := 1149) (by decide +kernel) (by decide +kernel), zG_at (i := 1150) (by decide +kernel) (by decide +kernel), zG_at (i := 1151) (by decide +kernel) (by decide +kernel)⟩
theorem wc_cliff {l : Launch} (hl0 : l.stackTraces = false) {bs : Nat} {sk sv : Nat → Nat} {ac : Nat × Nat × Nat} {Ls : Nat} {xs : Nat → Int} {i : Int} {hc : zHC} {hm : zHM} {o : Int → Int} {h : zH1} (hi : 0 ≤ i ∧ i + 6 ≤ (Ls : Int) ∧ Ls ≤ 3072) (hxs : ∀ j, zR32 (xs j)) (hG : RG hc hm) (hR : zR2 zlO zlA (hc, hm, o) h) (hln : 197 ≤ h.length) :
    wC l bs sk sv ac yL_cliff method_3_code (xs (wadd i 1).toNat) (xs (wadd i 2).toNat) Ls xs i 361 hc hm h := by
  have hmet := fun k args h r h' => hm_K (l := l) (bs := bs) (sk := sk) (sv := sv) (ac := ac) 20 k args h r h'
  obtain ⟨f0, e0, -⟩ := hR.1 11 0 (by decide) (by decide) (by decide)
  rw [show zlO 11 0 = 0 from by decide] at e0
  have e578 : hc 578 0 0 = hm 14 2 := hG.2.1.1.1.2.2.1
  by_cases q : 0 ≤ xs (wadd i 1).toNat ∧ xs (wadd i 1).toNat < hm 14 2 ∧ 0 ≤ xs (wadd i 2).toNat ∧ xs (wadd i 2).toNat ≤ 3
  · obtain ⟨r, hm', q1, q2, q3, q4⟩ := (C_cliff hG).1 q
    obtain ⟨r1, h2, g1, g2, g3, g4⟩ := sp_rr (d := 20) 163 [(21, 0), (0, xs (wadd i 1).toNat), (0, xs (wadd i 2).toNat)] [(2, 0), (0, xs (wadd i 1).toNat), (0, xs (wadd i 2).toNat)] (hc, hm, o) (some (0, r)) (hc, hm, o) h (S163 (by decide) _ _ hc _ q1) xl_sr hR
    cases r1 with
    | none => exact g2.elim
    | some y =>
      have := zVR0 g2
      subst this
      obtain ⟨f1, e1, -⟩ := g3.2.2
      rw [show zlO 20 0 = 196 from by decide] at e1
      have hz := zR2_out zAp_ok (o' := fun _ => r) (f' := zUp f1 0 r) g3 (by rw [show zlO 20 0 = 196 from by decide]; exact e1) (by unfold zUp; rw [if_pos rfl])
      rw [show zlO 20 0 = 196 from by decide] at hz
      exact ⟨0, fun _ => r, _, ⟨by rw [List.length_set]; exact g4.1, (zSl_set (c' := (21, 1, zUp f1 0 r)) e1 rfl).trans g4.2⟩, hz, fun D b as ca sz => xl_ret hmet (by decide) rfl xd_cliff xw_cliff g1 g4 e0 e1 hln (hxs _) (hxs _) D b as ca sz, LP_4 hi (Or.inl ⟨rfl, rfl⟩) q2 q3 q4⟩
  · obtain ⟨r, hm', q2, q3, q4⟩ := (C_cliff hG).2 q
    obtain ⟨n, L', h2, g1, g2, g3⟩ := xq_run (d := 20) hR (xq_cliff (o := o) (by decide) e578 (fun z => q ⟨z.1.1, z.1.2, z.2.1, z.2.2⟩))
    exact ⟨1, o, h2, g2, g3, fun D b as ca sz => xl_thr hl0 hmet (by decide) (by decide) rfl xd_cliff xw_cliff (by decide +kernel) g1 g2 (by decide +kernel) (by decide +kernel) (by decide +kernel) (by decide +kernel) (by decide +kernel) (fun U H hK => hK.2.2.1) e0 hln (hxs _) (hxs _) D b as ca sz, LP_4 hi (Or.inr rfl) q2 q3 q4⟩
abbrev yL_person : MethodName := ⟨"EchoValeLaw", "person", "(LEchoVale;II[J)I"⟩
theorem xd_person : xl_dec method_4_code 15 := by
  unfold xl_dec
  decide +kernel
theorem xw_person : xl_wds 164 15 := ⟨by decide, by decide +kernel, by decide +kernel, zG_at (i := 1225) (by decide +kernel) (by decide +kernel), zG_at (i := 1226) (by decide +kernel) (by decide +kernel), zG_at (i := 1227) (by decide +kernel) (by decide +kernel)⟩
theorem lw_person : Cond.methodLink "EchoValeLaw" 50 yL_person ∈ zGW ∧ Cond.static yL_person ∈ zGW ∧ Cond.codeWith yL_person method_4_code 5 (some .int) xlh ∈ zGW := ⟨zG_at (i := 1222) (by decide +kernel) (by decide +kernel), zG_at (i := 1223) (by decide +kernel) (by decide +kernel), zG_at (i := 1224) (by decide +kernel) (by decide +kernel)⟩
theorem wc_person {l : Launch} (hl0 : l.stackTraces = false) {bs : Nat} {sk sv : Nat → Nat} {ac : Nat × Nat × Nat} {Ls : Nat} {xs : Nat → Int} {i : Int} {hc : zHC} {hm : zHM} {o : Int → Int} {h : zH1} (hi : 0 ≤ i ∧ i + 6 ≤ (Ls : Int) ∧ Ls ≤ 3072) (hxs : ∀ j, zR32 (xs j)) (hG : RG hc hm) (hR : zR2 zlO zlA (hc, hm, o) h) (hln : 197 ≤ h.length) :
    wC l bs sk sv ac yL_person method_4_code (xs (wadd i 1).toNat) (xs (wadd i 2).toNat) Ls xs i 401 hc hm h := by
  have hmet := fun k args h r h' => hm_K (l := l) (bs := bs) (sk := sk) (sv := sv) (ac := ac) 20 k args h r h'
  obtain ⟨f0, e0, -⟩ := hR.1 11 0 (by decide) (by decide) (by decide)
  rw [show zlO 11 0 = 0 from by decide] at e0
  have e579 : hc 579 0 0 = hm 14 3 := hG.2.1.1.1.2.2.2.1
  by_cases q : 0 ≤ xs (wadd i 1).toNat ∧ xs (wadd i 1).toNat < hm 14 3 ∧ 0 ≤ xs (wadd i 2).toNat ∧ xs (wadd i 2).toNat ≤ 5
  · obtain ⟨r, hm', q1, q2, q3, q4⟩ := (C_person hG).1 q
    obtain ⟨r1, h2, g1, g2, g3, g4⟩ := sp_rr (d := 20) 164 [(21, 0), (0, xs (wadd i 1).toNat), (0, xs (wadd i 2).toNat)] [(2, 0), (0, xs (wadd i 1).toNat), (0, xs (wadd i 2).toNat)] (hc, hm, o) (some (0, r)) (hc, hm, o) h (S164 (by decide) _ _ hc _ q1) xl_sr hR
    cases r1 with
    | none => exact g2.elim
    | some y =>
      have := zVR0 g2
      subst this
      obtain ⟨f1, e1, -⟩ := g3.2.2
      rw [show zlO 20 0 = 196 from by decide] at e1
      have hz := zR2_out zAp_ok (o' := fun _ => r) (f' := zUp f1 0 r) g3 (by rw [show zlO 20 0 = 196 from by decide]; exact e1) (by unfold zUp; rw [if_pos rfl])
      rw [show zlO 20 0 = 196 from by decide] at hz
      exact ⟨0, fun _ => r, _, ⟨by rw [List.length_set]; exact g4.1, (zSl_set (c' := (21, 1, zUp f1 0 r)) e1 rfl).trans g4.2⟩, hz, fun D b as ca sz => xl_ret hmet (by decide) rfl xd_person xw_person g1 g4 e0 e1 hln (hxs _) (hxs _) D b as ca sz, LP_5 hi (Or.inl ⟨rfl, rfl⟩) q2 q3 q4⟩
  · obtain ⟨r, hm', q2, q3, q4⟩ := (C_person hG).2 q
    obtain ⟨n, L', h2, g1, g2, g3⟩ := xq_run (d := 20) hR (xq_person (o := o) (by decide) e579 (fun z => q ⟨z.1.1, z.1.2, z.2.1, z.2.2⟩))
    exact ⟨1, o, h2, g2, g3, fun D b as ca sz => xl_thr hl0 hmet (by decide) (by decide) rfl xd_person xw_person (by decide +kernel) g1 g2 (by decide +kernel) (by decide +kernel) (by decide +kernel) (by decide +kernel) (by decide +kernel) (fun U H hK => hK.2.2.2.1) e0 hln (hxs _) (hxs _) D b as ca sz, LP_5 hi (Or.inr rfl) q2 q3 q4⟩
abbrev yL_saying : MethodName := ⟨"EchoValeLaw", "saying", "(LEchoVale;II[J)I"⟩
theorem xd_saying : xl_dec method_5_code 18 := by
  unfold xl_dec
  decide +kernel
theorem xw_saying : xl_wds 167 18 := ⟨by decide, by decide +kernel, by decide +kernel, zG_at (i := 1241) (by decide +kernel) (by decide +kernel), zG_at (i := 1242) (by decide +kernel) (by decide +kernel), zG_at (i := 1243) (by decide +kernel) (by decide +kernel)⟩
theorem lw_saying : Cond.methodLink "EchoValeLaw" 56 yL_saying ∈ zGW ∧ Cond.static yL_saying ∈ zGW ∧ Cond.codeWith yL_saying method_5_code 5 (some .int) xlh ∈ zGW := ⟨zG_at (i := 1238) (by decide +kernel) (by decide +kernel), zG_at (i := 1239) (by decide +kernel) (by decide +kernel), zG_at (i := 1240) (by decide +kernel) (by decide +kernel)⟩
theorem wc_saying {l : Launch} (hl0 : l.stackTraces = false) {bs : Nat} {sk sv : Nat → Nat} {ac : Nat × Nat × Nat} {Ls : Nat} {xs : Nat → Int} {i : Int} {hc : zHC} {hm : zHM} {o : Int → Int} {h : zH1} (hi : 0 ≤ i ∧ i + 6 ≤ (Ls : Int) ∧ Ls ≤ 3072) (hxs : ∀ j, zR32 (xs j)) (hG : RG hc hm) (hR : zR2 zlO zlA (hc, hm, o) h) (hln : 197 ≤ h.length) :
    wC l bs sk sv ac yL_saying method_5_code (xs (wadd i 1).toNat) (xs (wadd i 2).toNat) Ls xs i 469 hc hm h := by
  have hmet := fun k args h r h' => hm_K (l := l) (bs := bs) (sk := sk) (sv := sv) (ac := ac) 20 k args h r h'
  obtain ⟨f0, e0, -⟩ := hR.1 11 0 (by decide) (by decide) (by decide)
  rw [show zlO 11 0 = 0 from by decide] at e0
  have e65 : hc 65 0 0 = hm 14 216 := (by have := hG.2.1.2.1.2.1; omega)
  by_cases q : 0 ≤ xs (wadd i 1).toNat ∧ xs (wadd i 1).toNat < hm 14 216 ∧ 0 ≤ xs (wadd i 2).toNat ∧ xs (wadd i 2).toNat ≤ 7
  · obtain ⟨r, hm', q1, q2, q3, q4⟩ := (C_saying hG).1 q
    obtain ⟨r1, h2, g1, g2, g3, g4⟩ := sp_rr (d := 20) 167 [(21, 0), (0, xs (wadd i 1).toNat), (0, xs (wadd i 2).toNat)] [(2, 0), (0, xs (wadd i 1).toNat), (0, xs (wadd i 2).toNat)] (hc, hm, o) (some (0, r)) (hc, hm, o) h (S167 (by decide) _ _ hc _ q1) xl_sr hR
    cases r1 with
    | none => exact g2.elim
    | some y =>
      have := zVR0 g2
      subst this
      obtain ⟨f1, e1, -⟩ := g3.2.2
      rw [show zlO 20 0 = 196 from by decide] at e1
      have hz := zR2_out zAp_ok (o' := fun _ => r) (f' := zUp f1 0 r) g3 (by rw [show zlO 20 0 = 196 from by decide]; exact e1) (by unfold zUp; rw [if_pos rfl])
      rw [show zlO 20 0 = 196 from by decide] at hz
      exact ⟨0, fun _ => r, _, ⟨by rw [List.length_set]; exact g4.1, (zSl_set (c' := (21, 1, zUp f1 0 r)) e1 rfl).trans g4.2⟩, hz, fun D b as ca sz => xl_ret hmet (by decide) rfl xd_saying xw_saying g1 g4 e0 e1 hln (hxs _) (hxs _) D b as ca sz, LP_6 hi (Or.inl ⟨rfl, rfl⟩) q2 q3 q4⟩
  · obtain ⟨r, hm', q2, q3, q4⟩ := (C_saying hG).2 q
    obtain ⟨n, L', h2, g1, g2, g3⟩ := xq_run (d := 20) hR (xq_saying (o := o) (by decide) e65 (fun z => q ⟨z.1.1, z.1.2, z.2.1, z.2.2⟩))
    exact ⟨1, o, h2, g2, g3, fun D b as ca sz => xl_thr hl0 hmet (by decide) (by decide) rfl xd_saying xw_saying (by decide +kernel) g1 g2 (by decide +kernel) (by decide +kernel) (by decide +kernel) (by decide +kernel) (by decide +kernel) (fun U H hK => hK.2.2.2.2.1) e0 hln (hxs _) (hxs _) D b as ca sz, LP_6 hi (Or.inr rfl) q2 q3 q4⟩
