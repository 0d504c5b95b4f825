/-! The library's own methods that ride as one instruction. -/
section ZK
variable {p : Program} {l : Launch} {e : Env} {R : Room} {s : State} {m : MethodId} {args : Array Value} {below : List Frame} {meth : Method} {c : Code} {Q : State → Prop}
variable {D : va_G} {A : Nat → Prop} {H0 : Heap} {b Ls : Nat} {xs : Nat → Int32} {mi n0 s0 : Nat}
variable {pc pc' : Nat} {L : zLo} {st st' : List zAv} {h h' : zH1} {gs : List Prop} {cf : zCf zH1} {as0 : List Nat}
theorem zRm_sum {as : List Nat} {r : List zAv} (h : zRm r = true) : ((r.map (cv b as)).map fun v => v.category).sum ≤ 16 := by
  have h1 : r.length ≤ 8 := Nat.le_of_ble_eq_true h
  have key : ∀ r : List zAv, ((r.map (cv b as)).map fun v => v.category).sum ≤ 2 * r.length := by
    intro r
    induction r with
    | nil => simp
    | cons a r ih =>
      simp only [List.map_cons, List.sum_cons, List.length_cons]
      rcases lv_cat (cv b as a) with q | q <;> omega
  have := key r
  omega
theorem zAny_2 {cls x : Nat} (h : zLY.any (fun r => Nat.beq r.1 cls && Nat.beq r.2.1 x) = true) : Cond.methodLink (zOw cls) x arraycopyName ∈ zGW := by
  obtain ⟨r, hr, h1⟩ := List.any_eq_true.mp h
  simp only [Bool.and_eq_true] at h1
  have e1 := Nat.eq_of_beq_eq_true h1.1; have e2 := Nat.eq_of_beq_eq_true h1.2
  have h5 := zMap zLY_at r hr
  rw [e1, e2] at h5
  exact zAt h5 rfl
theorem zAny_o {cls x : Nat} (h : zLO.any (fun r => Nat.beq r.1 cls && Nat.beq r.2.1 x) = true) : Cond.methodLink (zOw cls) x Lib.objectInit ∈ zGW := by
  obtain ⟨r, hr, h1⟩ := List.any_eq_true.mp h
  simp only [Bool.and_eq_true] at h1
  have e1 := Nat.eq_of_beq_eq_true h1.1; have e2 := Nat.eq_of_beq_eq_true h1.2
  have h5 := zMap zLO_at r hr
  rw [e1, e2] at h5
  exact zAt h5 rfl
theorem zAny_m {cls x k : Nat} (h : zLM.any (fun r => Nat.beq r.1 cls && Nat.beq r.2.1 x && Nat.beq r.2.2.1 k) = true) : Cond.methodLink (zOw cls) x (zMn k) ∈ zGW := by
  obtain ⟨r, hr, h1⟩ := List.any_eq_true.mp h
  simp only [Bool.and_eq_true] at h1
  obtain ⟨⟨a1, a2⟩, a3⟩ := h1
  have e1 := Nat.eq_of_beq_eq_true a1; have e2 := Nat.eq_of_beq_eq_true a2; have e3 := Nat.eq_of_beq_eq_true a3
  have h5 := zMap zLM_at r hr
  rw [e1, e2, e3] at h5
  exact zAt h5 rfl
theorem zCpy_I {f g : Nat → Int} {sp dp n : Nat} : (fun j => Int32.ofInt (zCpy f g sp dp n j)) = va_cpy (fun j => Int32.ofInt (f j)) (fun j => Int32.ofInt (g j)) sp dp n := by
  funext j
  unfold zCpy va_cpy
  split <;> rfl
theorem zCpy_J {f g : Nat → Int} {sp dp n : Nat} : (fun j => Int64.ofInt (zCpy f g sp dp n j)) = va_cpy (fun j => Int64.ofInt (f j)) (fun j => Int64.ofInt (g j)) sp dp n := by
  funext j
  unfold zCpy va_cpy
  split <;> rfl
theorem wfc_cpy {N kd n0 n1 sp dp n : Nat} {f g : Nat → Int} (h20 : 20 ≤ kd) (hf : wfc N (kd, n0, f)) (hg : wfc N (kd, n1, g)) (h1 : sp + n ≤ n0) (h2 : dp + n ≤ n1) : wfc N (kd, n1, zCpy f g sp dp n) := by
  have f1 := wfc_arr hf h20
  rcases hg with ⟨g1, -⟩ | ⟨g1, g2, g3, g4⟩
  · simp only at g1; omega
  · refine Or.inr ⟨g1, g2, g3, fun k hk => ?_⟩
    show wff N (zKt kd) (zCpy f g sp dp n k)
    unfold zCpy
    split
    · exact f1.2 _ (by show sp + (k - dp) < n0; omega)
    · exact g4 k hk
theorem z_copy {x : Nat} {ax : zAx} (hax1 : ax.1 = 5001) (X : zCx p R s m args meth c A H0 b Ls xs mi) (hdec : decode (zmCode mi) pc = .ok (.invokestatic x, 3)) (hax : zLY.any (fun r => Nat.beq r.1 (zmC mi) && Nat.beq r.2.1 x) = true)
    (hE : zHop1 Ls (fun j => (xs j).toInt) (.invokestatic x) ax st h = some (gs, st', h')) (hg : zAll gs) (kk : zGoal p l e R s m args below meth c Q D A H0 b mi n0 s0 as0 (pc + 3, L, st', h')) : zGoal p l e R s m args below meth c Q D A H0 b mi n0 s0 as0 (pc, L, st, h) := by
  obtain ⟨hx, hb, hml, hown, hts, hkn, hA, hnm, -, hrf, hrl⟩ := X
  simp only [zHop1, hax1] at hE
  split at hE
  · rename_i n dp d sp s1 r
    split at hE
    · rename_i k0 m0 f k1 m1 g e0 e1
      split at hE
      · rename_i e2
        simp only [Bool.and_eq_true, Bool.or_eq_true] at e2
        obtain ⟨⟨e3, e4⟩, e5⟩ := e2
        have e3 := Nat.eq_of_beq_eq_true e3
        subst e3
        cases hE
        obtain ⟨g1, g2, g3, g4, g5, -⟩ := hg
        have hnw : nativeFrameWords "java/lang/System" "arraycopy" 5 = 7 := by decide +kernel
        intro as ca ls H locs hH hF hp
        dsimp only at hH hF ⊢
        obtain ⟨a1, ⟨tys, a2, a3⟩, a4, a5, a6, a7⟩ := id hH
        have hn : zR32 n := hF.hd
        have hdp : zR32 dp := hF.tl.hd
        have hsp : zR32 sp := hF.tl.tl.tl.hd
        have hsz : c.maxLocals = ls.size := by rw [hml, hF.1.1]
        have he0 := zWs_at (as := as) (ca := ca) e0
        have he1 := zWs_at (as := as) (ca := ca) e1
        have h20 : 20 ≤ k0 := by
          rcases e4 with q | q
          · rw [Nat.eq_of_beq_eq_true q]; exact Nat.le_refl _
          · rw [Nat.eq_of_beq_eq_true q]; omega
        obtain ⟨t0, ht0⟩ := a3 _ _ e0 h20
        obtain ⟨t1, ht1⟩ := a3 _ _ e1 h20
        have p1 : ¬ Int32.ofInt sp < 0 := by rw [← o32_0, o32_lt hsp r32_0]; omega
        have p2 : ¬ Int32.ofInt dp < 0 := by rw [← o32_0, o32_lt hdp r32_0]; omega
        have p3 : ¬ Int32.ofInt n < 0 := by rw [← o32_0, o32_lt hn r32_0]; omega
        have c1 := o32_cl hsp g1
        have c2 := o32_cl hdp g2
        have c3 := o32_cl hn g3
        have hwn : wfc h.length (k0, m1, zCpy f g sp.toNat dp.toNat n.toNat) := wfc_cpy h20 (a7 _ _ e0) (a7 _ _ e1) (by omega) (by omega)
        have hsum := zRm_sum (b := b) (as := as) e5
        have go : ∀ (H1 : Heap) (locs1 : List Loc), va_P D vwCl (zWs as ca (h.set d.toNat (k0, m1, zCpy f g sp.toNat dp.toNat n.toNat))) H1 → va_D A (zWs as ca (h.set d.toNat (k0, m1, zCpy f g sp.toNat dp.toNat n.toNat))) → va_S A H0 H1 locs1 → W p l e R s m args below meth c H1 locs1 (h.length - n0) (zSl h - s0) Q (F0 m (pc + 3) ls (st'.map (cv b as))) := by
          intro H1 locs1 b1 b2 b3
          have := kk as ca ls H1 locs1 (hH.set (cl' := (k0, m1, zCpy f g sp.toNat dp.toNat n.toNat)) e1 rfl hwn b1 b2 b3) (by rw [List.length_set]; exact hF.tl.tl.tl.tl.tl) hp
          simp only [List.length_set] at this
          rw [zSl_set (c' := (k0, m1, zCpy f g sp.toNat dp.toNat n.toNat)) e1 rfl] at this
          exact this
        rcases e4 with q | q
        · have q := Nat.eq_of_beq_eq_true q
          subst q
          rw [zEnt_I] at he0 he1
          refine va_copyi hx hb hsz hown (hts _ (zAny_2 hax)) (hts _ zp_nat) (hts _ zp_stat) (hts _ zp_isys) a2 a4 a5 a6 s1.toNat d.toNat t0 t1 he0 he1 ht0 ht1 rfl p1 p2 p3 (by rw [c1, c3]; omega) (by rw [c2, c3]; omega) (fun _ _ => rfl) hrf (by rw [hnw]; omega) hdec ?_
          intro H1 locs1 b1 b2 b3
          rw [c1, c2, c3, ← zCpy_I, ← zEnt_I (as := as), zWs_set] at b1 b2
          exact go H1 locs1 b1 b2 b3
        · have q := Nat.eq_of_beq_eq_true q
          subst q
          rw [zEnt_J] at he0 he1
          refine va_copyl hx hb hsz hown (hts _ (zAny_2 hax)) (hts _ zp_nat) (hts _ zp_stat) (hts _ zp_isys) a2 a4 a5 a6 s1.toNat d.toNat t0 t1 he0 he1 ht0 ht1 rfl p1 p2 p3 (by rw [c1, c3]; omega) (by rw [c2, c3]; omega) (fun _ _ => rfl) hrf (by rw [hnw]; omega) hdec ?_
          intro H1 locs1 b1 b2 b3
          rw [c1, c2, c3, ← zCpy_J, ← zEnt_J (as := as), zWs_set] at b1 b2
          exact go H1 locs1 b1 b2 b3
      · cases hE
    · cases hE
  · cases hE
theorem zSl_nil {h : zH1} (hs : zSl h - s0 ≤ R.slots) : zSl h - s0 ≤ R.slots := hs
theorem z_mabs {x : Nat} {ax : zAx} (hax1 : ax.1 = 5002) (X : zCx p R s m args meth c A H0 b Ls xs mi) (hdec : decode (zmCode mi) pc = .ok (.invokestatic x, 3)) (hax : zLM.any (fun r => Nat.beq r.1 (zmC mi) && Nat.beq r.2.1 x && Nat.beq r.2.2.1 2) = true) (hrc : h'.length - n0 ≤ R.cells) (hrs : zSl h' - s0 ≤ R.slots)
    (hE : zHop1 Ls (fun j => (xs j).toInt) (.invokestatic x) ax st h = some (gs, st', h')) (kk : zGoal p l e R s m args below meth c Q D A H0 b mi n0 s0 as0 (pc + 3, L, st', h')) : zGoal p l e R s m args below meth c Q D A H0 b mi n0 s0 as0 (pc, L, st, h) := by
  obtain ⟨hx, hb, hml, hown, hts, hkn, hA, hnm, -, hrf, hrl⟩ := X
  simp only [zHop1, hax1] at hE
  split at hE
  · rename_i v r
    split at hE
    · rename_i e1
      cases hE
      intro as ca ls H locs hH hF hp
      dsimp only at hH hF ⊢
      have hsum := zRm_sum (b := b) (as := as) e1
      have hv : zR32 v := hF.hd
      refine va_mabs hx hb (by rw [hml, hF.1.1]) hown (hts _ (zAny_m hax)) (hts _ zp_mabss) (hts _ zp_mini) (hts _ zp_mabsc) hrf (by omega) hrc hrs hdec ?_
      have e2 : (if 0 ≤ Int32.ofInt v then Int32.ofInt v else 0 - Int32.ofInt v) = Int32.ofInt (if v < 0 then wneg v else v) := by
        have hle : 0 ≤ Int32.ofInt v ↔ 0 ≤ v := o32_le r32_0 hv
        by_cases hv0 : v < 0
        · rw [if_neg (fun q => by have := hle.mp q; omega), if_pos hv0, wneg, Int32.ofInt_toInt, Int32.zero_sub]
        · rw [if_pos (hle.mpr (by omega)), if_neg hv0]
      rw [e2]
      exact kk as ca ls H locs hH (hF.tl.push (a := (0, if v < 0 then wneg v else v)) (by
        show zR32 _
        split
        · exact r32 _
        · exact hv)) hp
    · cases hE
  · cases hE
theorem z_mmin {x : Nat} {ax : zAx} (hax1 : ax.1 = 5003) (X : zCx p R s m args meth c A H0 b Ls xs mi) (hdec : decode (zmCode mi) pc = .ok (.invokestatic x, 3)) (hax : zLM.any (fun r => Nat.beq r.1 (zmC mi) && Nat.beq r.2.1 x && Nat.beq r.2.2.1 3) = true) (hrc : h'.length - n0 ≤ R.cells) (hrs : zSl h' - s0 ≤ R.slots)
    (hE : zHop1 Ls (fun j => (xs j).toInt) (.invokestatic x) ax st h = some (gs, st', h')) (kk : zGoal p l e R s m args below meth c Q D A H0 b mi n0 s0 as0 (pc + 3, L, st', h')) : zGoal p l e R s m args below meth c Q D A H0 b mi n0 s0 as0 (pc, L, st, h) := by
  obtain ⟨hx, hb, hml, hown, hts, hkn, hA, hnm, -, hrf, hrl⟩ := X
  simp only [zHop1, hax1] at hE
  split at hE
  · rename_i w v r
    split at hE
    · rename_i e1
      cases hE
      intro as ca ls H locs hH hF hp
      dsimp only at hH hF ⊢
      have hsum := zRm_sum (b := b) (as := as) e1
      have hw : zR32 w := hF.hd
      have hv : zR32 v := hF.tl.hd
      refine va_mmin hx hb (by rw [hml, hF.1.1]) hown (hts _ (zAny_m hax)) (hts _ zp_mmins) (hts _ zp_mini) (hts _ zp_mminc) hrf (by omega) hrc hrs hdec ?_
      have e2 : (if Int32.ofInt w < Int32.ofInt v then Int32.ofInt w else Int32.ofInt v) = Int32.ofInt (if w < v then w else v) := by
        simp only [o32_lt hw hv]
        split <;> rfl
      have := kk as ca ls H locs hH (hF.tl.tl.push (a := (0, if w < v then w else v)) (by
        show zR32 _
        split
        · exact hw
        · exact hv)) hp
      simp only [List.map_cons, cv, ← e2] at this
      exact this
    · cases hE
  · cases hE
theorem z_mmax {x : Nat} {ax : zAx} (hax1 : ax.1 = 5004) (X : zCx p R s m args meth c A H0 b Ls xs mi) (hdec : decode (zmCode mi) pc = .ok (.invokestatic x, 3)) (hax : zLM.any (fun r => Nat.beq r.1 (zmC mi) && Nat.beq r.2.1 x && Nat.beq r.2.2.1 4) = true) (hrc : h'.length - n0 ≤ R.cells) (hrs : zSl h' - s0 ≤ R.slots)
    (hE : zHop1 Ls (fun j => (xs j).toInt) (.invokestatic x) ax st h = some (gs, st', h')) (kk : zGoal p l e R s m args below meth c Q D A H0 b mi n0 s0 as0 (pc + 3, L, st', h')) : zGoal p l e R s m args below meth c Q D A H0 b mi n0 s0 as0 (pc, L, st, h) := by
  obtain ⟨hx, hb, hml, hown, hts, hkn, hA, hnm, -, hrf, hrl⟩ := X
  simp only [zHop1, hax1] at hE
  split at hE
  · rename_i w v r
    split at hE
    · rename_i e1
      cases hE
      intro as ca ls H locs hH hF hp
      dsimp only at hH hF ⊢
      have hsum := zRm_sum (b := b) (as := as) e1
      have hw : zR32 w := hF.hd
      have hv : zR32 v := hF.tl.hd
      refine va_mmax hx hb (by rw [hml, hF.1.1]) hown (hts _ (zAny_m hax)) (hts _ zp_mmaxs) (hts _ zp_mini) (hts _ zp_mmaxc) hrf (by omega) hrc hrs hdec ?_
      have e2 : (if Int32.ofInt v < Int32.ofInt w then Int32.ofInt w else Int32.ofInt v) = Int32.ofInt (if v < w then w else v) := by
        simp only [o32_lt hv hw]
        split <;> rfl
      have := kk as ca ls H locs hH (hF.tl.tl.push (a := (0, if v < w then w else v)) (by
        show zR32 _
        split
        · exact hw
        · exact hv)) hp
      simp only [List.map_cons, cv, ← e2] at this
      exact this
    · cases hE
  · cases hE
theorem z_obj {x : Nat} {ax : zAx} (X : zCx p R s m args meth c A H0 b Ls xs mi) (hdec : decode (zmCode mi) pc = .ok (.invokespecial x, 3)) (hax : ax.1 = 5000 → zLO.any (fun r => Nat.beq r.1 (zmC mi) && Nat.beq r.2.1 x) = true)
    (hE : zHop1 Ls (fun j => (xs j).toInt) (.invokespecial x) ax st h = some (gs, st', h')) (kk : zGoal p l e R s m args below meth c Q D A H0 b mi n0 s0 as0 (pc + 3, L, st', h')) : zGoal p l e R s m args below meth c Q D A H0 b mi n0 s0 as0 (pc, L, st, h) := by
  obtain ⟨hx, hb, hml, hown, hts, hkn, hA, hnm, -, hrf, hrl⟩ := X
  simp only [zHop1] at hE
  split at hE
  · rename_i e0
    have hax := hax (Nat.eq_of_beq_eq_true e0)
    split at hE
    · rename_i o r
      split at hE
      · rename_i e1
        cases hE
        intro as ca ls H locs hH hF hp
        dsimp only at hH hF ⊢
        have hsum := zRm_sum (b := b) (as := as) e1
        exact W.objInit hx hb hown (hts _ (zAny_o hax)) (hts _ zp_obi) (hts _ zp_obc) rfl (by show ls.size = _; rw [hml, hF.1.1]) rfl hdec hrf (by show 2 * 0 + _ + 12 ≤ _; omega) (kk as ca ls H locs hH hF.tl hp)
      · cases hE
    · cases hE
  · cases hE
end ZK
