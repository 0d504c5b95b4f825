section ZU
variable {lO lA : Nat → Int → Nat} {sc : Prop} {Ls : Nat} {xs : Nat → Int}
variable {st st1 : List zAv} {g : zH2} {h : zH1} {ax : zAx}
theorem zSR_len {r s : List zAv} (h : zSR lO lA sc r s) : s.length = r.length := by
  induction r generalizing s with
  | nil => rw [zSR_nil h]
  | cons a r ih =>
    obtain ⟨b, t, rfl, -, h2⟩ := zSR_cons h
    rw [List.length_cons, List.length_cons, ih h2]
theorem zRm_len {r s : List zAv} (h : zSR lO lA sc r s) (hr : zRm r = true) : zRm s = true := by
  unfold zRm at *
  rw [zSR_len h]
  exact hr
theorem p_alen (hS : zSR lO lA sc st st1) (hR : zR2 lO lA g h) : zHm lO lA sc (zHop2 Ls xs .arraylength ax st g) (zHop1 Ls xs .arraylength ax st1 h) := by
  intro gs st' g' hE hg
  simp only [zHop2] at hE
  split at hE
  · rename_i e0
    split at hE
    · rename_i z r
      cases hE
      obtain ⟨b1, s1, q0, q2, q3⟩ := zSR_cons hS
      have hb : b1 = (5, z) := by
        rcases q2 with ⟨w, -⟩ | ⟨w, -⟩ | ⟨-, w, -⟩ | ⟨w, -⟩ | ⟨ci, -, w, -⟩ | ⟨ci, k, y, -, -, -, w, -⟩
        · cases w
        · cases w
        · exact w
        · cases w
        · simp only at w; omega
        · unfold zTg2 at w; simp only at w; omega
      subst hb
      subst q0
      refine ⟨[], (0, (Ls : Int)) :: s1, h, ?_, trivial, ⟨zVR_i, q3⟩, hR⟩
      simp only [zHop1, e0]
    · cases hE
  · rename_i e0
    split at hE
    · rename_i a n r
      split at hE
      · rename_i e1
        cases hE
        have ha := Nat.le_of_ble_eq_true e1
        obtain ⟨b1, s1, q0, q2, q3⟩ := zSR_cons hS
        obtain ⟨ci, k, x, hc, hk, hx, ht, h0, h1, hb⟩ := zVR_row ha q2
        obtain ⟨t1, t2, t3, -⟩ := zTg2_r (r := ci * 64 + k) (x := x) (zNf_le2 hc hk).1
        obtain ⟨f, f1, f2⟩ := hR.2.1 ci k x n hc hk hx h0 h1
        subst hb
        subst q0
        refine ⟨[], (0, ((x % 65536 : Nat) : Int)) :: s1, h, ?_, trivial, ⟨by rw [ht, t3]; exact zVR_i, q3⟩, hR⟩
        have h20 : Nat.ble 20 (x / 65536) = true := Nat.ble_eq_true_of_le (by rcases zW_sp hc hk with w | w | w | w <;> omega)
        simp only [zHop1, e0, Int.toNat_natCast, f1, h20]
      · cases hE
    · cases hE
theorem p_sld (hS : zSR lO lA sc st st1) (hR : zR2 lO lA g h) : zHm lO lA sc (zHop2 Ls xs .iaload ax st g) (zHop1 Ls xs .iaload ax st1 h) := by
  intro gs st' g' hE hg
  simp only [zHop2] at hE
  split at hE
  · rename_i e0
    split at hE
    · rename_i j z r
      cases hE
      obtain ⟨b0, s0, p0, p2, p3⟩ := zSR_cons hS
      obtain ⟨b1, s1, q0, q2, q3⟩ := zSR_cons p3
      have := zVR0 p2; subst this
      have hb : b1 = (5, z) := by
        rcases q2 with ⟨w, -⟩ | ⟨w, -⟩ | ⟨-, w, -⟩ | ⟨w, -⟩ | ⟨ci, -, w, -⟩ | ⟨ci, k, y, -, -, -, w, -⟩
        · cases w
        · cases w
        · exact w
        · cases w
        · simp only at w; omega
        · unfold zTg2 at w; simp only at w; omega
      subst hb
      subst q0
      subst p0
      refine ⟨[0 ≤ j ∧ j < (Ls : Int)], (0, xs j.toNat) :: s1, h, ?_, hg, ⟨zVR_i, q3⟩, hR⟩
      simp only [zHop1, e0]
    · cases hE
  · rename_i e0
    obtain ⟨gs1, st1', h', k1, k2⟩ := p_lda (Or.inl ⟨rfl, rfl⟩) hS hR gs st' g' hE hg
    refine ⟨gs1, st1', h', ?_, k2⟩
    simp only [zHop1, e0]
    exact k1
theorem p_lald (hS : zSR lO lA sc st st1) (hR : zR2 lO lA g h) : zHm lO lA sc (zHop2 Ls xs .laload ax st g) (zHop1 Ls xs .laload ax st1 h) := by
  intro gs st' g' hE hg
  simp only [zHop2] at hE
  split at hE
  · rename_i i z r
    cases hE
    obtain ⟨b0, s0, p0, p2, p3⟩ := zSR_cons hS
    obtain ⟨b1, s1, q0, q2, q3⟩ := zSR_cons p3
    have := zVR0 p2; subst this
    have hb : b1 = (2, (lO 20 0 : Int)) := by
      rcases q2 with ⟨w, -⟩ | ⟨w, -⟩ | ⟨w, -⟩ | ⟨-, w⟩ | ⟨ci, -, w, -⟩ | ⟨ci, k, y, -, -, -, w, -⟩
      · cases w
      · cases w
      · cases w
      · exact w
      · simp only at w; omega
      · unfold zTg2 at w; simp only at w; omega
    subst hb
    subst q0
    obtain ⟨f, f1, f2⟩ := hR.2.2
    have hi : i = 0 := hg.1
    subst hi
    refine ⟨[0 ≤ (0 : Int) ∧ (0 : Int) < ((1 : Nat) : Int)], (1, f 0) :: s1, h, ?_, ⟨⟨by omega, by omega⟩, trivial⟩, ⟨by rw [f2]; exact zVR_l, q3⟩, hR⟩
    rw [p0]
    simp only [zHop1, zLdA, Int.toNat_natCast, f1, Nat.beq_refl]
    rfl
  · obtain ⟨gs1, st1', h', k1, k2⟩ := p_lda (Or.inr (Or.inl ⟨rfl, rfl⟩)) hS hR gs st' g' hE hg
    exact ⟨gs1, st1', h', k1, k2⟩
theorem zCpy_at {f0 f1 : Nat → Int} {sp dp n : Int} (h1 : 0 ≤ sp) (h2 : 0 ≤ dp) (h3 : 0 ≤ n) (i : Nat) : zCpy f0 f1 sp.toNat dp.toNat n.toNat i = if dp ≤ (i : Int) ∧ (i : Int) < dp + n then f0 (sp + ((i : Int) - dp)).toNat else f1 i := by
  unfold zCpy
  by_cases h : dp ≤ (i : Int) ∧ (i : Int) < dp + n
  · rw [if_pos h, if_pos ⟨by omega, by omega⟩]
    congr 1
    omega
  · rw [if_neg h, if_neg (fun q => h ⟨by omega, by omega⟩)]
theorem p_stat {x : Nat} (ap : zAp lO lA) (hS : zSR lO lA sc st st1) (hR : zR2 lO lA g h) : zHm lO lA sc (zHop2 Ls xs (.invokestatic x) ax st g) (zHop1 Ls xs (.invokestatic x) ax st1 h) := by
  intro gs st' g' hE hg
  simp only [zHop2] at hE
  split at hE
  · rename_i e0
    split at hE
    · rename_i n dp a d sp a1 s r
      split at hE
      · rename_i e1
        simp only [Bool.and_eq_true, Bool.or_eq_true] at e1
        obtain ⟨⟨⟨⟨u1, u2⟩, u3, u4⟩, u5, u6⟩, u7⟩ := e1
        have ha := Nat.le_of_ble_eq_true u1
        have ha1 := Nat.le_of_ble_eq_true u2
        have hkk := Nat.eq_of_beq_eq_true u3
        have hr6 := Nat.le_of_ble_eq_true u5
        have hr7 := Nat.le_of_ble_eq_true u6
        cases hE
        obtain ⟨b0, s0, p0, p1, p2⟩ := zSR_cons hS
        obtain ⟨b1, s1, p3, p4, p5⟩ := zSR_cons p2
        obtain ⟨b2, s2, p6, p7, p8⟩ := zSR_cons p5
        obtain ⟨b3, s3, p9, p10, p11⟩ := zSR_cons p8
        obtain ⟨b4, s4, p12, p13, p14⟩ := zSR_cons p11
        have := zVR0 p1; subst this
        have := zVR0 p4; subst this
        have := zVR0 p10; subst this
        obtain ⟨ci, k, y, hc, hk, hx, ht, h0, h1, hb⟩ := zVR_row ha p7
        obtain ⟨cj, k', y', hc', hk', hx', ht', h0', h1', hb'⟩ := zVR_row ha1 p13
        subst hb
        subst hb'
        subst p12
        subst p9
        subst p6
        subst p3
        obtain ⟨t1, t2, t3, -⟩ := zTg2_r (r := ci * 64 + k) (x := y) (zNf_le2 hc hk).1
        obtain ⟨t1', t2', t3', -⟩ := zTg2_r (r := cj * 64 + k') (x := y') (zNf_le2 hc' hk').1
        obtain ⟨f, f1, f2⟩ := hR.2.1 ci k y d hc hk hx h0 h1
        obtain ⟨f', f1', f2'⟩ := hR.2.1 cj k' y' s hc' hk' hx' h0' h1'
        rw [ht, ht'] at hkk
        rw [t2, t2'] at hkk
        rw [ht, t2] at u4
        rw [ht, t1] at hr6
        rw [ht', t1'] at hr7
        rw [ht, ht'] at hg
        rw [t3, t3'] at hg
        obtain ⟨g1, g2, g3, g4, g5, -⟩ := hg
        have hkd : y / 65536 = 20 ∨ y / 65536 = 21 := u4.imp (fun z => Nat.eq_of_beq_eq_true z) (fun z => Nat.eq_of_beq_eq_true z)
        rw [ht, ht', t1, t1']
        refine ⟨[0 ≤ sp, 0 ≤ dp, 0 ≤ n, sp + n ≤ ((y' % 65536 : Nat) : Int), dp + n ≤ ((y % 65536 : Nat) : Int)], s4, h.set (lA (ci * 64 + k) d) (y / 65536, y % 65536, zCpy f' f sp.toNat dp.toNat n.toNat), ?_, ⟨g1, g2, g3, g4, g5, trivial⟩, p14, ?_⟩
        · rw [p0]
          simp only [zHop1, e0, Int.toNat_natCast, f1, f1', ← hkk, Nat.beq_refl, zRm_len p14 u7, Bool.true_and, Bool.and_true]
          rcases hkd with q | q <;> rw [q] <;> rfl
        · refine zR2_row ap hR hc hk hx (by omega) h0 h1 f1 rfl (fun cm km n' i' hcm hkm hn0 hn1 hne => ?_) (fun j hj => ?_)
          · unfold zGt
            by_cases hr : Nat.ble 768 (cm * 64 + km) = true
            · rw [hr]
            · have hr : Nat.ble 768 (cm * 64 + km) = false := by
                cases q : Nat.ble 768 (cm * 64 + km) with
                | false => rfl
                | true => exact absurd q hr
              rw [hr]
              simp only [hcpy]
              rw [if_neg]
              rintro ⟨q1, q2, -⟩
              obtain ⟨q3, q4⟩ := reg_inj hcm hkm hc hk q1
              exact hne ⟨q3, q4, q2⟩
          · rw [zCpy_at g1 g2 g3]
            have e768 : Nat.ble 768 (ci * 64 + k) = false := by
              cases q : Nat.ble 768 (ci * 64 + k) with
              | false => rfl
              | true => have := Nat.le_of_ble_eq_true q; omega
            have e768' : Nat.ble 768 (cj * 64 + k') = false := by
              cases q : Nat.ble 768 (cj * 64 + k') with
              | false => rfl
              | true => have := Nat.le_of_ble_eq_true q; omega
            by_cases hin : dp ≤ (j : Int) ∧ (j : Int) < dp + n
            · rw [if_pos hin]
              have h5 := f2' (sp + ((j : Int) - dp)).toNat (by omega)
              unfold zRw2 at h5
              have h6 : f' (sp + ((j : Int) - dp)).toNat = zGt g (cj * 64 + k') s (((sp + ((j : Int) - dp)).toNat : Nat) : Int) := by
                split at h5
                · omega
                · omega
                · exact h5
              rw [h6]
              have h7 : (((sp + ((j : Int) - dp)).toNat : Nat) : Int) = sp + ((j : Int) - dp) := by omega
              rw [h7]
              unfold zGt
              rw [e768, e768']
              simp only [hcpy]
              rw [if_pos (by refine ⟨?_, ?_, hin.1, hin.2⟩ <;> trivial)]
            · rw [if_neg hin]
              have h5 := f2 j hj
              unfold zRw2 at h5
              have h6 : f j = zGt g (ci * 64 + k) d (j : Int) := by
                split at h5
                · omega
                · omega
                · exact h5
              rw [h6]
              unfold zGt
              rw [e768]
              simp only [hcpy]
              rw [if_neg]
              rintro ⟨-, -, q1, q2⟩
              exact hin ⟨q1, q2⟩
      · cases hE
    · cases hE
  · rename_i e0
    split at hE
    · rename_i v r
      split at hE
      · rename_i e1
        cases hE
        obtain ⟨b0, s0, p0, p1, p2⟩ := zSR_cons hS
        have := zVR0 p1; subst this
        refine ⟨[], (0, if v < 0 then wneg v else v) :: s0, h, ?_, trivial, ⟨zVR_i, p2⟩, hR⟩
        rw [p0]
        simp only [zHop1, e0, zRm_len p2 e1]
      · cases hE
    · cases hE
  · rename_i e0
    split at hE
    · rename_i w v r
      split at hE
      · rename_i e1
        cases hE
        obtain ⟨b0, s0, p0, p1, p2⟩ := zSR_cons hS
        obtain ⟨b1, s1, p3, p4, p5⟩ := zSR_cons p2
        have := zVR0 p1; subst this
        have := zVR0 p4; subst this
        subst p3
        refine ⟨[], (0, if w < v then w else v) :: s1, h, ?_, trivial, ⟨zVR_i, p5⟩, hR⟩
        rw [p0]
        simp only [zHop1, e0, zRm_len p5 e1]
      · cases hE
    · cases hE
  · rename_i e0
    split at hE
    · rename_i w v r
      split at hE
      · rename_i e1
        cases hE
        obtain ⟨b0, s0, p0, p1, p2⟩ := zSR_cons hS
        obtain ⟨b1, s1, p3, p4, p5⟩ := zSR_cons p2
        have := zVR0 p1; subst this
        have := zVR0 p4; subst this
        subst p3
        refine ⟨[], (0, if v < w then w else v) :: s1, h, ?_, trivial, ⟨zVR_i, p5⟩, hR⟩
        rw [p0]
        simp only [zHop1, e0, zRm_len p5 e1]
      · cases hE
    · cases hE
  · cases hE
set_option maxHeartbeats 1000000 in
theorem z_par {i : Instr} {len : Nat} {d : Int} {c2 : zCf zH2} {c1 : zCf zH1} (ap : zAp lO lA) (hax : zAx2 i ax = true) (h : zCR lO lA sc c2 c1) : zSm lO lA sc (zX (zHop2 Ls xs) i len ax d c2) (zX (zHop1 Ls xs) i len ax d c1) := by
  have hS := h.2.2.1
  have hR := h.2.2.2
  cases i
  case aload n => exact p_ld (Or.inr (Or.inr rfl)) h
  case aload_n n => exact p_ld (Or.inr (Or.inr rfl)) h
  case iload n => exact p_ld (Or.inl rfl) h
  case iload_n n => exact p_ld (Or.inl rfl) h
  case lload n => exact p_ld (Or.inr (Or.inl rfl)) h
  case lload_n n => exact p_ld (Or.inr (Or.inl rfl)) h
  case astore n => exact p_sto (Or.inr (Or.inr rfl)) h
  case astore_n n => exact p_sto (Or.inr (Or.inr rfl)) h
  case istore n => exact p_sto (Or.inl rfl) h
  case istore_n n => exact p_sto (Or.inl rfl) h
  case lstore n => exact p_stoL h
  case lstore_n n => exact p_stoL h
  case iconst n => exact p_ck (p_pu zVR_i h)
  case lconst n => exact p_pu zVR_l h
  case bipush n => exact p_ck (p_pu zVR_i h)
  case sipush n => exact p_ck (p_pu zVR_i h)
  case ldc n => exact p_pu zVR_i h
  case ldc_w n => exact p_pu zVR_i h
  case ldc2_w n => exact p_pu zVR_l h
  case iadd => exact p_b0 h
  case isub => exact p_b0 h
  case imul => exact p_b0 h
  case idiv => exact p_b0d h
  case irem => exact p_b0d h
  case iand => exact p_b0 h
  case ior => exact p_b0 h
  case ixor => exact p_b0 h
  case ishl => exact p_b0 h
  case ishr => exact p_b0 h
  case iushr => exact p_b0 h
  case ineg => exact p_u (Or.inl rfl) (Or.inl rfl) h
  case ladd => exact p_b1 h
  case lsub => exact p_b1 h
  case lmul => exact p_b1 h
  case ldiv => exact p_b1d h
  case lrem => exact p_b1d h
  case lor => exact p_b1 h
  case lshl => exact p_b10 h
  case lshr => exact p_b10 h
  case lcmp => exact p_cp h
  case i2l => exact p_u (Or.inl rfl) (Or.inr rfl) h
  case l2i => exact p_u (Or.inr rfl) (Or.inl rfl) h
  case dup => exact p_dup h
  case pop => exact p_pop h
  case dup2 => exact p_dup2 h
  case iinc n k => exact p_ii h
  case ifCond k off => exact p_if h
  case if_icmp k off => exact p_ic h
  case goto off => exact p_go h
  case tableswitch dflt lo hi offs => exact p_ts h
  case lookupswitch dflt ps => exact p_ls h
  case getfield x => exact p_hp h (p_getf hax hS hR)
  case putfield x => exact p_hp h (p_putf hax ap hS hR)
  case iaload => exact p_hp h (p_sld hS hR)
  case laload => exact p_hp h (p_lald hS hR)
  case baload => exact p_hp h (p_lda (Or.inr (Or.inr ⟨rfl, rfl⟩)) hS hR)
  case aaload => exact p_hp h (p_aald hS hR)
  case iastore => exact p_hp h (p_sta (b := false) (gf := fun _ => []) (fun _ _ => trivial) (Or.inl ⟨rfl, rfl⟩) ap hS hR)
  case lastore => exact p_hp h (p_sta (b := false) (gf := fun _ => []) (fun _ _ => trivial) (Or.inr (Or.inl ⟨rfl, rfl⟩)) ap hS hR)
  case bastore => exact p_hp h (p_sta (gf := fun v => [v = 0 ∨ v = 1]) (fun v q => ⟨q rfl, trivial⟩) (Or.inr (Or.inr ⟨rfl, rfl⟩)) ap hS hR)
  case arraylength => exact p_hp h (p_alen hS hR)
  case invokestatic x => exact p_hp h (p_stat ap hS hR)
  all_goals (intro gs c2' hE hg)
  all_goals (have q : (none : zRs zH2) = some (gs, c2') := hE; cases q)
end ZU
