section ZT
variable {lO lA : Nat → Int → Nat} {sc : Prop} {Ls : Nat} {xs : Nat → Int}
/-- what the heap's instructions owe -/
def zHm (lO lA : Nat → Int → Nat) (sc : Prop) (r2 : Option (List Prop × List zAv × zH2)) (r1 : Option (List Prop × List zAv × zH1)) : Prop := ∀ gs st' g', r2 = some (gs, st', g') → zAll gs → ∃ gs1 st1' h', r1 = some (gs1, st1', h') ∧ zAll gs1 ∧ zSR lO lA sc st' st1' ∧ zR2 lO lA g' h'
theorem p_hp {hop2 : zHop zH2} {hop1 : zHop zH1} {i : Instr} {len : Nat} {ax : zAx} {c2 : zCf zH2} {c1 : zCf zH1} (h : zCR lO lA sc c2 c1) (hm : zHm lO lA sc (hop2 i ax c2.2.2.1 c2.2.2.2) (hop1 i ax c1.2.2.1 c1.2.2.2)) : zSm lO lA sc (zHp hop2 i len ax c2) (zHp hop1 i len ax c1) := by
  obtain ⟨h1, h2, h3, h4⟩ := h
  intro gs c2' hE hg
  unfold zHp at hE
  split at hE
  · rename_i gs' st' g' e1
    cases hE
    obtain ⟨gs1, st1', h', k1, k2, k3, k4⟩ := hm _ _ _ e1 hg
    refine ⟨gs1, (c1.1 + len, c1.2.1, st1', h'), ?_, k2, ⟨by rw [h1], h2, k3, k4⟩⟩
    unfold zHp
    rw [k1]
  · cases hE
variable {st st1 : List zAv} {g : zH2} {h : zH1} {ax : zAx}
theorem p_lda {kd t : Nat} (hkd : (kd = 20 ∧ t = 0) ∨ (kd = 21 ∧ t = 1) ∨ (kd = 22 ∧ t = 0)) (hS : zSR lO lA sc st st1) (hR : zR2 lO lA g h) : zHm lO lA sc (zLd2 kd t st g) (zLdA kd t false st1 h) := by
  intro gs st' g' hE hg
  unfold zLd2 at hE
  split at hE
  · rename_i i a n r
    split at hE
    · rename_i e1
      cases hE
      rw [Bool.and_eq_true] at e1
      have ha := Nat.le_of_ble_eq_true e1.1
      have hk2 := Nat.eq_of_beq_eq_true e1.2
      obtain ⟨b1, s1, q0, q2, q3⟩ := zSR_cons hS
      obtain ⟨b2, s2, q4, q5, q6⟩ := zSR_cons q3
      have := zVR0 q2; subst this
      obtain ⟨ci, k, x, hc, hk, hx, ht, h0, h1, hb⟩ := zVR_row ha q5
      obtain ⟨t1, t2, t3, -⟩ := zTg2_r (r := ci * 64 + k) (x := x) (zNf_le2 hc hk).1
      rw [ht] at hk2 hg
      rw [t2] at hk2
      rw [t3] at hg
      obtain ⟨f, f1, f2⟩ := hR.2.1 ci k x n hc hk hx h0 h1
      subst q4
      subst hb
      have hi : 0 ≤ i ∧ i < ((x % 65536 : Nat) : Int) := hg.1
      have hv : f i.toNat = zGt g (ci * 64 + k) n i := by
        have := f2 i.toNat (by omega)
        unfold zRw2 at this
        have hne : x / 65536 ≠ 23 ∧ x / 65536 ≠ 24 := by omega
        have hi2 : ((i.toNat : Nat) : Int) = i := by omega
        split at this
        · omega
        · omega
        · rw [hi2] at this
          exact this
      have hvr : zVR lO lA sc (t, zGt g (zTr a) n i) (t, f i.toNat) := by
        rw [ht, t1, hv]
        rcases hkd with ⟨-, rfl⟩ | ⟨-, rfl⟩ | ⟨-, rfl⟩
        · exact zVR_i
        · exact zVR_l
        · exact zVR_i
      refine ⟨[0 ≤ i ∧ i < ((x % 65536 : Nat) : Int)], (t, f i.toNat) :: s2, h, ?_, hg, ⟨hvr, q6⟩, hR⟩
      unfold zLdA
      rw [q0]
      simp only [Int.toNat_natCast, f1, hk2, Nat.beq_refl]
    · cases hE
  · cases hE
theorem p_sta {kd t : Nat} {b : Bool} {gf : Int → List Prop} (hgf : ∀ v : Int, (b = true → v = 0 ∨ v = 1) → zAll (gf v)) (hkd : (kd = 20 ∧ t = 0) ∨ (kd = 21 ∧ t = 1) ∨ (kd = 22 ∧ t = 0)) (ap : zAp lO lA) (hS : zSR lO lA sc st st1) (hR : zR2 lO lA g h) : zHm lO lA sc (zSt2 kd t b st g) (zStA kd t gf st1 h) := by
  intro gs st' g' hE hg
  unfold zSt2 at hE
  split at hE
  · rename_i u v i a n r
    split at hE
    · rename_i e1
      simp only [Bool.and_eq_true] at e1
      have ha := Nat.le_of_ble_eq_true e1.1.1
      have hk2 := Nat.eq_of_beq_eq_true e1.1.2
      have hu := Nat.eq_of_beq_eq_true e1.2
      subst hu
      obtain ⟨b0, s0, p0, p2, p3⟩ := zSR_cons hS
      obtain ⟨b1, s1, q0, q2, q3⟩ := zSR_cons p3
      obtain ⟨b2, s2, q4, q5, q6⟩ := zSR_cons q3
      have := zVR0 q2; subst this
      have hb0 : b0 = (u, v) := by
        rcases hkd with ⟨-, rfl⟩ | ⟨-, rfl⟩ | ⟨-, rfl⟩
        · exact zVR0 p2
        · exact zVR1 p2
        · exact zVR0 p2
      subst hb0
      obtain ⟨ci, k, x, hc, hk, hx, ht, h0, h1, hb⟩ := zVR_row ha q5
      obtain ⟨t1, t2, t3, -⟩ := zTg2_r (r := ci * 64 + k) (x := x) (zNf_le2 hc hk).1
      rw [ht] at hk2
      rw [t2] at hk2
      obtain ⟨f, f1, f2⟩ := hR.2.1 ci k x n hc hk hx h0 h1
      subst q4
      subst q0
      subst hb
      have hgg : (0 ≤ i ∧ i < ((x % 65536 : Nat) : Int)) ∧ (b = true → v = 0 ∨ v = 1) ∧ r = st' ∧ zPt g (zTr a) n i v = g' := by
        rw [ht, t3] at hE
        cases b with
        | true => cases hE; exact ⟨hg.1, fun _ => hg.2.1, rfl, by rw [ht]⟩
        | false => cases hE; exact ⟨hg.1, fun q => absurd q (by decide), rfl, by rw [ht]⟩
      obtain ⟨hi, hb, rfl, rfl⟩ := hgg
      rw [ht, t1]
      refine ⟨(0 ≤ i ∧ i < ((x % 65536 : Nat) : Int)) :: gf v, s2, h.set (lA (ci * 64 + k) n) (x / 65536, x % 65536, zUp f i.toNat v), ?_, ⟨hi, hgf v hb⟩, q6, ?_⟩
      · unfold zStA
        rw [p0]
        simp only [Int.toNat_natCast, f1, hk2, Nat.beq_refl, Bool.and_self]
      · refine zR2_row ap hR hc hk hx (by omega) h0 h1 f1 zPt_out (fun cj k' n' i' hcj hk' hn0 hn1 hne => zGt_other hc hk hcj hk' h0 h1 hn0 hn1 (fun q => hne ⟨q.1, q.2.1, q.2.2.1⟩)) (fun j hj => ?_)
        unfold zUp
        by_cases hji : j = i.toNat
        · rw [if_pos hji]
          have : (j : Int) = i := by omega
          rw [this]
          exact zGt_eq.symm
        · rw [if_neg hji]
          rw [zGt_other hc hk hc hk h0 h1 h0 h1 (fun q => hji (by have := q.2.2.2; omega))]
          have := f2 j hj
          unfold zRw2 at this
          split at this
          · omega
          · omega
          · exact this
    · cases hE
  · cases hE
theorem p_getf {x : Nat} (hax : zAx2 (.getfield x) ax = true) (hS : zSR lO lA sc st st1) (hR : zR2 lO lA g h) : zHm lO lA sc (zHop2 Ls xs (.getfield x) ax st g) (zHop1 Ls xs (.getfield x) ax st1 h) := by
  intro gs st' g' hE hg
  simp only [zAx2, Bool.and_eq_true, decide_eq_true_eq] at hax
  obtain ⟨⟨a1, a2⟩, a3⟩ := hax
  have hk : ax.2.1 < zNf ax.1 := Nat.le_of_ble_eq_true a2
  have hc : ax.1 < 13 := Nat.le_of_ble_eq_true a3
  simp only [zHop2] at hE
  split at hE
  · rename_i t n r
    split at hE
    · rename_i e1
      have e1 := Nat.eq_of_beq_eq_true e1
      subst e1
      obtain ⟨b1, s1, q0, q2, q3⟩ := zSR_cons hS
      obtain ⟨h0, h1, hb⟩ := zVR_obj hc q2
      subst hb
      subst q0
      obtain ⟨f, f1, f2⟩ := hR.1 ax.1 n hc h0 h1
      have f3 := f2 ax.2.1 hk
      have hw : ax.2.2.toNat = zW ax.1 ax.2.1 := by rw [a1]; rfl
      rw [hw] at hE
      have fin : ∀ (gs1 : List Prop) (a2' : zAv), zAll gs1 → zVR lO lA sc a2' (zTag ax.1 ax.2.1, f ax.2.1) → (gs1 = match Nat.beq (zTag ax.1 ax.2.1) 2 with
          | true => [0 ≤ f ax.2.1]
          | false => []) → some (gs, st', g') = some (([] : List Prop), a2' :: r, g) → ∃ gs1 st1' h', zHop1 Ls xs (.getfield x) ax ((2, (lO ax.1 n : Int)) :: s1) h = some (gs1, st1', h') ∧ zAll gs1 ∧ zSR lO lA sc st' st1' ∧ zR2 lO lA g' h' := by
        intro gs1 a2' k1 k2 k3 k4
        cases k4
        refine ⟨gs1, (zTag ax.1 ax.2.1, f ax.2.1) :: s1, h, ?_, k1, ⟨k2, q3⟩, hR⟩
        simp only [zHop1, Int.toNat_natCast, f1, Nat.beq_refl]
        cases hb : Nat.beq (zTag ax.1 ax.2.1) 2 with
        | true =>
          rw [hb] at k3
          rw [k3, Nat.eq_of_beq_eq_true hb]
        | false =>
          rw [hb] at k3
          rw [k3]
      rcases zW_sp hc hk with ⟨w1, w2, w3⟩ | ⟨w1, w2, w3⟩ | ⟨w1, w2, w3, w4, -⟩ | ⟨w1, w2, w3, w4⟩
      · unfold zFl2 at f3
        rw [w1] at hE f3
        simp only at hE f3
        exact fin [] (0, zGt g (ax.1 * 64 + ax.2.1) n 0) trivial (by rw [w2, f3]; exact zVR_i) (by rw [w2]) hE.symm
      · unfold zFl2 at f3
        rw [w1] at hE f3
        simp only at hE f3
        exact fin [] (1, zGt g (ax.1 * 64 + ax.2.1) n 0) trivial (by rw [w2, f3]; exact zVR_l) (by rw [w2]) hE.symm
      · unfold zFl2 at f3
        rw [w1] at hE f3
        simp only at hE f3
        have hx : zW ax.1 ax.2.1 = 2 + 4 * (zW ax.1 ax.2.1 / 4) := by omega
        exact fin [0 ≤ f ax.2.1] (zTg2 (ax.1 * 64 + ax.2.1) (zW ax.1 ax.2.1 / 4), n) ⟨by rw [f3]; omega, trivial⟩ (by rw [w2, f3]; exact zVR_a hc hk hx h0 h1) (by rw [w2]) hE.symm
      · unfold zFl2 at f3
        rw [w1] at hE f3
        simp only at hE f3
        rcases w4 with ⟨w5, w6⟩ | ⟨w5, w6⟩
        · rw [w5] at hE f3
          simp only at hE f3
          exact fin [0 ≤ f ax.2.1] (10 + zW ax.1 ax.2.1 / 4 % 16, ((zW ax.1 ax.2.1 / 128 : Nat) : Int)) ⟨by rw [f3]; omega, trivial⟩ (by rw [w2, f3]; exact zVR_o w3 (by omega) (by omega)) (by rw [w2]) hE.symm
        · rw [w5] at hE f3
          simp only at hE f3
          exact fin [0 ≤ f ax.2.1] (10 + zW ax.1 ax.2.1 / 4 % 16, n + ((zW ax.1 ax.2.1 / 128 : Nat) : Int)) ⟨by rw [f3]; omega, trivial⟩ (by rw [w2, f3]; exact zVR_o w3 (by omega) (by omega)) (by rw [w2]) hE.symm
    · cases hE
  · cases hE
theorem p_putf {x : Nat} (hax : zAx2 (.putfield x) ax = true) (ap : zAp lO lA) (hS : zSR lO lA sc st st1) (hR : zR2 lO lA g h) : zHm lO lA sc (zHop2 Ls xs (.putfield x) ax st g) (zHop1 Ls xs (.putfield x) ax st1 h) := by
  intro gs st' g' hE hg
  simp only [zAx2, Bool.and_eq_true, decide_eq_true_eq] at hax
  obtain ⟨⟨a1, a2⟩, a3⟩ := hax
  have hk : ax.2.1 < zNf ax.1 := Nat.le_of_ble_eq_true a2
  have hc : ax.1 < 13 := Nat.le_of_ble_eq_true a3
  simp only [zHop2] at hE
  split at hE
  · rename_i u v t n r
    split at hE
    · rename_i e1
      simp only [Bool.and_eq_true] at e1
      have e2 := Nat.eq_of_beq_eq_true e1.1
      have e3 := Nat.le_of_ble_eq_true e1.2.1
      have e4 := Nat.eq_of_beq_eq_true e1.2.2
      clear e1
      subst e2
      have hw : ax.2.2.toNat = zW ax.1 ax.2.1 := by rw [a1]; rfl
      rw [hw] at e3 e4
      subst e4
      cases hE
      obtain ⟨b0, s0, p0, p2, p3⟩ := zSR_cons hS
      obtain ⟨b1, s1, q0, q2, q3⟩ := zSR_cons p3
      obtain ⟨h0, h1, hb⟩ := zVR_obj hc q2
      subst hb
      subst q0
      obtain ⟨f, f1, f2⟩ := hR.1 ax.1 n hc h0 h1
      have htg : zTag ax.1 ax.2.1 = zW ax.1 ax.2.1 ∧ b0 = (zW ax.1 ax.2.1, v) := by
        rcases zW_sp hc hk with ⟨w1, w2, w3⟩ | ⟨w1, w2, w3⟩ | ⟨w1, w2, w3, w4, -⟩ | ⟨w1, w2, w3, w4⟩
        · rw [w3] at p2 ⊢; exact ⟨w2, zVR0 p2⟩
        · rw [w3] at p2 ⊢; exact ⟨w2, zVR1 p2⟩
        · omega
        · omega
      obtain ⟨t1, rfl⟩ := htg
      refine ⟨_, s1, h.set (lO ax.1 n) (ax.1, zNf ax.1, zUp f ax.2.1 v), ?_, hg, q3, zR2_putf ap hR hc hk e3 h0 h1 f1⟩
      rw [p0]
      simp only [zHop1, Int.toNat_natCast, f1, Nat.beq_refl, t1, Bool.and_self]
      rfl
    · cases hE
  · cases hE
theorem p_aald (hS : zSR lO lA sc st st1) (hR : zR2 lO lA g h) : zHm lO lA sc (zHop2 Ls xs .aaload ax st g) (zHop1 Ls xs .aaload ax st1 h) := by
  intro gs st' g' hE hg
  simp only [zHop2] at hE
  split at hE
  · rename_i i a n r
    split at hE
    · rename_i e1
      rw [Bool.and_eq_true] at e1
      have ha := Nat.le_of_ble_eq_true e1.1
      have hk2 := Nat.eq_of_beq_eq_true e1.2
      obtain ⟨b1, s1, q0, q2, q3⟩ := zSR_cons hS
      obtain ⟨b2, s2, q4, q5, q6⟩ := zSR_cons q3
      have := zVR0 q2; subst this
      obtain ⟨ci, k, x, hc, hk, hx, ht, h0, h1, hb⟩ := zVR_row ha q5
      obtain ⟨t1, t2, t3, -⟩ := zTg2_r (r := ci * 64 + k) (x := x) (zNf_le2 hc hk).1
      rw [ht] at hk2 hE
      rw [t2] at hk2
      rw [t3] at hE
      obtain ⟨f, f1, f2⟩ := hR.2.1 ci k x n hc hk hx h0 h1
      subst q4
      subst q0
      subst hb
      have fin : ∀ (kd cj : Nat) (base : Int), ax.1 = kd → (kd = 23 ∨ kd = 24) → cj < 13 → some (gs, st', g') = some ([0 ≤ i ∧ i < ((x % 65536 : Nat) : Int)], (10 + cj, base + i) :: r, g) → (∀ j : Nat, j < x % 65536 → f j = (lO cj (base + (j : Int)) : Int)) → 0 ≤ base → base + ((x % 65536 : Nat) : Int) ≤ (zCnt cj : Int) → ∃ gs1 st1' h', zHop1 Ls xs .aaload ax ((0, i) :: (2, (lA (ci * 64 + k) n : Int)) :: s2) h = some (gs1, st1', h') ∧ zAll gs1 ∧ zSR lO lA sc st' st1' ∧ zR2 lO lA g' h' := by
        intro kd cj base hax hkd hcj hE hf hb0 hb1
        cases hE
        have hi : 0 ≤ i ∧ i < ((x % 65536 : Nat) : Int) := hg.1
        have hv : f i.toNat = (lO cj (base + i) : Int) := by
          rw [hf i.toNat (by omega)]
          have : ((i.toNat : Nat) : Int) = i := by omega
          rw [this]
        refine ⟨[0 ≤ i ∧ i < ((x % 65536 : Nat) : Int), 0 ≤ f i.toNat], (2, f i.toNat) :: s2, h, ?_, ⟨hi, by rw [hv]; omega, trivial⟩, ⟨?_, q6⟩, hR⟩
        · simp only [zHop1]
          have hor : (Nat.beq ax.1 23 || Nat.beq ax.1 24) = true := by
            rcases hkd with rfl | rfl <;> rw [hax] <;> rfl
          rw [hor]
          simp only [zLdA, Int.toNat_natCast, f1, hk2, Nat.beq_refl]
        · rw [hv]
          exact zVR_o hcj (by omega) (by omega)
      split at hE
      · rename_i e3
        have hck : ci = 8 ∧ k = 2 := by
          rcases zW_sp hc hk with w | w | w | w
          · omega
          · omega
          · exact w.2.2.2.2.1.mp (by omega)
          · omega
        obtain ⟨rfl, rfl⟩ := hck
        have hx2 : x = 1507336 := by
          have : zW 8 2 = 6029346 := rfl
          omega
        subst hx2
        refine fin 23 1 2 e3 (Or.inl rfl) (by omega) hE.symm (fun j hj => ?_) (by omega) (by decide)
        have := f2 j hj
        unfold zRw2 at this
        simpa using this
      · rename_i e3
        have hck : ci = 11 ∧ k = 9 := by
          rcases zW_sp hc hk with w | w | w | w
          · omega
          · omega
          · exact w.2.2.2.2.2.mp (by omega)
          · omega
        obtain ⟨rfl, rfl⟩ := hck
        have hx2 : x = 1572866 := by
          have : zW 11 9 = 6291466 := rfl
          omega
        subst hx2
        refine fin 24 3 0 e3 (Or.inr rfl) (by omega) (by rw [Int.zero_add]; exact hE.symm) (fun j hj => ?_) (by omega) (by decide)
        have := f2 j hj
        unfold zRw2 at this
        rw [Int.zero_add]
        simpa using this
      · cases hE
    · cases hE
  · cases hE
end ZT
