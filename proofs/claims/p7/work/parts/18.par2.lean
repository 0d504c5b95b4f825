section ZQ
variable {lO lA : Nat → Int → Nat} {sc : Prop}
theorem zW_sp {ci k : Nat} (h : ci < 13) (hk : k < zNf ci) :
    (zW ci k % 4 = 0 ∧ zTag ci k = 0 ∧ zW ci k = 0) ∨ (zW ci k % 4 = 1 ∧ zTag ci k = 1 ∧ zW ci k = 1) ∨
    (zW ci k % 4 = 2 ∧ zTag ci k = 2 ∧ 20 ≤ zW ci k / 4 / 65536 ∧ zW ci k / 4 / 65536 ≤ 24 ∧ (zW ci k / 4 / 65536 = 23 ↔ ci = 8 ∧ k = 2) ∧ (zW ci k / 4 / 65536 = 24 ↔ ci = 11 ∧ k = 9)) ∨
    (zW ci k % 4 = 3 ∧ zTag ci k = 2 ∧ zW ci k / 4 % 16 < 13 ∧ ((zW ci k / 64 % 2 = 0 ∧ zW ci k / 128 < zCnt (zW ci k / 4 % 16)) ∨ (zW ci k / 64 % 2 = 1 ∧ zCnt ci + zW ci k / 128 ≤ zCnt (zW ci k / 4 % 16)))) := by
  have h1 := List.all_eq_true.mp (List.all_eq_true.mp zW_all ci (List.mem_range.mpr h)) k (List.mem_range.mpr hk)
  have h4 : zW ci k % 4 < 4 := Nat.mod_lt _ (by omega)
  have hm : zW ci k % 4 = 0 ∨ zW ci k % 4 = 1 ∨ zW ci k % 4 = 2 ∨ zW ci k % 4 = 3 := by omega
  rcases hm with hm | hm | hm | hm
  · simp only [hm, Bool.and_eq_true] at h1
    exact Or.inl ⟨hm, Nat.eq_of_beq_eq_true h1.1, Nat.eq_of_beq_eq_true h1.2⟩
  · simp only [hm, Bool.and_eq_true] at h1
    exact Or.inr (Or.inl ⟨hm, Nat.eq_of_beq_eq_true h1.1, Nat.eq_of_beq_eq_true h1.2⟩)
  · simp only [hm, Bool.and_eq_true, beq_iff_eq] at h1
    obtain ⟨q1, ⟨⟨q2, q3⟩, q4⟩, q5⟩ := h1
    refine Or.inr (Or.inr (Or.inl ⟨hm, Nat.eq_of_beq_eq_true q1, Nat.le_of_ble_eq_true q2, Nat.le_of_ble_eq_true q3, ?_, ?_⟩))
    · constructor
      · intro e
        rw [e] at q4
        have q4 : (Nat.beq ci 8 && Nat.beq k 2) = true := q4.symm
        rw [Bool.and_eq_true] at q4
        exact ⟨Nat.eq_of_beq_eq_true q4.1, Nat.eq_of_beq_eq_true q4.2⟩
      · rintro ⟨rfl, rfl⟩
        exact Nat.eq_of_beq_eq_true (q4.trans rfl)
    · constructor
      · intro e
        rw [e] at q5
        have q5 : (Nat.beq ci 11 && Nat.beq k 9) = true := q5.symm
        rw [Bool.and_eq_true] at q5
        exact ⟨Nat.eq_of_beq_eq_true q5.1, Nat.eq_of_beq_eq_true q5.2⟩
      · rintro ⟨rfl, rfl⟩
        exact Nat.eq_of_beq_eq_true (q5.trans rfl)
  · simp only [hm, Bool.and_eq_true] at h1
    obtain ⟨q1, q2, q3⟩ := h1
    refine Or.inr (Or.inr (Or.inr ⟨hm, Nat.eq_of_beq_eq_true q1, Nat.le_of_ble_eq_true q2, ?_⟩))
    have hb : zW ci k / 64 % 2 = 0 ∨ zW ci k / 64 % 2 = 1 := by omega
    rcases hb with hb | hb
    · simp only [hb] at q3
      exact Or.inl ⟨hb, Nat.le_of_ble_eq_true q3⟩
    · simp only [hb] at q3
      exact Or.inr ⟨hb, Nat.le_of_ble_eq_true q3⟩
theorem zVR_obj {ci : Nat} {n : Int} {a1 : zAv} (hc : ci < 13) (h : zVR lO lA sc (10 + ci, n) a1) : 0 ≤ n ∧ n < (zCnt ci : Int) ∧ a1 = (2, (lO ci n : Int)) := by
  rcases h with ⟨h, -⟩ | ⟨h, -⟩ | ⟨h, -⟩ | ⟨h, -⟩ | ⟨cj, -, h, h2, h3, h4⟩ | ⟨cj, k, y, -, -, -, h, -⟩
  · simp only at h; omega
  · simp only at h; omega
  · simp only at h; omega
  · simp only at h; omega
  · have : cj = ci := by simp only at h; omega
    subst this
    exact ⟨h2, h3, h4⟩
  · unfold zTg2 at h; simp only at h; omega
theorem zVR_row {t : Nat} {n : Int} {a1 : zAv} (ht : 1000 ≤ t) (h : zVR lO lA sc (t, n) a1) : ∃ ci k x, ci < 13 ∧ k < zNf ci ∧ zW ci k = 2 + 4 * x ∧ t = zTg2 (ci * 64 + k) x ∧ 0 ≤ n ∧ n < (zCnt ci : Int) ∧ a1 = (2, (lA (ci * 64 + k) n : Int)) := by
  rcases h with ⟨h, -⟩ | ⟨h, -⟩ | ⟨h, -⟩ | ⟨h, -⟩ | ⟨cj, hc, h, h2, h3, h4⟩ | ⟨cj, k, y, h1, h2, h3, h4, h5, h6, h7⟩
  · simp only at h; omega
  · simp only at h; omega
  · simp only at h; omega
  · simp only at h; omega
  · simp only at h; omega
  · exact ⟨cj, k, y, h1, h2, h3, h4, h5, h6, h7⟩
theorem zVR_o {ci : Nat} {n : Int} (hc : ci < 13) (h0 : 0 ≤ n) (h1 : n < (zCnt ci : Int)) : zVR lO lA sc (10 + ci, n) (2, (lO ci n : Int)) := Or.inr (Or.inr (Or.inr (Or.inr (Or.inl ⟨ci, hc, rfl, h0, h1, rfl⟩))))
theorem zVR_a {ci k x : Nat} {n : Int} (hc : ci < 13) (hk : k < zNf ci) (hw : zW ci k = 2 + 4 * x) (h0 : 0 ≤ n) (h1 : n < (zCnt ci : Int)) : zVR lO lA sc (zTg2 (ci * 64 + k) x, n) (2, (lA (ci * 64 + k) n : Int)) := Or.inr (Or.inr (Or.inr (Or.inr (Or.inr ⟨ci, k, x, hc, hk, hw, rfl, h0, h1, rfl⟩))))
theorem zGt_eq {g : zH2} {r : Nat} {n i v : Int} : zGt (zPt g r n i v) r n i = v := by
  unfold zGt zPt
  cases e : Nat.ble 768 r with
  | false => simp [hset]
  | true => simp [mset]
theorem zGt_ne {g : zH2} {r r' : Nat} {n n' i i' v : Int} (h : r' ≠ r ∨ (r < 768 ∧ n' ≠ n) ∨ i' ≠ i) : zGt (zPt g r n i v) r' n' i' = zGt g r' n' i' := by
  unfold zGt zPt
  cases e : Nat.ble 768 r with
  | false =>
    cases e2 : Nat.ble 768 r' with
    | false =>
      simp only [hset]
      rw [if_neg]
      rintro ⟨q1, q2, q3⟩
      rcases h with h | ⟨-, h⟩ | h
      · exact h q1
      · exact h q2
      · exact h q3
    | true => rfl
  | true =>
    have hr := Nat.le_of_ble_eq_true e
    cases e2 : Nat.ble 768 r' with
    | false => rfl
    | true =>
      have hr' := Nat.le_of_ble_eq_true e2
      simp only [mset]
      rw [if_neg]
      rintro ⟨q1, q3⟩
      rcases h with h | ⟨h, -⟩ | h
      · exact h (by omega)
      · omega
      · exact h q3
theorem zPt_out {g : zH2} {r : Nat} {n i v : Int} : (zPt g r n i v).2.2 = g.2.2 := by
  unfold zPt
  cases Nat.ble 768 r <;> rfl
theorem zCnt12 : zCnt 12 = 1 := rfl
theorem reg_inj {ci k cj k' : Nat} (h1 : ci < 13) (h2 : k < zNf ci) (h3 : cj < 13) (h4 : k' < zNf cj) (h : ci * 64 + k = cj * 64 + k') : ci = cj ∧ k = k' := by
  have a := (zNf_le2 h1 h2).2
  have b := (zNf_le2 h3 h4).2
  omega
/-- the second heap's place is another one -/
theorem zGt_other {g : zH2} {ci k cj k' : Nat} {n n' i i' v : Int} (h1 : ci < 13) (h2 : k < zNf ci) (h3 : cj < 13) (h4 : k' < zNf cj) (hn : 0 ≤ n) (hn2 : n < (zCnt ci : Int)) (hm : 0 ≤ n') (hm2 : n' < (zCnt cj : Int)) (h : ¬ (cj = ci ∧ k' = k ∧ n' = n ∧ i' = i)) : zGt (zPt g (ci * 64 + k) n i v) (cj * 64 + k') n' i' = zGt g (cj * 64 + k') n' i' := by
  apply zGt_ne
  by_cases hr : cj * 64 + k' = ci * 64 + k
  · obtain ⟨e1, e2⟩ := reg_inj h3 h4 h1 h2 hr
    subst e1
    subst e2
    by_cases hi : i' = i
    · right; left
      have hnn : n' ≠ n := fun q => h ⟨rfl, rfl, q, hi⟩
      refine ⟨?_, hnn⟩
      by_cases h12 : cj = 12
      · subst h12
        rw [zCnt12] at hn2 hm2
        omega
      · have := (zNf_le2 h1 h2).2
        omega
    · exact Or.inr (Or.inr hi)
  · exact Or.inl hr
theorem zFl2_keep {g g' : zH2} {ci k : Nat} {n v : Int} (h : zFl2 lO lA g ci k n v) (hg : zW ci k % 4 ≤ 1 → zGt g' (ci * 64 + k) n 0 = zGt g (ci * 64 + k) n 0) : zFl2 lO lA g' ci k n v := by
  unfold zFl2 at *
  split at h
  · rename_i e; rw [hg (by omega)]; exact h
  · rename_i e; rw [hg (by omega)]; exact h
  · exact h
  · exact h
theorem zRw2_keep {g g' : zH2} {kd r i : Nat} {n v : Int} (h : zRw2 lO g kd r n i v) (e : zGt g' r n i = zGt g r n i) : zRw2 lO g' kd r n i v := by
  unfold zRw2 at *
  split at h
  · exact h
  · exact h
  · rw [e]; exact h
/-- a field of numbers is written -/
theorem zR2_putf {g : zH2} {h : zH1} {ci k : Nat} {n v : Int} {f : Nat → Int} (ap : zAp lO lA) (hR : zR2 lO lA g h) (hc : ci < 13) (hk : k < zNf ci) (hw : zW ci k ≤ 1) (h0 : 0 ≤ n) (h1 : n < (zCnt ci : Int)) (hcell : h[lO ci n]? = some (ci, zNf ci, f)) :
    zR2 lO lA (zPt g (ci * 64 + k) n 0 v) (h.set (lO ci n) (ci, zNf ci, zUp f k v)) := by
  obtain ⟨r1, r2, r3⟩ := hR
  obtain ⟨ap0, ap1, ap2⟩ := ap
  have hlt := (List.getElem?_eq_some_iff.mp hcell).1
  refine ⟨fun cj n' hcj hn0 hn1 => ?_, fun cj k' x n' hcj hk' hx hn0 hn1 => ?_, ?_⟩
  · obtain ⟨f', e1, e2⟩ := r1 cj n' hcj hn0 hn1
    by_cases hid : lO ci n = lO cj n'
    · obtain ⟨q1, q2⟩ := ap1 ci cj n n' hc hcj h0 h1 hn0 hn1 hid
      subst q1
      subst q2
      rw [hcell] at e1
      cases e1
      refine ⟨zUp f k v, by rw [List.getElem?_set_self hlt], fun k' hk' => ?_⟩
      by_cases hkk : k' = k
      · subst hkk
        have hz : zUp f k' v k' = v := by simp [zUp]
        rw [hz]
        unfold zFl2
        have hww : zW ci k' = 0 ∨ zW ci k' = 1 := by omega
        rcases hww with hww | hww
        · rw [hww]; exact zGt_eq.symm
        · rw [hww]; exact zGt_eq.symm
      · have hz : zUp f k v k' = f k' := by simp [zUp, hkk]
        rw [hz]
        exact zFl2_keep (e2 k' hk') (fun _ => zGt_other hc hk hc hk' h0 h1 h0 h1 (fun q => hkk q.2.1))
    · refine ⟨f', by rw [List.getElem?_set_ne hid]; exact e1, fun k' hk' => ?_⟩
      refine zFl2_keep (e2 k' hk') (fun _ => zGt_other hc hk hcj hk' h0 h1 hn0 hn1 (fun q => hid ?_))
      rw [q.1, q.2.2.1]
  · obtain ⟨f', e1, e2⟩ := r2 cj k' x n' hcj hk' hx hn0 hn1
    have hid : ¬ lO ci n = lA (cj * 64 + k') n' := by
      intro q
      rw [← q, hcell] at e1
      have e1 := congrArg Prod.fst (Option.some.inj e1)
      simp only at e1
      rcases zW_sp hcj hk' with w | w | w | w <;> omega
    exact ⟨f', by rw [List.getElem?_set_ne hid]; exact e1, fun i hi => zRw2_keep (e2 i hi) (zGt_other hc hk hcj hk' h0 h1 hn0 hn1 (fun q => by
        obtain ⟨q1, q2, -⟩ := q
        subst q1
        subst q2
        omega))⟩
  · obtain ⟨f', e1, e2⟩ := r3
    have hid : ¬ lO ci n = lO 20 0 := by
      intro q
      rw [← q, hcell] at e1
      have e1 := congrArg Prod.fst (Option.some.inj e1)
      simp only at e1
      omega
    exact ⟨f', by rw [List.getElem?_set_ne hid]; exact e1, by rw [zPt_out]; exact e2⟩
/-- a row of numbers is written, at any places -/
theorem zR2_row {g g' : zH2} {h : zH1} {ci k x : Nat} {n : Int} {f f' : Nat → Int} (ap : zAp lO lA) (hR : zR2 lO lA g h) (hc : ci < 13) (hk : k < zNf ci) (hx : zW ci k = 2 + 4 * x) (hkd : x / 65536 ≤ 22) (h0 : 0 ≤ n) (h1 : n < (zCnt ci : Int)) (hcell : h[lA (ci * 64 + k) n]? = some (x / 65536, x % 65536, f))
    (hout : g'.2.2 = g.2.2) (hoth : ∀ (cj k' : Nat) (n' i' : Int), cj < 13 → k' < zNf cj → 0 ≤ n' → n' < (zCnt cj : Int) → ¬ (cj = ci ∧ k' = k ∧ n' = n) → zGt g' (cj * 64 + k') n' i' = zGt g (cj * 64 + k') n' i') (hself : ∀ i : Nat, i < x % 65536 → f' i = zGt g' (ci * 64 + k) n i) :
    zR2 lO lA g' (h.set (lA (ci * 64 + k) n) (x / 65536, x % 65536, f')) := by
  obtain ⟨r1, r2, r3⟩ := hR
  obtain ⟨ap0, ap1, ap2⟩ := ap
  have hlt := (List.getElem?_eq_some_iff.mp hcell).1
  have h20 : 20 ≤ x / 65536 := by rcases zW_sp hc hk with w | w | w | w <;> omega
  refine ⟨fun cj n' hcj hn0 hn1 => ?_, fun cj k' x' n' hcj hk' hx' hn0 hn1 => ?_, ?_⟩
  · obtain ⟨f2, e1, e2⟩ := r1 cj n' hcj hn0 hn1
    have hid : ¬ lA (ci * 64 + k) n = lO cj n' := by
      intro q
      rw [← q, hcell] at e1
      have e1 := congrArg Prod.fst (Option.some.inj e1)
      simp only at e1
      omega
    refine ⟨f2, by rw [List.getElem?_set_ne hid]; exact e1, fun k' hk' => zFl2_keep (e2 k' hk') (fun w => hoth cj k' n' 0 hcj hk' hn0 hn1 (fun q => ?_))⟩
    obtain ⟨q1, q2, -⟩ := q
    subst q1
    subst q2
    omega
  · obtain ⟨f2, e1, e2⟩ := r2 cj k' x' n' hcj hk' hx' hn0 hn1
    by_cases hid : lA (ci * 64 + k) n = lA (cj * 64 + k') n'
    · obtain ⟨q1, q2, q3⟩ := ap2 ci k x cj k' x' n n' hc hk hx h0 h1 hcj hk' hx' hn0 hn1 hid
      subst q1
      subst q2
      subst q3
      have : x' = x := by omega
      subst this
      refine ⟨f', by rw [List.getElem?_set_self hlt], fun i hi => ?_⟩
      unfold zRw2
      split
      · omega
      · omega
      · exact hself i hi
    · exact ⟨f2, by rw [List.getElem?_set_ne hid]; exact e1, fun i hi => zRw2_keep (e2 i hi) (hoth cj k' n' i hcj hk' hn0 hn1 (fun q => hid (by rw [q.1, q.2.1, q.2.2])))⟩
  · obtain ⟨f2, e1, e2⟩ := r3
    exact ⟨f2, by rw [List.getElem?_set_ne (ap0 ci k x n hc hk hx h0 h1)]; exact e1, by rw [hout]; exact e2⟩
end ZQ
