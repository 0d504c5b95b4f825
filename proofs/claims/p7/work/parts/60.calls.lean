/-! Calls. -/
theorem z10 {α : Type} {a b : α} : (if (1 : Int) = 0 then a else b) = b := if_neg (by decide)
theorem z00 {α : Type} {a b : α} : (if (0 : Int) = 0 then a else b) = a := if_pos rfl
theorem zn10 {α : Type} {a b : α} : (if ¬ (1 : Int) = 0 then a else b) = a := if_pos (by decide)
theorem zn00 {α : Type} {a b : α} : (if ¬ (0 : Int) = 0 then a else b) = b := if_neg (by decide)
theorem E188 {v a b : Int} : F188 v a b = some (if a ≤ v ∧ v ≤ b then 1 else 0) := by
  unfold F188
  by_cases q : v < a
  · rw [if_pos q, if_neg (by omega)]
  · by_cases q2 : b < v
    · rw [if_neg q, if_pos q2, if_neg (by omega)]
    · rw [if_neg q, if_neg q2, if_pos (by omega)]
theorem E242 {v : Int} : F242 v = some (if 1 ≤ v ∧ v ≤ 60 then 1 else 0) := by
  unfold F242
  rw [E188]
  by_cases q : 1 ≤ v ∧ v ≤ 60
  · rw [if_pos q]; rfl
  · rw [if_neg q]; rfl
theorem E99 {v : Int} : F99 v = some (if 1 ≤ v ∧ v ≤ 60 then 1 else 0) := by
  unfold F99
  by_cases q : v < 1
  · rw [if_pos q, if_neg (by omega)]
  · by_cases q2 : 60 < v
    · rw [if_neg q, if_pos q2, if_neg (by omega)]
    · rw [if_neg q, if_neg q2, if_pos (by omega)]
theorem E74 {v : Int} : F74 v = some (if 1 ≤ v ∧ v ≤ 9 then 1 else 0) := by
  unfold F74
  by_cases q : v < 1
  · rw [if_pos q, if_neg (by omega)]
  · by_cases q2 : 9 < v
    · rw [if_neg q, if_pos q2, if_neg (by omega)]
    · rw [if_neg q, if_neg q2, if_pos (by omega)]
theorem Erng {v b : Int} : (if v < 0 then some (0 : Int) else if b ≤ v then some 0 else some 1) = some (if 0 ≤ v ∧ v < b then 1 else 0) := by
  by_cases q : v < 0
  · rw [if_pos q, if_neg (by omega)]
  · by_cases q2 : b ≤ v
    · rw [if_neg q, if_pos q2, if_neg (by omega)]
    · rw [if_neg q, if_neg q2, if_pos (by omega)]
theorem E61 {v b : Int} {h : zHC} (e : h 579 0 0 = b) : F61 v h = some (if 0 ≤ v ∧ v < b then 1 else 0) := by
  unfold F61; rw [e]; exact Erng
theorem E210 {v b : Int} {m : zHM} (e : m 14 3 = b) : F210 v m = some (if 0 ≤ v ∧ v < b then 1 else 0) := by
  unfold F210; rw [e]; exact Erng
theorem E58 {v b : Int} {h : zHC} (e : h 65 0 0 = b) : F58 v h = some (if 0 ≤ v ∧ v < b then 1 else 0) := by
  unfold F58; rw [e]; exact Erng
theorem E217 {v b : Int} {m : zHM} (e : m 14 216 = b) : F217 v m = some (if 0 ≤ v ∧ v < b then 1 else 0) := by
  unfold F217; rw [e]; exact Erng
theorem E59 {v b : Int} {h : zHC} (e : h 578 0 0 = b) : F59 v h = some (if 0 ≤ v ∧ v < b then 1 else 0) := by
  unfold F59; rw [e]; exact Erng
theorem E205 {v b : Int} {m : zHM} (e : m 14 2 = b) : F205 v m = some (if 0 ≤ v ∧ v < b then 1 else 0) := by
  unfold F205; rw [e]; exact Erng
abbrev zCell (a : Int → Int) (x : Int) : Prop := 0 ≤ x ∧ wrem x 10 < a 0 ∧ wdiv x 10 < a 1
theorem zCell_lt {a : Int → Int} {x : Int} (h : zCell a x) (hx : x < 2147483648) (w : a 1 ≤ 10) : x < 100 := by
  obtain ⟨h0, h1, h2⟩ := h
  rw [wdiv_eq h0 hx (by decide) (by decide)] at h2
  omega
theorem E69 {x : Int} {h : zHC} {v : Int} {a : Int → Int} (hN : VN h v a) : F69 v x h = some (if zCell a x then 1 else 0) := by
  unfold F69
  rw [hN.1, hN.2.1]
  by_cases q : x < 0
  · rw [if_pos q, if_neg (fun w => by have := w.1; omega)]
  · rw [if_neg q]
    by_cases q2 : a 1 ≤ wdiv x 10
    · rw [if_pos q2, if_neg (fun w => by have := w.2.2; omega)]
    · rw [if_neg q2]
      by_cases q3 : a 0 ≤ wrem x 10
      · rw [if_pos q3, if_neg (fun w => by have := w.2.1; omega)]
      · rw [if_neg q3, if_pos ⟨by omega, by omega, by omega⟩]
theorem E224 {x : Int} {m : zHM} {a : Int → Int} (e0 : m 14 0 = a 0) (e1 : m 14 1 = a 1) : F224 x m = some (if zCell a x then 1 else 0) := by
  unfold F224
  rw [e0, e1]
  by_cases q : x < 0
  · rw [if_pos q, if_neg (fun w => by have := w.1; omega)]
  · rw [if_neg q]
    by_cases q3 : a 0 ≤ wrem x 10
    · rw [if_pos q3, if_neg (fun w => by have := w.2.1; omega)]
    · rw [if_neg q3]
      by_cases q2 : a 1 ≤ wdiv x 10
      · rw [if_pos q2, if_neg (fun w => by have := w.2.2; omega)]
      · rw [if_neg q2, if_pos ⟨by omega, by omega, by omega⟩]
theorem m0_ne {m : zHM} {x : Int} {r : Nat} {j : Int} (h : r ≠ 0) : (mset m 0 0 x) r j = m r j := mset_ne (fun w => h w.1)
theorem RG_VN {hc : zHC} {hm : zHM} (h : RG hc hm) : VN hc 0 (hm 14) := h.2.1.1.1
theorem RG_WN {hc : zHC} {hm : zHM} (h : RG hc hm) : WN (hm 14) := h.2.1.1.2.2.2.2.2.2.2.1
theorem C_fault {hc : zHC} {hm : zHM} (h : RG hc hm) : ∃ r hm', F56 hc = some r ∧ F203 hm = some (r, hm') ∧ RG hc hm' := by
  unfold F56 F203
  rw [h.1.2.2.2.2]
  exact ⟨_, _, rfl, rfl, RG_0 h⟩
theorem C_storms {hc : zHC} {hm : zHM} {w : Int} (h : RG hc hm) : ∃ r hm', F137 w hc = some r ∧ F273 w hm = some (r, hm') ∧ RG hc hm' := by
  obtain ⟨s1, s2⟩ := h.2.2.2.2.2.2.1
  unfold F137 F273
  rw [E188, s1, s2]
  simp only [Option.bind_some]
  by_cases q0 : w = 0
  · subst q0
    rw [if_pos rfl, if_pos (show (0 : Int) ≤ 0 ∧ (0 : Int) ≤ 1 by decide), z10, zG_t (by omega)]
    exact ⟨_, _, rfl, rfl, RG_0 h⟩
  · rw [if_neg q0]
    by_cases q1 : w = 1
    · subst q1
      rw [if_pos rfl, if_pos (show (0 : Int) ≤ 1 ∧ (1 : Int) ≤ 1 by decide), z10, zG_t (by omega)]
      exact ⟨_, _, rfl, rfl, RG_0 h⟩
    · rw [if_neg q1, if_neg (show ¬ (0 ≤ w ∧ w ≤ 1) by omega), z00]
      exact ⟨_, _, rfl, rfl, RG_0 h⟩
theorem C_piece {hc : zHC} {hm : zHM} {k : Int} (h : RG hc hm) : ∃ r hm', F128 k hc = some r ∧ F267 k hm = some (r, hm') ∧ RG hc hm' := by
  obtain ⟨s0, s1, s2, s3⟩ := h.2.2.2.2.2.1
  have bd : hm 35 0 ≤ hc 256 0 0 ∧ hm 35 0 ≤ 50 ∧ (hm 35 0 = hc 256 0 0 ∨ hm 35 0 = 50) := by
    rw [s2]
    split <;> omega
  unfold F128 F267
  by_cases q0 : k < 0
  · rw [if_pos q0, if_pos q0]
    exact ⟨_, _, rfl, rfl, RG_0 h⟩
  · rw [if_neg q0, if_neg q0]
    by_cases q1 : hm 35 0 ≤ k
    · rw [if_pos q1]
      refine ⟨-1, _, ?_, rfl, RG_0 h⟩
      by_cases q2 : hc 256 0 0 ≤ k
      · rw [if_pos q2]
      · rw [if_neg q2, if_neg (by omega)]
    · rw [if_neg q1, if_neg (by omega), if_pos (by omega), zG_t (by omega), zG_t (by omega), s3 k (by omega) (by omega)]
      exact ⟨_, _, rfl, rfl, RG_0 h⟩
theorem C_byteAt {hc : zHC} {hm : zHM} {k : Int} (h : RG hc hm) : ∃ r hm', F146 k hc = some r ∧ F279 k hm = some (r, hm') ∧ RG hc hm' := by
  obtain ⟨s1, s2, s3, s4⟩ := h.2.2.2.2.2.2.2.1
  unfold F146 F279
  rw [s1]
  by_cases q0 : k < 0
  · rw [if_pos q0, if_pos q0]
    exact ⟨_, _, rfl, rfl, RG_0 h⟩
  · rw [if_neg q0, if_neg q0]
    by_cases q1 : hm 44 0 ≤ k
    · rw [if_pos q1, if_pos q1]
      exact ⟨_, _, rfl, rfl, RG_0 h⟩
    · rw [if_neg q1, if_neg q1, zG_t (by omega), zG_t (by omega), s4 k (by omega) (by omega)]
      exact ⟨_, _, rfl, rfl, RG_0 h⟩
theorem C_end {hc : zHC} {hm : zHM} {n : Int} (h : RG hc hm) : ∃ r hc' hm', F16 n hc = some (r, hc') ∧ F172 n hm = some (r, hm') ∧ RG hc' hm' := by
  obtain ⟨a1, a2, a3, a4, a5⟩ := h.1
  unfold F16 F172
  rw [a1]
  by_cases q0 : n < 0
  · rw [if_pos q0, if_pos q0]
    exact ⟨_, _, _, rfl, rfl, RG_0 h⟩
  · rw [if_neg q0, if_neg q0]
    by_cases q1 : n ≤ hm 2 0
    · rw [if_pos q1, if_pos q1]
      refine ⟨_, _, _, rfl, rfl, ?_⟩
      obtain ⟨b1, b2, b3, b4, b5, b6, b7, b8, b9⟩ := h
      refine ⟨⟨by rw [hset_eq, mset_eq], by rw [mset_eq]; omega, by rw [mset_eq]; omega, fun i i0 i1 => ?_, ?_⟩, RVC_keep (fun r j g => hset_ne (by omega)) (fun j _ _ => by rw [mset_ne (by omega), mset_ne (by omega)]) (fun j => by rw [mset_ne (by omega), mset_ne (by omega)]) b2, RUn_keep (fun r n j g => hset_ne (by omega)) (fun j _ _ => by rw [mset_ne (by omega), mset_ne (by omega)]) (fun r j g => by rw [mset_ne (by omega), mset_ne (by omega)]) (VR_n b2.1) b3, RIm_keep (fun r n j g => hset_ne (by omega)) (fun r j g => by rw [mset_ne (by omega), mset_ne (by omega)]) b4, RSn_cong (hset_ne (by omega)) (hset_ne (by omega)) (fun j _ _ => hset_ne (by omega)) (fun j _ _ => by rw [mset_ne (by omega), mset_ne (by omega)]) b5, RPc_keep (fun r j g => hset_ne (by omega)) (fun r j g => by rw [mset_ne (by omega), mset_ne (by omega)]) b6, RSt_keep (fun r j g => hset_ne (by omega)) (fun j => by rw [mset_ne (by omega), mset_ne (by omega)]) b7, RWr_keep (fun r j g => hset_ne (by omega)) (fun r j g => by rw [mset_ne (by omega), mset_ne (by omega)]) b8, RKw_keep (fun j => hset_ne (by omega)) b9⟩
      · rw [hset_ne (by omega), mset_ne (by omega), mset_ne (by omega)]
        exact a4 i i0 i1
      · rw [hset_ne (by omega), mset_ne (by omega), mset_ne (by omega)]
        exact a5
    · rw [if_neg q1, if_neg q1]
      exact ⟨_, _, _, rfl, rfl, RG_0 h⟩
theorem C_count {hc : zHC} {hm : zHM} {w : Int} (h : RG hc hm) : ∃ r hm', F162 w hc = some r ∧ F294 w hm = some (r, hm') ∧ RG hc hm' := by
  obtain ⟨n0, n1, n2, n3, n4, n5, n6⟩ := RG_VN h
  obtain ⟨r1, r2, r3, r4, r5, r6, r7⟩ := h.2.1.2.1
  have l1 := h.2.1.2.2.1.1
  have w6 := RG_WN h
  unfold WN at w6
  obtain ⟨sn, e1, e2, e3, e4⟩ := L91 (h := hc) (m := mset hm 0 0 0) (v := 0) (H := hm 14 209) (by rw [m0_ne (by decide)]; exact n6) (by rw [m0_ne (by decide)]; omega) (by rw [m0_ne (by decide)]; omega) h.2.1.1.2.2.2.2.2.1 h.2.1.1.2.2.2.2.2.2.2.2.2.2.2
  unfold F162 F294
  rw [n0, n1, n2, n3, r1, show hc 65 0 0 = hm 14 216 by omega, l1, h.1.1, e1, e2]
  simp only [Option.bind_some]
  by_cases q0 : w = 0
  · rw [if_pos q0, if_pos q0]; exact ⟨_, _, rfl, rfl, RG_0 h⟩
  rw [if_neg q0, if_neg q0]
  by_cases q1 : w = 1
  · rw [if_pos q1, if_pos q1]; exact ⟨_, _, rfl, rfl, RG_0 h⟩
  rw [if_neg q1, if_neg q1]
  by_cases q2 : w = 2
  · rw [if_pos q2, if_pos q2]; exact ⟨_, _, rfl, rfl, RG_0 h⟩
  rw [if_neg q2, if_neg q2]
  by_cases q3 : w = 3
  · rw [if_pos q3, if_pos q3]; exact ⟨_, _, rfl, rfl, RG_0 h⟩
  rw [if_neg q3, if_neg q3]
  by_cases q4 : w = 4
  · rw [if_pos q4, if_pos q4]; exact ⟨_, _, rfl, rfl, RG_0 h⟩
  rw [if_neg q4, if_neg q4]
  by_cases q5 : w = 5
  · rw [if_pos q5, if_pos q5]; exact ⟨_, _, rfl, rfl, RG_0 h⟩
  rw [if_neg q5, if_neg q5]
  by_cases q6 : w = 6
  · rw [if_pos q6, if_pos q6]; exact ⟨_, _, rfl, rfl, RG_0 h⟩
  rw [if_neg q6, if_neg q6]
  by_cases q7 : w = 7
  · rw [if_pos q7, if_pos q7]; exact ⟨_, _, rfl, rfl, RG_0 h⟩
  rw [if_neg q7, if_neg q7]
  by_cases q8 : w = 8
  · rw [if_pos q8, if_pos q8]; exact ⟨_, _, rfl, rfl, RG_0 h⟩
  rw [if_neg q8, if_neg q8, zG_t (by omega), zG_t (by omega)]
  exact ⟨_, _, rfl, rfl, RG_0 h⟩
theorem C_share {hc : zHC} {hm : zHM} {p s : Int} (h : RG hc hm) : ∃ r hm', F60 p s hc = some r ∧ F220 p s hm = some (r, hm') ∧ RG hc hm' := by
  have w6 := RG_WN h
  unfold WN at w6
  obtain ⟨⟨r1, r2, r3, r4, r5, r6, r7⟩, hL, hW⟩ := h.2.1.2
  obtain ⟨⟨c1, c2⟩, ⟨c3, c4⟩, c5, -⟩ := hW
  unfold F60 F220
  rw [E61 (RG_VN h).2.2.2.1, E210 (m := mset hm 0 0 0) (b := hm 14 3) (m0_ne (by decide)), E58 (show hc 65 0 0 = hm 14 216 by omega), E217 (m := mset hm 0 0 0) (b := hm 14 216) (m0_ne (by decide))]
  simp only [Option.bind_some]
  by_cases q1 : 0 ≤ p ∧ p < hm 14 3
  · by_cases q2 : 0 ≤ s ∧ s < hm 14 216
    · simp only [if_pos q1, if_pos q2, z10]
      obtain ⟨t1, t2, t3⟩ := r7 s q2.1 (by omega)
      rw [show (0 : Int) + s = s by omega] at t1
      obtain ⟨r, e1, e2, e3, e4⟩ := L62 (h := hc) (m := mset hm 0 0 0) (i := 0) (k := s) (s := s) (p := p) q2.1 (by omega) q2.1 (by omega) q1.1 (by omega) t1 (c5 s q2.1 q2.2).2
      rw [e1, e2]
      exact ⟨_, _, rfl, rfl, RG_0 h⟩
    · simp only [if_pos q1, if_neg q2, z10, z00]
      exact ⟨_, _, rfl, rfl, RG_0 h⟩
  · simp only [if_neg q1, z00]
    exact ⟨_, _, rfl, rfl, RG_0 h⟩
theorem C_sounded {hc : zHC} {hm : zHM} {k w : Int} (h : RG hc hm) : ∃ r hm', F66 k w hc = some r ∧ F221 k w hm = some (r, hm') ∧ RG hc hm' := by
  obtain ⟨l1, l2⟩ := h.2.1.2.2.1
  obtain ⟨n0, n1, hq⟩ := CW_n h.2.1.2.2.2
  unfold F66 F221
  rw [E188, l1]
  simp only [Option.bind_some]
  by_cases q0 : k < 0
  · rw [if_pos q0, if_pos q0]; exact ⟨_, _, rfl, rfl, RG_0 h⟩
  rw [if_neg q0, if_neg q0]
  by_cases q1 : hm 14 997 ≤ k
  · rw [if_pos q1, if_pos q1]; exact ⟨_, _, rfl, rfl, RG_0 h⟩
  rw [if_neg q1, if_neg q1]
  by_cases q2 : 0 ≤ w ∧ w ≤ 4
  · rw [if_pos q2, z10, if_neg (by omega), if_pos (by omega)]
    unfold F67
    rw [wmul_eq (by omega) (by omega), wadd_eq (x := k * 5) (by omega) (by omega), zG_t (by omega), wmul_eq (by omega) (by omega), wadd_eq (x := 998) (by omega) (by omega), wadd_eq (by omega) (by omega), zG_t (by omega), l2 k (by omega) (by omega) w (by omega) (by omega)]
    exact ⟨_, _, rfl, rfl, RG_0 h⟩
  · rw [if_neg q2, z00]
    refine ⟨-1, _, ?_, rfl, RG_0 h⟩
    by_cases q3 : w < 0
    · rw [if_pos q3]
    · rw [if_neg q3, if_neg (by omega)]
theorem F219_s {m : zHM} {s c w : Int} (s0 : 0 ≤ s) (s1 : s < 30) (c0 : 0 ≤ c) (c1 : c < 6) (w0 : 0 ≤ w) (w1 : w < 3) : F219 s c w m = some (m 14 (457 + 18 * s + 3 * c + w)) := by
  unfold F219
  rw [wmul_eq (x := 18) (by omega) (by omega), wadd_eq (x := 457) (by omega) (by omega), wmul_eq (x := 3) (by omega) (by omega), wadd_eq (x := 457 + 18 * s) (by omega) (by omega), wadd_eq (by omega) (by omega), zG_t (by omega)]
theorem C_comes {hc : zHC} {hm : zHM} {s c w : Int} (h : RG hc hm) : ∃ r hm', F57 s c w hc = some r ∧ F218 s c w hm = some (r, hm') ∧ RG hc hm' := by
  have w6 := RG_WN h
  unfold WN at w6
  obtain ⟨⟨r1, r2, r3, r4, r5, r6, r7⟩, hL, hW⟩ := h.2.1.2
  obtain ⟨⟨c1, c2⟩, ⟨c3, c4⟩, c5, -⟩ := hW
  unfold F57 F218
  rw [E59 (RG_VN h).2.2.1, E205 (m := mset hm 0 0 0) (b := hm 14 2) (m0_ne (by decide)), E58 (show hc 65 0 0 = hm 14 216 by omega), E217 (m := mset hm 0 0 0) (b := hm 14 216) (m0_ne (by decide)), E188]
  simp only [Option.bind_some]
  by_cases q1 : 0 ≤ s ∧ s < hm 14 216
  · by_cases q2 : 0 ≤ c ∧ c < hm 14 2
    · simp only [if_pos q1, if_pos q2, z10, zn10]
      obtain ⟨t1, t2, t3⟩ := r7 s q1.1 (by omega)
      rw [show (0 : Int) + s = s by omega] at t2
      obtain ⟨d1, d2⟩ := t2 c q2.1 (by omega)
      obtain ⟨u1, u2, u3, u4, u5⟩ := (c5 s q1.1 q1.2).1 c q2.1 (by omega)
      rw [wmul_eq (x := s) (by omega) (by omega), wadd_eq (x := s * 6) (by omega) (by omega), F219_s q1.1 (by omega) q2.1 (by omega) (by decide) (by decide), m0_ne (by decide), Int.add_zero, d1]
      simp only [Option.bind_some]
      by_cases q3 : w = 0
      · subst q3
        rw [if_pos rfl, if_pos (show (0 : Int) ≤ 0 ∧ (0 : Int) ≤ 1 by decide), z10, zG_t (by omega), F219_s q1.1 (by omega) q2.1 (by omega) (by decide) (by decide), m0_ne (by decide), Int.add_zero]
        by_cases q4 : hm 14 (457 + 18 * s + 3 * c) = 0
        · rw [if_pos q4, if_pos (by omega)]
          exact ⟨_, _, rfl, rfl, RG_0 h⟩
        · rw [if_neg q4, if_neg (by omega)]
          exact ⟨_, _, rfl, rfl, RG_0 h⟩
      · rw [if_neg q3]
        by_cases q5 : w = 1
        · subst q5
          rw [if_pos rfl, if_pos (show (0 : Int) ≤ 1 ∧ (1 : Int) ≤ 1 by decide), z10, zG_t (by omega), zG_t (by omega), F219_s q1.1 (by omega) q2.1 (by omega) (by decide) (by decide), m0_ne (by decide)]
          by_cases q4 : hm 14 (457 + 18 * s + 3 * c) = 0
          · rw [if_pos q4, if_neg (by omega), if_pos (by omega)]
            exact ⟨_, _, rfl, rfl, RG_0 h⟩
          · rw [if_neg q4, if_pos (by omega), if_neg (by omega), d2 q4]
            exact ⟨_, _, rfl, rfl, RG_0 h⟩
        · rw [if_neg q5, if_neg (show ¬ (0 ≤ w ∧ w ≤ 1) by omega), z00]
          exact ⟨_, _, rfl, rfl, RG_0 h⟩
    · simp only [if_pos q1, if_neg q2, z10, z00, zn00]
      exact ⟨_, _, rfl, rfl, RG_0 h⟩
  · simp only [if_neg q1, z00]
    exact ⟨_, _, rfl, rfl, RG_0 h⟩
theorem C_hears {hc : zHC} {hm : zHM} {c f : Int} (h : RG hc hm) : ∃ r hm', F141 c f hc = some r ∧ F261 c f hm = some (r, hm') ∧ RG hc hm' := by
  have w6 := RG_WN h
  unfold WN at w6
  have big := zFu_big
  unfold F141 F261
  rw [E59 (RG_VN h).2.2.1, E205 (m := mset hm 0 0 0) (b := hm 14 2) (m0_ne (by decide)), E74, E188]
  simp only [Option.bind_some]
  by_cases q1 : 0 ≤ c ∧ c < hm 14 2
  · by_cases q2 : 1 ≤ f ∧ f ≤ 9
    · simp only [if_pos q1, if_pos q2, z10]
      obtain ⟨x1, x2, -⟩ := h.2.1.1.2.2.2.2.2.2.2.2.1 c q1.1 q1.2
      obtain ⟨r, e1, e2, e3, e4⟩ := L93 (h := hc) (m := mset hm 0 0 0) (v := 0) (i := 0) (c := c) (f := f) (RG_VN h).2.2.2.1 (by rw [m0_ne (by decide)]; omega) (by rw [m0_ne (by decide)]; omega) q1.1 (by omega) (h.2.1.1.2.1 c q1.1 q1.2).1 x1 x2 h.2.1.2.1.2.2.2.2.2.1 zFu zFu 0 0 (by decide) (by rw [m0_ne (by decide)]; omega) (by rw [m0_ne (by decide)]; omega) (by rw [m0_ne (by decide)]; omega) (by decide) (by decide)
      unfold F93 F240
      rw [e1, e2]
      exact ⟨_, _, rfl, rfl, RG_0 h⟩
    · simp only [if_pos q1, if_neg q2, z10, z00]
      exact ⟨_, _, rfl, rfl, RG_0 h⟩
  · simp only [if_neg q1, z00]
    exact ⟨_, _, rfl, rfl, RG_0 h⟩
