/-! write, whole. -/
theorem zcnt_le {f : Int → Int} {s : Int} {q : Nat} : ∀ N : Nat, q ≤ N → zcnt f s q ≤ zcnt f s N := by
  intro N
  induction N with
  | zero => intro h; rw [show q = 0 by omega]; exact Int.le_refl _
  | succ N ih =>
    intro h
    by_cases e : q = N + 1
    · rw [e]; exact Int.le_refl _
    · have := ih (by omega)
      rw [zcnt]
      split <;> omega
theorem K_write {hc : zHC} {hm : zHM} {s : Int} (hR : RG hc hm) (s0 : 0 ≤ s) (s1 : s < hm 14 216) : ∀ (n n' q : Nat) (h : zHC) (m : zHM), wfC hc h → (∀ r j, ¬ (r = 0 ∨ r = 42 ∨ r = 43 ∨ r = 44) → m r j = hm r j) → zWr h m → (q : Int) ≤ hm 14 997 → m 44 0 ≤ 14 * zcnt (fun j => hm 14 (998 + 5 * j)) s q → hm 14 997 - q < n → hm 14 997 - q < n' → ∃ h' m', F142_0 n s (q : Int) h = some (m' 44 0, h') ∧ F276_0 n' s (q : Int) m = some (m' 44 0, m') ∧ wfC hc h' ∧ (∀ r j, ¬ (r = 0 ∨ r = 42 ∨ r = 43 ∨ r = 44) → m' r j = hm r j) ∧ zWr h' m' ∧ m' 44 0 ≤ 84 := by
  have big := zFu_big
  have w6 := RG_WN hR
  unfold WN at w6
  have hCW := hR.2.1.2.2.2
  have hN := CW_n hCW
  have hL := hR.2.1.2.2.1
  have hQ := hR.2.1.1.2.2.2.2.2.2.1.1
  have hLW := hCW.2.2.2.2.1
  have hT := hCW.2.2.2.2.2 s s0 s1
  obtain ⟨hD, hF⟩ := hCW.2.2.1 s s0 s1
  have six : hm 14 (217 + 8 * s + 6) ≤ 6 := by
    have o6 := hF.2.2.2.2.2.2.1.2
    have fl : ∀ c, 0 ≤ c → c < 6 → hm 14 (457 + 18 * s + 3 * c + 2) ≤ 1 := by
      intro c c0 c1
      rw [(hD c c0 c1).2.2.2.1]
      split <;> omega
    have a0 := fl 0 (by decide) (by decide)
    have a1 := fl 1 (by decide) (by decide)
    have a2 := fl 2 (by decide) (by decide)
    have a3 := fl 3 (by decide) (by decide)
    have a4 := fl 4 (by decide) (by decide)
    have a5 := fl 5 (by decide) (by decide)
    omega
  intro n
  induction n with
  | zero => intro n' q h m _ _ _ _ _ g; omega
  | succ n ih =>
    intro n' q h m f1 f2 hW q1 cn g1 g2
    cases n' with
    | zero => omega
    | succ n' =>
      rw [F142_0, F276_0, f1 66 0 0 (by decide), hL.1, f2 14 997 (by decide)]
      by_cases e : hm 14 997 ≤ q
      · have eq : q = (hm 14 997).toNat := by omega
        rw [if_pos e, if_pos e, hW.1]
        refine ⟨h, m, rfl, rfl, f1, f2, hW, ?_⟩
        rw [eq, hT] at cn
        omega
      · have l0 := hL.2 q (by omega) (by omega) 0 (by decide) (by decide)
        have l1 := hL.2 q (by omega) (by omega) 1 (by decide) (by decide)
        have l2 := hL.2 q (by omega) (by omega) 2 (by decide) (by decide)
        have l3 := hL.2 q (by omega) (by omega) 3 (by decide) (by decide)
        obtain ⟨r0, r1, r2, r3, r4⟩ := hLW q (by omega) (by omega)
        have cq : zcnt (fun j => hm 14 (998 + 5 * j)) s (q + 1) = zcnt (fun j => hm 14 (998 + 5 * j)) s q + (if hm 14 (998 + 5 * (q : Int)) = s then 1 else 0) := rfl
        have ct := zcnt_le (f := fun j => hm 14 (998 + 5 * j)) (s := s) (q := q + 1) (hm 14 997).toNat (by omega)
        rw [hT] at ct
        have p5 : wmul 5 (q : Int) = 5 * q := wmul_eq (by omega) (by omega)
        have p8 : wadd 998 (5 * (q : Int)) = 998 + 5 * q := wadd_eq (by omega) (by omega)
        rw [Int.add_zero] at l0
        rw [if_neg e, if_neg e, F67_s (by omega) (by omega) (by decide) (by decide), Option.bind_some, Int.add_zero, f1 71 0 _ (by decide), show hc 71 0 ((q : Int) * 5) = hm 14 (998 + 5 * q) by rw [← Int.add_zero ((q : Int) * 5)]; exact l0, p5, p8, zG_t (by omega), f2 14 (998 + 5 * q) (by decide)]
        unfold F142_1 F276_2
        have pq : wadd (q : Int) 1 = ((q + 1 : Nat) : Int) := by rw [wadd_eq (by omega) (by omega)]; omega
        rw [pq]
        by_cases u : hm 14 (998 + 5 * (q : Int)) = s
        · rw [if_neg (fun z => z u), if_pos u, F67_s (by omega) (by omega) (by decide) (by decide), Option.bind_some, f1 71 0 _ (by decide), l1, zG_t (by omega), f1 583 0 _ (by decide), wadd_eq (x := 998 + 5 * (q : Int)) (by omega) (by omega), f2 14 (998 + 5 * q + 1) (by decide), zG_t (by omega), zG_t (by omega), f2 19 _ (by decide)]
          obtain ⟨l, h7, h1', hl, ex, ey⟩ := hQ _ r1.1 r1.2
          rw [if_pos u] at cq
          rw [ex, ey]
          obtain ⟨m1, a1, a2, a3⟩ := W_take (k0 := F276_0 n') (v1 := s) (v2 := (q : Int)) (v3 := 998 + 5 * (q : Int)) l zFu 0 m hl (by decide) (by omega) (by omega)
          obtain ⟨k1, b1, b2⟩ := W_skip (h := h) hl h7 zFu 6 (by omega) (by decide) (by omega)
          have hW1 : zWr h m1 := ⟨by rw [a3 44 0 (by decide)]; exact hW.1, by rw [a3 44 0 (by decide)]; exact hW.2.1, fun j j0 j1 => by rw [a3 44 0 (by decide)] at j1; rw [a3 42 j (by omega)]; exact hW.2.2 j j0 j1⟩
          have e44 : m1 44 0 = m 44 0 := a3 44 0 (by decide)
          obtain ⟨k2, h2, m2, c0, c1, c2, c3, c4, c5, c6⟩ := W_both (k0 := F276_0 n') (v1 := s) (v2 := (q : Int)) (v3 := 998 + 5 * (q : Int)) hl h7 k1 zFu ((l.length : Int) - 1) h m1 hW1 (by omega) (by omega) (fun j j0 j1 => by
            have := a2 j.toNat (by omega)
            rw [show (0 : Int) + (j.toNat : Int) = j by omega] at this
            exact this) (by omega) (by omega) (by omega)
          obtain ⟨h3, h4, m4, d1, d2, d3, d4, d5, d6, d7, d8, d9⟩ := W_num (v := hm 14 (998 + 5 * (q : Int) + 2)) c3 (by omega) (by omega) (by omega)
          obtain ⟨h5, h6, m6, e1, e2, e3, e4, e5, e6, e7, e8, e9⟩ := W_num (v := hm 14 (998 + 5 * (q : Int) + 3)) d5 (by omega) (by omega) (by omega)
          obtain ⟨h7', m7, g3, g4, g5, g6, g7, g8⟩ := W_put (v := 59) e5 (by omega)
          have t71_4 : h3 71 0 ((q : Int) * 5 + 2) = hm 14 (998 + 5 * (q : Int) + 2) := by rw [d4 71 0 _ (by decide), c5 71 0 _ (by decide), f1 71 0 _ (by decide)]; exact l2
          have t71_7 : h5 71 0 ((q : Int) * 5 + 3) = hm 14 (998 + 5 * (q : Int) + 3) := by rw [e4 71 0 _ (by decide), d8 71 0 _ (by decide), c5 71 0 _ (by decide), f1 71 0 _ (by decide)]; exact l3
          have t2 : m2 14 (998 + 5 * (q : Int) + 2) = hm 14 (998 + 5 * (q : Int) + 2) := by rw [c6 14 _ (by decide), a3 14 _ (by omega), f2 14 _ (by decide)]
          have t3 : m4 14 (998 + 5 * (q : Int) + 3) = hm 14 (998 + 5 * (q : Int) + 3) := by rw [d9 14 _ (by decide), c6 14 _ (by decide), a3 14 _ (by omega), f2 14 _ (by decide)]
          have em : F276_1 (F276_0 n') zFu s (q : Int) (998 + 5 * (q : Int)) 0 (zPk 27 l) m = F276_0 n' s ((q + 1 : Nat) : Int) m7 := by
            rw [a1, show (0 : Int) + (l.length : Int) - 1 = (l.length : Int) - 1 by omega, c2]
            cases k2 with
            | zero => omega
            | succ k2 =>
              rw [F276_3, if_pos (by decide)]
              unfold F276_2
              rw [wadd_eq (x := 998 + 5 * (q : Int)) (by omega) (by omega), wadd_eq (x := 998 + 5 * (q : Int)) (by omega) (by omega), zG_t (by omega), t2, d3, Option.bind_some, zG_t (by omega), t3, e3, Option.bind_some, g4, Option.bind_some, pq]
          have ec : F143 (zPk 32 l) h = some h2 := by
            unfold F143
            rw [b2]
            exact c1
          rw [em, ec, Option.bind_some, d1, Option.bind_some, F67_s (by omega) (by omega) (by decide) (by decide), Option.bind_some, t71_4, d2, Option.bind_some, e1, Option.bind_some, F67_s (by omega) (by omega) (by decide) (by decide), Option.bind_some, t71_7, e2, Option.bind_some, g3, Option.bind_some]
          exact ih n' (q + 1) h7' m7 (fun r n j g => by rw [g7 r n j g, e8 r n j g, d8 r n j g, c5 r n j g, f1 r n j g]) (fun r j g => by rw [g8 r j (by omega), e9 r j (by omega), d9 r j (by omega), c6 r j (by omega), a3 r j (by omega), f2 r j g]) g5 (by omega) (by rw [cq]; have := e7 (by omega); omega) (by omega) (by omega)
        · rw [if_pos u, if_neg u]
          rw [if_neg u] at cq
          exact ih n' (q + 1) h m f1 f2 hW (by omega) (by rw [cq]; omega) (by omega) (by omega)
theorem C_write {hc : zHC} {hm : zHM} {s : Int} (h : RG hc hm) : ∃ r hc' hm', F142 s hc = some (r, hc') ∧ F276 s hm = some (r, hm') ∧ RG hc' hm' := by
  have big := zFu_big
  have e65 : hc 65 0 0 = hm 14 216 := by have := h.2.1.2.1.2.1; omega
  have hN := CW_n h.2.1.2.2.2
  unfold F142 F276
  rw [E58 e65, E217 (m := mset hm 0 0 0) (b := hm 14 216) (m0_ne (by decide)), Option.bind_some, Option.bind_some]
  by_cases q : 0 ≤ s ∧ s < hm 14 216
  · rw [if_pos q, zn10, zn10]
    obtain ⟨h1, m1, a1, a2, a3, a4, a5, a6⟩ := K_write h q.1 q.2 zFu zFu 0 (hset hc 718 0 0 0) (mset (mset hm 0 0 0) 44 0 0) (fun r n j g => hset_ne (by omega)) (fun r j g => by rw [mset_ne (by omega), mset_ne (by omega)]) ⟨by rw [hset_eq, mset_eq], by rw [mset_eq]; decide, fun j j0 j1 => by rw [mset_eq] at j1; omega⟩ (by omega) (by rw [mset_eq]; show (0 : Int) ≤ 14 * 0; decide) (by omega) (by omega)
    rw [show (0 : Int) = ((0 : Nat) : Int) from rfl] 
    obtain ⟨b1, b2, b3, b4, b5, b6, b7, b8, b9⟩ := h
    exact ⟨_, _, _, a1, a2, RTp_keep (fun r j _ _ => a3 r 0 j (by omega)) (fun r j g => a4 r j (by omega)) b1, RVC_keep (fun r j g => a3 r 0 j (by omega)) (fun j _ _ => a4 14 j (by omega)) (fun j => a4 19 j (by omega)) b2, RUn_keep (fun r n j g => a3 r n j (by omega)) (fun j _ _ => a4 14 j (by omega)) (fun r j g => a4 r j (by omega)) (VR_n b2.1) b3, RIm_keep (fun r n j g => a3 r n j (by omega)) (fun r j g => a4 r j (by omega)) b4, RSn_cong (a3 384 0 0 (by omega)) (a3 385 0 0 (by omega)) (fun j _ _ => a3 386 0 j (by omega)) (fun j _ _ => a4 14 j (by omega)) b5, RPc_keep (fun r j g => a3 r 0 j (by omega)) (fun r j g => a4 r j (by omega)) b6, RSt_keep (fun r j g => a3 r 0 j (by omega)) (fun j => a4 41 j (by omega)) b7, ⟨a5.1, a5.2.1, by omega, a5.2.2⟩, RKw_keep (fun j => a3 330 0 j (by omega)) b9⟩
  · rw [if_neg q, zn00, zn00]
    exact ⟨_, _, _, rfl, rfl, RG_0 h⟩
