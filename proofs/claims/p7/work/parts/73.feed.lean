/-! feed. -/
theorem RG_tape {hc hc' : zHC} {hm hm' : zHM} (h : RG hc hm) (t : RTp hc' hm') (f1 : ∀ r n j, ¬ (r = 320 ∨ r = 321) → hc' r n j = hc r n j) (f2 : ∀ r j, ¬ (r = 0 ∨ r = 1 ∨ r = 2) → hm' r j = hm r j) : RG hc' hm' := by
  obtain ⟨a1, a2, a3, a4, a5, a6, a7, a8, a9⟩ := h
  exact ⟨t, RVC_keep (fun r j g => f1 r 0 j (by omega)) (fun j _ _ => f2 14 j (by omega)) (fun j => f2 19 j (by omega)) a2, RUn_keep (fun r n j g => f1 r n j (by omega)) (fun j _ _ => f2 14 j (by omega)) (fun r j g => f2 r j (by omega)) (VR_n a2.1) a3, RIm_keep (fun r n j g => f1 r n j (by omega)) (fun r j g => f2 r j (by omega)) a4, RSn_cong (f1 384 0 0 (by omega)) (f1 385 0 0 (by omega)) (fun j _ _ => f1 386 0 j (by omega)) (fun j _ _ => f2 14 j (by omega)) a5, RPc_keep (fun r j g => f1 r 0 j (by omega)) (fun r j g => f2 r j (by omega)) a6, RSt_keep (fun r j g => f1 r 0 j (by omega)) (fun j => f2 41 j (by omega)) a7, RWr_keep (fun r j g => f1 r 0 j (by omega)) (fun r j g => f2 r j (by omega)) a8, RKw_keep (fun j => f1 330 0 j (by omega)) a9⟩
theorem K_feed {v : Int} : ∀ (n n' : Nat) (q : Int) (h : zHC) (m : zHM), RTp h m → 0 ≤ q → q ≤ 4 → m 2 0 + q ≤ 940 → q < n → q < n' → ∃ h' m', F15_0 n v (8 * q - 8) h = some h' ∧ F171_0 n' v (8 * q - 8) m = some m' ∧ RTp h' m' ∧ m' 2 0 = m 2 0 + q ∧ (∀ r n j, ¬ (r = 320 ∨ r = 321) → h' r n j = h r n j) ∧ (∀ r j, ¬ (r = 1 ∨ r = 2) → m' r j = m r j) := by
  intro n
  induction n with
  | zero => intro n' q h m hT q0 q1 q2 g1 g2; omega
  | succ n ih =>
    intro n' q h m hT q0 q1 q2 g1 g2
    cases n' with
    | zero => omega
    | succ n' =>
      rw [F15_0, F171_0]
      by_cases e : 8 * q - 8 < 0
      · rw [if_pos e, if_pos e]
        exact ⟨h, m, rfl, rfl, hT, by omega, fun _ _ _ _ => rfl, fun _ _ _ => rfl⟩
      · obtain ⟨t1, t2, t3, t4, t5⟩ := hT
        rw [if_neg e, if_neg e, t1, if_neg (show ¬ 940 ≤ m 2 0 by omega), zG_t (by omega), zG_t (by omega), wadd_eq (x := m 2 0) (by omega) (by omega), wadd_eq (x := 8 * q - 8) (by omega) (by omega), show 8 * q - 8 + -8 = 8 * (q - 1) - 8 by omega]
        have wr := wand_rng (x := wushr v (8 * q - 8)) (y := 255) (by decide) (by decide)
        obtain ⟨h', m', a1, a2, a3, a4, a5, a6⟩ := ih n' (q - 1) (hset (hset h 320 0 (m 2 0) (wand (wushr v (8 * q - 8)) 255)) 321 0 0 (m 2 0 + 1)) (mset (mset m 1 (m 2 0) (wand (wushr v (8 * q - 8)) 255)) 2 0 (m 2 0 + 1)) ⟨by rw [hset_eq, mset_eq], by rw [mset_eq]; omega, by rw [mset_eq]; omega, fun i i0 i1 => by
          rw [hset_ne (by omega), mset_ne (by omega)]
          by_cases u : i = m 2 0
          · rw [u, hset_eq, mset_eq]
            exact ⟨rfl, wr.1, wr.2⟩
          · rw [hset_ne (by omega), mset_ne (by omega)]
            exact t4 i i0 i1, by rw [hset_ne (by omega), hset_ne (by omega), mset_ne (by omega), mset_ne (by omega)]; exact t5⟩ (by omega) (by omega) (by rw [mset_eq]; omega) (by omega) (by omega)
        rw [mset_eq] at a4
        exact ⟨h', m', a1, a2, a3, by omega, fun r n j g => by rw [a5 r n j g, hset_ne (by omega), hset_ne (by omega)], fun r j g => by rw [a6 r j g, mset_ne (by omega), mset_ne (by omega)]⟩
theorem K_feed1 {v : Int} {h : zHC} {m : zHM} (hT : RTp h m) (g : m 2 0 + 4 ≤ 940) : ∃ h' m', F15 v h = some h' ∧ F171 v m = some m' ∧ RTp h' m' ∧ m' 2 0 = m 2 0 + 4 ∧ (∀ r n j, ¬ (r = 320 ∨ r = 321) → h' r n j = h r n j) ∧ (∀ r j, ¬ (r = 1 ∨ r = 2) → m' r j = m r j) := by
  have big := zFu_big
  exact K_feed (v := v) zFu zFu 4 h m hT (by decide) (by decide) g (by omega) (by omega)
theorem C_feed {hc : zHC} {hm : zHM} {a b c d e : Int} (h : RG hc hm) : ∃ r hc' hm', F14 a b c d e hc = some (r, hc') ∧ F170 a b c d e hm = some (r, hm') ∧ RG hc' hm' := by
  have hT := (RG_0 (x := 0) h).1
  have t1 := h.1
  unfold F14 F170
  rw [t1.1, wadd_eq (x := hm 2 0) (by have := t1.2; omega) (by have := t1.2; omega)]
  have m2 : (mset hm 0 0 0) 2 0 = hm 2 0 := m0_ne (by decide)
  by_cases q : hm 2 0 + 20 ≤ 940
  · rw [if_pos q, if_pos q]
    obtain ⟨h1, m1, a1, a2, a3, a4, a5, a6⟩ := K_feed1 (v := a) hT (by omega)
    obtain ⟨h2, m2, b1, b2, b3, b4, b5, b6⟩ := K_feed1 (v := b) a3 (by omega)
    obtain ⟨h3, m3, c1, c2, c3, c4, c5, c6⟩ := K_feed1 (v := c) b3 (by omega)
    obtain ⟨h4, m4, d1, d2, d3, d4, d5, d6⟩ := K_feed1 (v := d) c3 (by omega)
    obtain ⟨h5, m5, e1, e2, e3, e4, e5, e6⟩ := K_feed1 (v := e) d3 (by omega)
    rw [a1, a2]
    simp only [Option.bind_some]
    rw [b1, b2]
    simp only [Option.bind_some]
    rw [c1, c2]
    simp only [Option.bind_some]
    rw [d1, d2]
    simp only [Option.bind_some]
    rw [e1, e2]
    simp only [Option.bind_some]
    rw [e3.1]
    exact ⟨_, _, _, rfl, rfl, RG_tape h e3 (fun r n j g => by rw [e5 r n j g, d5 r n j g, c5 r n j g, b5 r n j g, a5 r n j g]) (fun r j g => by rw [e6 r j (by omega), d6 r j (by omega), c6 r j (by omega), b6 r j (by omega), a6 r j (by omega), mset_ne (by omega)])⟩
  · rw [if_neg q, if_neg q]
    exact ⟨_, _, _, rfl, rfl, RG_0 h⟩
