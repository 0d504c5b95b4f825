section
/-! A valley's text: camps, felts, snows. -/
def zY198 (T : Int) (M : zHM) : Option (Int × zHM) := zG (0 ≤ (wadd (wadd 25 (wmul 2 T)) 1) ∧ (wadd (wadd 25 (wmul 2 T)) 1) < 209) (if (M 15 (wadd (wadd 25 (wmul 2 T)) 1)) = (-1) then (F176 M).bind fun r3 => (F195 r3).bind fun r4 => if ¬ r4.1 = 0 then zG (0 ≤ (wadd (wadd 25 (wmul 2 T)) 1) ∧ (wadd (wadd 25 (wmul 2 T)) 1) < 209) (some (1, (mset r4.2 15 (wadd (wadd 25 (wmul 2 T)) 1) (r4.2 13 0)))) else some (0, r4.2) else (F185 3 M).bind fun r5 => zG (r5.1 = 0 ∨ r5.1 = 1) (some (r5.1, r5.2)))
theorem F198_y {h : zHM} : F198 h = (F176 h).bind fun r1 => (F197 r1).bind fun r2 => if ¬ r2.1 = 0 then zY198 (r2.2 13 0) r2.2 else some (0, r2.2) := rfl
def zY199 (T : Int) (M : zHM) : Option (Int × zHM) := zG (0 ≤ (wadd 97 T) ∧ (wadd 97 T) < 209) (if (M 15 (wadd 97 T)) ≤ 0 then zG (0 ≤ (wadd 97 T) ∧ (wadd 97 T) < 209) ((F176 (mset (mset M 15 (wadd 97 T) 1) 15 5 (wadd ((mset M 15 (wadd 97 T) 1) 15 5) 1))).bind fun r3 => some (1, r3)) else (F185 3 M).bind fun r4 => zG (r4.1 = 0 ∨ r4.1 = 1) (some (r4.1, r4.2)))
theorem F199_y {h : zHM} : F199 h = if ¬ (h 15 5) = 8 then (F176 h).bind fun r1 => (F193 r1).bind fun r2 => if ¬ r2.1 = 0 then zY199 (r2.2 13 0) r2.2 else some (0, r2.2) else (F185 4 h).bind fun r5 => zG (r5.1 = 0 ∨ r5.1 = 1) (some (r5.1, r5.2)) := rfl
theorem K_camp {h : zHC} {m : zHM} (hI : VI h m) (k3 : h 324 0 0 = 3) : VO h m (F45 h) (F198 m) := by
  obtain ⟨hT, hf, hV, hL⟩ := hI
  have w6 := hV.2.2.2.2.2.2.2.1
  unfold WN at w6
  unfold F45
  rw [F198_y]
  obtain ⟨h1, m1, a1, a2, a3, a4, a5⟩ := L21h (h2 := h) (m2 := m) hT (by omega) (fun _ _ _ _ => rfl) (fun _ _ _ => rfl)
  rw [a1, a2, Option.bind_some, Option.bind_some]
  have hV1 : VR h1 1 (m1 15) (m1 20) := VR_keep (fun r j g0 g1 => a4 r 1 j (by omega)) (fun k _ _ => a5 15 k (by omega)) (fun k _ _ => a5 20 k (by omega)) hV
  rcases L_one a3 hV1 with ⟨p, p0, p1, b1, b2, b3⟩ | ⟨h', m', b1, b2, b3, b4, b5⟩
  · rw [a5 15 3 (by omega)] at p1
    rw [b2, b3, Option.bind_some, Option.bind_some, if_pos (show ¬ (1 : Int) = 0 by decide)]
    dsimp only
    rw [if_pos (show ¬ p = -1 by omega), mset_eq]
    unfold zY198
    rw [wmul_eq (x := 2) (y := p) (by omega) (by omega), wadd_eq (x := 25) (y := 2 * p) (by omega) (by omega), wadd_eq (x := 25 + 2 * p) (y := 1) (by omega) (by omega), zG_t (show 0 ≤ p ∧ p < 6 by omega), zG_t (show 0 ≤ 25 + 2 * p + 1 ∧ 25 + 2 * p + 1 < 209 by omega), mset_ne (by omega), a5 15 _ (by omega)]
    have e589 : h1 589 1 p = m 15 (25 + 2 * p + 1) := by rw [a4 589 1 p (by omega), (hV.2.2.1 p p0 p1).2]
    by_cases q : m 15 (25 + 2 * p + 1) = -1
    · rw [if_pos (show h1 589 1 p = -1 from e589.trans q), if_pos q]
      obtain ⟨h2, m2, c1, c2, c3, c4, c5⟩ := L21h (h2 := h1) (m2 := mset m1 13 0 p) a3 (by omega) (fun _ _ _ _ => rfl) (fun r j g => mset_ne (by omega))
      rw [c1, c2, Option.bind_some, Option.bind_some]
      have fc2 : ∀ r n j, ¬ (324 ≤ r ∧ r ≤ 328) → h2 r n j = h r n j := fun r n j hne => by rw [c4 r n j hne, a4 r n j hne]
      have fm2 : ∀ r j, ¬ ((5 ≤ r ∧ r ≤ 9) ∨ r = 12 ∨ r = 13) → m2 r j = m r j := fun r j hne => by rw [c5 r j (by omega), mset_ne (by omega), a5 r j (by omega)]
      unfold F195
      rcases L_cell c3 (by rw [fc2 576 1 0 (by omega), fm2 15 0 (by omega)]; exact hV.1.1) (by rw [fc2 577 1 0 (by omega), fm2 15 1 (by omega)]; exact hV.1.2.1) (by rw [fm2 15 0 (by omega)]; omega) (by rw [fm2 15 0 (by omega)]; omega) (by rw [fm2 15 1 (by omega)]; omega) (by rw [fm2 15 1 (by omega)]; omega) with ⟨x, h3, m3, x0, x1, d1, d2, d3, d4, d5, d6, d7⟩ | ⟨h', m', d1, d2, d3, d4, d5⟩
      · rw [d1, d2, Option.bind_some, Option.bind_some, if_pos (show ¬ (1 : Int) = 0 by decide)]
        dsimp only
        rw [if_pos (show ¬ x = -1 by omega), zG_t (show 0 ≤ p ∧ p < 6 by omega)]
        obtain ⟨h6, m6, o1, o2, o4, o5, o6⟩ := L21h (h2 := hset h3 589 1 p x) (m2 := m3) d5 (by omega) (fun r j _ _ => hset_ne (by omega)) (fun _ _ _ => rfl)
        rw [o1, o2, Option.bind_some, Option.bind_some, Option.bind_some, if_pos (show ¬ (1 : Int) = 0 by decide), zG_t (show 0 ≤ 25 + 2 * p + 1 ∧ 25 + 2 * p + 1 < 209 by omega)]
        dsimp only
        generalize hM : mset m6 15 (25 + 2 * p + 1) (m6 13 0) = M
        have fc : ∀ r n j, ¬ ((324 ≤ r ∧ r ≤ 328) ∨ (r = 589 ∧ n = 1 ∧ j = p)) → h6 r n j = h r n j := fun r n j hne => by rw [o5 r n j (by omega), hset_ne (by omega), d6 r n j (by omega), fc2 r n j (by omega)]
        have fm : ∀ r j, ¬ ((5 ≤ r ∧ r ≤ 9) ∨ r = 12 ∨ r = 13 ∨ (r = 15 ∧ j = 25 + 2 * p + 1)) → M r j = m r j := fun r j hne => by rw [← hM, mset_ne (by omega), o6 r j (by omega), d7 r j (by omega), fm2 r j (by omega)]
        have f15 : ∀ k, ¬ k = 25 + 2 * p + 1 → M 15 k = m 15 k := fun k hk => fm 15 k (by omega)
        have Ma : M 15 (25 + 2 * p + 1) = x := by rw [← hM, mset_eq, o6 13 0 (by omega)]; exact d3
        have y589 : h6 589 1 p = x := by rw [o5 589 1 p (by omega), hset_eq]
        refine Or.inl ⟨h6, M, rfl, rfl, ⟨?_, by rw [fc 322 0 0 (by omega), fm 10 0 (by omega)]; exact hf, ?_, ?_⟩, fun r n j hne => fc r n j (by omega), fun r j hne => fm r j (by omega), ?_⟩
        · rw [← hM]
          exact TR_keep o4 (fun _ _ _ _ => rfl) (fun r j g => mset_ne (by omega))
        · refine VR_parts hV ⟨?_, ?_⟩ (fun u v => ⟨VC_k (f15 2 (by omega)) (fun r j _ _ => fc r 1 j (by omega)) (fun k _ _ => f15 k (by omega)) u, WC_k (f15 2 (by omega)) (fun k _ _ => f15 k (by omega)) v⟩) (fun u v => ⟨?_, ?_⟩) (fun u v => ⟨VM_k (f15 4 (by omega)) (fun r j _ _ => fc r 1 j (by omega)) (fun k _ _ => f15 k (by omega)) u, WM_k (f15 4 (by omega)) (by rw [f15 3 (by omega)]; exact Int.le_refl _) (fun k _ _ => f15 k (by omega)) v⟩) (fun u => VF_k (f15 5 (by omega)) (fun j => fc 593 1 j (by omega)) (fun k _ _ => f15 k (by omega)) u) (fun u v => ⟨VS_k (f15 6 (by omega)) (fun r j _ _ => fc r 1 j (by omega)) (fun k _ _ => f15 k (by omega)) u, WS_k (f15 6 (by omega)) (fun k _ _ => f15 k (by omega)) v⟩) (fun u => VQ_k (f15 2 (by omega)) (f15 3 (by omega)) (fun c _ _ => ⟨fc 583 1 c (by omega), fm 20 c (by omega)⟩) (fun c _ _ => ⟨fc 587 1 c (by omega), fm 20 (6 + c) (by omega)⟩) u)
          · unfold VN
            rw [fc 576 1 0 (by omega), fc 577 1 0 (by omega), fc 578 1 0 (by omega), fc 579 1 0 (by omega), fc 580 1 0 (by omega), fc 581 1 0 (by omega), fc 582 1 0 (by omega), f15 0 (by omega), f15 1 (by omega), f15 2 (by omega), f15 3 (by omega), f15 4 (by omega), f15 5 (by omega), f15 6 (by omega)]
            exact hV.1
          · unfold WN
            rw [f15 0 (by omega), f15 1 (by omega), f15 2 (by omega), f15 3 (by omega), f15 4 (by omega), f15 5 (by omega), f15 6 (by omega)]
            omega
          · intro k k0 k1
            rw [f15 3 (by omega)] at k1
            by_cases w : k = p
            · subst w
              rw [y589, Ma, fc 588 1 k (by omega), f15 (25 + 2 * k) (by omega)]
              exact ⟨(u k k0 k1).1, rfl⟩
            · rw [fc 588 1 k (by omega), fc 589 1 k (by omega), f15 (25 + 2 * k) (by omega), f15 (25 + 2 * k + 1) (by omega)]
              exact u k k0 k1
          · intro k k0 k1
            rw [f15 3 (by omega)] at k1
            have vv := v k k0 k1
            by_cases w : k = p
            · subst w
              rw [Ma, f15 (25 + 2 * k) (by omega)]
              omega
            · rw [f15 (25 + 2 * k) (by omega), f15 (25 + 2 * k + 1) (by omega)]
              exact vv
        · rw [f15 0 (by omega), fm 24 0 (by omega)]
          exact hL
        · have z : ∀ j, ¬ j = p → zcp (M 15) j = zcp (m 15) j := fun j hj => zcp_k (f15 3 (by omega)) (f15 _ (by omega))
          have z1 : zcp (M 15) p = 1 := by
            unfold zcp
            rw [f15 3 (by omega), Ma, if_pos ⟨p1, by omega⟩]
          have z2 : zcp (m 15) p = 0 := by
            unfold zcp
            rw [if_neg (fun z => z.2 q)]
          unfold zCNT
          rw [fm 24 0 (by omega), f15 2 (by omega), f15 3 (by omega), f15 4 (by omega), f15 5 (by omega), f15 6 (by omega)]
          have e : p = 0 ∨ p = 1 ∨ p = 2 ∨ p = 3 ∨ p = 4 ∨ p = 5 := by omega
          rcases e with e | e | e | e | e | e <;> subst e <;> (repeat (first | rw [z1, z2] | (rw [z _ (by decide)])))<;> omega
      · rw [d1, d2, Option.bind_some, Option.bind_some, if_neg (show ¬ ¬ (0 : Int) = 0 by decide), Option.bind_some, if_neg (show ¬ ¬ (0 : Int) = 0 by decide), if_neg (show ¬ ¬ (-1 : Int) = -1 by decide)]
        exact Or.inr ⟨h', m', rfl, rfl, d3, fun r n j hne => by rw [d4 r n j (by omega), fc2 r n j (by omega)], fun r j hne => by rw [d5 r j (by omega), fm2 r j (by omega)]⟩
    · rw [if_neg (show ¬ h1 589 1 p = -1 from fun z => q (e589.symm.trans z)), if_neg q]
      obtain ⟨h', m', g1, g2, g3, g4, g5⟩ := L31 (k := 3) (TR_told (x := p) a3) (Or.inr (by rw [mset_ne (by omega)]; exact TR_at a3 (by omega) (by omega)))
      rw [g1, g2, Option.bind_some, Option.bind_some, zG_t (Or.inl rfl), zG_t (Or.inl rfl)]
      exact Or.inr ⟨h', m', rfl, rfl, g3, fun r n j hne => by rw [g4 r n j (by omega), a4 r n j (by omega)], fun r j hne => by rw [g5 r j (by omega), mset_ne (by omega), a5 r j (by omega)]⟩
  · rw [b1, b2, Option.bind_some, Option.bind_some, if_neg (show ¬ ¬ (0 : Int) = 0 by decide), if_neg (show ¬ ¬ (-1 : Int) = -1 by decide)]
    exact Or.inr ⟨h', m', rfl, rfl, b3, fun r n j hne => by rw [b4 r n j (by omega), a4 r n j (by omega)], fun r j hne => by rw [b5 r j (by omega), a5 r j (by omega)]⟩
theorem L_hasF {h : zHC} {x c : Int} (e : h 581 1 0 = c) (c8 : c ≤ 8) : ∀ (n : Nat) (k : Int), 0 ≤ k → k ≤ c → c - k < n → (F47_0 h n 1 x k = some 0 ∧ ∀ j, k ≤ j → j < c → ¬ h 593 1 j = x) ∨ (F47_0 h n 1 x k = some 1 ∧ ∃ j, k ≤ j ∧ j < c ∧ h 593 1 j = x) := by
  intro n
  induction n with
  | zero => intro k k0 k1 g; omega
  | succ n ih =>
    intro k k0 k1 g
    rw [F47_0, e]
    by_cases u : k = c
    · rw [if_pos (by omega)]
      exact Or.inl ⟨rfl, fun j j0 j1 => by omega⟩
    · rw [if_neg (by omega), zG_t (by omega)]
      by_cases v : h 593 1 k = x
      · rw [if_neg (fun z => z v)]
        exact Or.inr ⟨rfl, k, by omega, by omega, v⟩
      · rw [if_pos v, wadd_eq (by omega) (by omega)]
        rcases ih (k + 1) (by omega) (by omega) (by omega) with ⟨a, b⟩ | ⟨a, j, j0, j1, j2⟩
        · refine Or.inl ⟨a, fun j j0 j1 => ?_⟩
          by_cases w : j = k
          · subst w; exact v
          · exact b j (by omega) j1
        · exact Or.inr ⟨a, j, by omega, j1, j2⟩
theorem K_felt {h : zHC} {m : zHM} (hI : VI h m) (k3 : h 324 0 0 = 3) : VO h m (F46 h) (F199 m) := by
  have big := zFu_big
  obtain ⟨hT, hf, hV, hL⟩ := hI
  have w6 := hV.2.2.2.2.2.2.2.1
  unfold WN at w6
  have e581 : h 581 1 0 = m 15 5 := hV.1.2.2.2.2.2.1
  obtain ⟨c, hc⟩ : ∃ c, m 15 5 = c := ⟨_, rfl⟩
  unfold F46
  rw [F199_y]
  rw [e581, hc]
  by_cases q : c < 8
  · rw [if_pos q, if_pos (show ¬ c = 8 by omega)]
    obtain ⟨h2, m2, a1, a2, a3, fc2, fm2⟩ := L21h (h2 := h) (m2 := m) hT (by omega) (fun _ _ _ _ => rfl) (fun _ _ _ => rfl)
    rw [a1, a2, Option.bind_some, Option.bind_some]
    rcases L_cell a3 (by rw [fc2 576 1 0 (by omega), fm2 15 0 (by omega)]; exact hV.1.1) (by rw [fc2 577 1 0 (by omega), fm2 15 1 (by omega)]; exact hV.1.2.1) (by rw [fm2 15 0 (by omega)]; omega) (by rw [fm2 15 0 (by omega)]; omega) (by rw [fm2 15 1 (by omega)]; omega) (by rw [fm2 15 1 (by omega)]; omega) with ⟨x, h3, m3, x0, x1, d1, d2, d3, d4, d5, d6, d7⟩ | ⟨h', m', d1, d2, d3, d4, d5⟩
    · have fc3 : ∀ r n j, ¬ (324 ≤ r ∧ r ≤ 328) → h3 r n j = h r n j := fun r n j hne => by rw [d6 r n j hne, fc2 r n j hne]
      have fm3 : ∀ r j, ¬ ((5 ≤ r ∧ r ≤ 9) ∨ r = 12 ∨ r = 13) → m3 r j = m r j := fun r j hne => by rw [d7 r j (by omega), fm2 r j (by omega)]
      rw [d1, d2, Option.bind_some, Option.bind_some, if_pos (show ¬ (1 : Int) = 0 by decide)]
      dsimp only
      rw [d3, if_pos (show ¬ x = -1 by omega)]
      unfold zY199
      rw [wadd_eq (x := 97) (y := x) (by omega) (by omega), zG_t (show 0 ≤ 97 + x ∧ 97 + x < 209 by omega), fm3 15 _ (by omega)]
      have hx := hV.2.2.2.2.1 x x0 x1
      unfold F47
      rcases L_hasF (h := h3) (x := x) (c := c) (by rw [fc3 581 1 0 (by omega), e581, hc]) (by omega) zFu 0 (by decide) (by omega) (by omega) with ⟨s1, s2⟩ | ⟨s1, j, j0, j1, j2⟩
      · have q0 : m 15 (97 + x) ≤ 0 := by
          refine Int.not_lt.mp (fun z => ?_)
          obtain ⟨k, k0, k1, k2⟩ := hx.mp z
          exact s2 k k0 (by omega) (by rw [fc3 593 1 k (by omega)]; exact k2)
        rw [s1, Option.bind_some, if_pos rfl, if_pos q0, zG_t (show 0 ≤ c ∧ c < 8 by omega), zG_t (show 0 ≤ 97 + x ∧ 97 + x < 209 by omega), wadd_eq (x := c) (y := 1) (by omega) (by omega)]
        have e2 : (mset m3 15 (97 + x) 1) 15 5 = c := by rw [mset_ne (by omega), fm3 15 5 (by omega)]; exact hc
        rw [e2, wadd_eq (x := c) (y := 1) (by omega) (by omega)]
        obtain ⟨h6, M, o1, o2, o4, o5, o6⟩ := L21h (h2 := hset (hset h3 593 1 c x) 581 1 0 (c + 1)) (m2 := mset (mset m3 15 (97 + x) 1) 15 5 (c + 1)) d5 (by omega) (fun r j _ _ => by rw [hset_ne (by omega), hset_ne (by omega)]) (fun r j g => by rw [mset_ne (by omega), mset_ne (by omega)])
        rw [o1, o2, Option.bind_some, Option.bind_some]
        have fc : ∀ r n j, ¬ ((324 ≤ r ∧ r ≤ 328) ∨ (r = 593 ∧ n = 1 ∧ j = c) ∨ (r = 581 ∧ n = 1 ∧ j = 0)) → h6 r n j = h r n j := fun r n j hne => by rw [o5 r n j (by omega), hset_ne (by omega), hset_ne (by omega), fc3 r n j (by omega)]
        have fm : ∀ r j, ¬ ((5 ≤ r ∧ r ≤ 9) ∨ r = 12 ∨ r = 13 ∨ (r = 15 ∧ (j = 5 ∨ j = 97 + x))) → M r j = m r j := fun r j hne => by rw [o6 r j (by omega), mset_ne (by omega), mset_ne (by omega), fm3 r j (by omega)]
        have f15 : ∀ k, ¬ (k = 5 ∨ k = 97 + x) → M 15 k = m 15 k := fun k hk => fm 15 k (by omega)
        have M5 : M 15 5 = c + 1 := by rw [o6 15 5 (by omega), mset_eq]
        have Ma : M 15 (97 + x) = 1 := by rw [o6 15 _ (by omega), mset_ne (by omega), mset_eq]
        have y581 : h6 581 1 0 = c + 1 := by rw [o5 581 1 0 (by omega), hset_eq]
        have y593 : h6 593 1 c = x := by rw [o5 593 1 c (by omega), hset_ne (by omega), hset_eq]
        refine Or.inl ⟨h6, M, rfl, rfl, ⟨o4, by rw [fc 322 0 0 (by omega), fm 10 0 (by omega)]; exact hf, ?_, ?_⟩, fun r n j hne => fc r n j (by omega), fun r j hne => fm r j (by omega), ?_⟩
        · refine VR_parts hV ⟨?_, ?_⟩ (fun u v => ⟨VC_k (f15 2 (by omega)) (fun r j _ _ => fc r 1 j (by omega)) (fun k _ _ => f15 k (by omega)) u, WC_k (f15 2 (by omega)) (fun k _ _ => f15 k (by omega)) v⟩) (fun u v => ⟨VP_k (f15 3 (by omega)) (fun r j _ _ => fc r 1 j (by omega)) (fun k _ _ => f15 k (by omega)) u, WP_k (f15 3 (by omega)) (fun k _ _ => f15 k (by omega)) v⟩) (fun u v => ⟨VM_k (f15 4 (by omega)) (fun r j _ _ => fc r 1 j (by omega)) (fun k _ _ => f15 k (by omega)) u, WM_k (f15 4 (by omega)) (by rw [f15 3 (by omega)]; exact Int.le_refl _) (fun k _ _ => f15 k (by omega)) v⟩) (fun u => ?_) (fun u v => ⟨VS_k (f15 6 (by omega)) (fun r j _ _ => fc r 1 j (by omega)) (fun k _ _ => f15 k (by omega)) u, WS_k (f15 6 (by omega)) (fun k _ _ => f15 k (by omega)) v⟩) (fun u => VQ_k (f15 2 (by omega)) (f15 3 (by omega)) (fun c _ _ => ⟨fc 583 1 c (by omega), fm 20 c (by omega)⟩) (fun c _ _ => ⟨fc 587 1 c (by omega), fm 20 (6 + c) (by omega)⟩) u)
          · unfold VN
            rw [fc 576 1 0 (by omega), fc 577 1 0 (by omega), y581, fc 578 1 0 (by omega), fc 579 1 0 (by omega), fc 580 1 0 (by omega), fc 582 1 0 (by omega), f15 0 (by omega), f15 1 (by omega), M5, f15 2 (by omega), f15 3 (by omega), f15 4 (by omega), f15 6 (by omega)]
            exact ⟨hV.1.1, hV.1.2.1, hV.1.2.2.1, hV.1.2.2.2.1, hV.1.2.2.2.2.1, rfl, hV.1.2.2.2.2.2.2⟩
          · unfold WN
            rw [f15 0 (by omega), f15 1 (by omega), M5, f15 2 (by omega), f15 3 (by omega), f15 4 (by omega), f15 6 (by omega)]
            omega
          · intro y y0 y1
            rw [M5]
            by_cases w : y = x
            · subst w
              rw [Ma]
              exact ⟨fun _ => ⟨c, by omega, by omega, y593⟩, fun _ => by decide⟩
            · rw [f15 (97 + y) (by omega)]
              refine (u y y0 y1).trans ?_
              constructor
              · rintro ⟨k, k0, k1, k2⟩
                exact ⟨k, k0, by omega, by rw [fc 593 1 k (by omega)]; exact k2⟩
              · rintro ⟨k, k0, k1, k2⟩
                by_cases w2 : k = c
                · subst w2
                  rw [y593] at k2
                  exact absurd k2.symm w
                · exact ⟨k, k0, by omega, by rw [← fc 593 1 k (by omega)]; exact k2⟩
        · rw [f15 0 (by omega), fm 24 0 (by omega)]
          exact hL
        · have n := zCNT_k (m := m) (M := M) (fm 24 0 (by omega)) (fun k hk => f15 k (by omega))
          rw [M5, f15 2 (by omega), f15 4 (by omega), f15 6 (by omega)] at n
          omega
      · have q0 : ¬ m 15 (97 + x) ≤ 0 := fun z => absurd (hx.mpr ⟨j, j0, by omega, by rw [← fc3 593 1 j (by omega)]; exact j2⟩) (by omega)
        rw [s1, Option.bind_some, if_neg (show ¬ (1 : Int) = 0 by decide), if_neg q0]
        obtain ⟨h', m', g1, g2, g3, g4, g5⟩ := L31 (k := 3) d5 (Or.inr (TR_at d5 (by omega) (by omega)))
        rw [g1, g2, Option.bind_some, Option.bind_some, zG_t (Or.inl rfl), zG_t (Or.inl rfl)]
        exact Or.inr ⟨h', m', rfl, rfl, g3, fun r n j hne => by rw [g4 r n j (by omega), fc3 r n j (by omega)], fun r j hne => by rw [g5 r j (by omega), fm3 r j (by omega)]⟩
    · rw [d1, d2, Option.bind_some, Option.bind_some, if_neg (show ¬ ¬ (0 : Int) = 0 by decide), if_neg (show ¬ ¬ (-1 : Int) = -1 by decide)]
      exact Or.inr ⟨h', m', rfl, rfl, d3, fun r n j hne => by rw [d4 r n j (by omega), fc2 r n j (by omega)], fun r j hne => by rw [d5 r j (by omega), fm2 r j (by omega)]⟩
  · rw [if_neg q, if_neg (show ¬ ¬ c = 8 by omega)]
    obtain ⟨h', m', a1, a2, a3, a4, a5⟩ := L31 (k := 4) hT (Or.inr (TR_at hT (by omega) (by omega)))
    rw [a1, a2, Option.bind_some, Option.bind_some, zG_t (Or.inl rfl), zG_t (Or.inl rfl)]
    exact Or.inr ⟨h', m', rfl, rfl, a3, fun r n j hne => a4 r n j (by omega), fun r j hne => a5 r j (by omega)⟩
theorem L_hasS {h : zHC} {m : zHM} {x c : Int} (e : h 582 1 0 = c) (c6 : c < 6) (hC : ∀ k, 0 ≤ k → k < c → h 594 1 k = m 15 (197 + 2 * k)) (hx : m 13 0 = x) : ∀ (n n' : Nat) (k : Int), 0 ≤ k → k ≤ c → c - k < n → c - k < n' → (F49_0 h n 1 x k = some 0 ∧ (∀ j, k ≤ j → j < c → ¬ m 15 (197 + 2 * j) = x) ∧ ∃ q, F200_0 n' c k m = F200_0 (q + 1) c c m) ∨ (F49_0 h n 1 x k = some 1 ∧ F200_0 n' c k m = (F185 3 m).bind fun r4 => zG (r4.1 = 0 ∨ r4.1 = 1) (some (r4.1, r4.2))) := by
  intro n
  induction n with
  | zero => intro n' k k0 k1 g1 g2; omega
  | succ n ih =>
    intro n' k k0 k1 g1 g2
    cases n' with
    | zero => omega
    | succ n' =>
      by_cases u : k = c
      · subst u
        refine Or.inl ⟨?_, fun j j0 j1 => by omega, n', rfl⟩
        rw [F49_0, e, if_pos (Int.le_refl _)]
      · have eC : F49_0 h (n + 1) 1 x k = if ¬ h 594 1 k = x then F49_0 h n 1 x (k + 1) else some 1 := by
          rw [F49_0, e, if_neg (show ¬ c ≤ k by omega), zG_t (show 0 ≤ k ∧ k < 6 by omega), wadd_eq (x := k) (y := 1) (by omega) (by omega)]
        have eM : F200_0 (n' + 1) c k m = if ¬ m 15 (197 + 2 * k) = m 13 0 then F200_0 n' c (k + 1) m else (F185 3 m).bind fun r4 => zG (r4.1 = 0 ∨ r4.1 = 1) (some (r4.1, r4.2)) := by
          rw [F200_0, if_neg (show ¬ c ≤ k by omega), wmul_eq (x := 2) (y := k) (by omega) (by omega), wadd_eq (x := 197) (y := 2 * k) (by omega) (by omega), zG_t (show 0 ≤ 197 + 2 * k ∧ 197 + 2 * k < 209 by omega), wadd_eq (x := k) (y := 1) (by omega) (by omega)]
        rw [eC, eM, hC k k0 (by omega), hx]
        by_cases v : m 15 (197 + 2 * k) = x
        · rw [if_neg (show ¬ ¬ m 15 (197 + 2 * k) = x from fun z => z v), if_neg (show ¬ ¬ m 15 (197 + 2 * k) = x from fun z => z v)]
          exact Or.inr ⟨rfl, rfl⟩
        · rw [if_pos v, if_pos v]
          rcases ih n' (k + 1) (by omega) (by omega) (by omega) (by omega) with ⟨a, b, d⟩ | ab
          · refine Or.inl ⟨a, fun j j0 j1 => ?_, d⟩
            by_cases w : j = k
            · subst w; exact v
            · exact b j (by omega) j1
          · exact Or.inr ab
theorem K_snow {h : zHC} {m : zHM} (hI : VI h m) (k3 : h 324 0 0 = 3) : VO h m (F48 h) (F200 m) := by
  have big := zFu_big
  obtain ⟨hT, hf, hV, hL⟩ := hI
  have w6 := hV.2.2.2.2.2.2.2.1
  unfold WN at w6
  have e582 : h 582 1 0 = m 15 6 := hV.1.2.2.2.2.2.2
  obtain ⟨c, hc⟩ : ∃ c, m 15 6 = c := ⟨_, rfl⟩
  unfold F48 F200
  rw [e582, hc]
  by_cases q : c < 6
  · rw [if_pos q, if_pos (show ¬ c = 6 by omega)]
    obtain ⟨h2, m2, a1, a2, c3, fc2, fm2⟩ := L21h (h2 := h) (m2 := m) hT (by omega) (fun _ _ _ _ => rfl) (fun _ _ _ => rfl)
    rw [a1, a2, Option.bind_some, Option.bind_some]
    rcases L33 (lo := 0) (hi := 200) c3 with ⟨d1, d2, d3, d4, d5, d6⟩ | ⟨h', m', d1, d2, d3, d4, d5⟩
    · rw [d5, d6, Option.bind_some, Option.bind_some, if_pos (show ¬ (1 : Int) = 0 by decide), if_pos (show ¬ (1 : Int) = 0 by decide)]
      dsimp only
      obtain ⟨x, hx⟩ : ∃ x, m2 8 0 = x := ⟨_, rfl⟩
      rw [d4, hx]
      rw [hx] at d2 d3
      unfold F49
      have hm3 : ∀ r j, ¬ (r = 13 ∧ j = 0) → (mset m2 13 0 x) r j = m2 r j := fun r j hne => mset_ne hne
      rcases L_hasS (h := h2) (m := mset m2 13 0 x) (x := x) (c := c) (by rw [fc2 582 1 0 (by omega), e582, hc]) q (fun k k0 k1 => by rw [fc2 594 1 k (by omega), hm3 15 _ (by omega), fm2 15 _ (by omega)]; exact (hV.2.2.2.2.2.1 k k0 (by omega)).1) mset_eq zFu zFu 0 (by decide) (by omega) (by omega) (by omega) with ⟨s1, s0, y, s2⟩ | ⟨s1, s2⟩
      · rw [s1, s2, Option.bind_some, if_pos rfl, F200_0, if_pos (Int.le_refl _), wmul_eq (x := 2) (y := c) (by omega) (by omega), wadd_eq (x := 197) (by omega) (by omega), wadd_eq (x := 197 + 2 * c) (y := 1) (by omega) (by omega), zG_t (show 0 ≤ 197 + 2 * c ∧ 197 + 2 * c < 209 by omega), mset_eq]
        obtain ⟨h4, m4, g1, g2, g3, g4, g5⟩ := L21h (h2 := h2) (m2 := mset (mset m2 13 0 x) 15 (197 + 2 * c) x) c3 (by omega) (fun _ _ _ _ => rfl) (fun r j g => by rw [mset_ne (by omega), mset_ne (by omega)])
        rw [g1, g2, Option.bind_some, Option.bind_some]
        have fc4 : ∀ r n j, ¬ (324 ≤ r ∧ r ≤ 328) → h4 r n j = h r n j := fun r n j hne => by rw [g4 r n j hne, fc2 r n j hne]
        have fm4 : ∀ r j, ¬ ((5 ≤ r ∧ r ≤ 9) ∨ r = 12 ∨ r = 13 ∨ (r = 15 ∧ j = 197 + 2 * c)) → m4 r j = m r j := fun r j hne => by rw [g5 r j (by omega), mset_ne (by omega), mset_ne (by omega), fm2 r j (by omega)]
        rcases L_num (lo := 0) (hi := 9) g3 with ⟨l1, l2, l3, l4, l5⟩ | ⟨h', m', l1, l2, l3, l4, l5⟩
        · obtain ⟨h6, m6, o1, o2, o3, o4, o5, o6⟩ := l5 (hset (hset (hset h4 594 1 c x) 595 1 c (h4 326 0 0)) 582 1 0 (c + 1)) (fun r j _ _ => by rw [hset_ne (by omega), hset_ne (by omega), hset_ne (by omega)])
          rw [l4, o2, Option.bind_some, Option.bind_some, if_pos (show ¬ (1 : Int) = 0 by decide), if_pos (show ¬ (1 : Int) = 0 by decide), zG_t (show 0 ≤ c ∧ c < 6 by omega), zG_t (show 0 ≤ c ∧ c < 6 by omega), zG_t (show 0 ≤ 197 + 2 * c + 1 ∧ 197 + 2 * c + 1 < 209 by omega), wadd_eq (x := c) (y := 1) (by omega) (by omega)]
          dsimp only
          rw [o1, Option.bind_some]
          have e2 : (mset m6 15 (197 + 2 * c + 1) (m6 13 0)) 15 6 = c := by rw [mset_ne (by omega), o6 15 6 (by omega), fm4 15 6 (by omega)]; exact hc
          rw [e2, wadd_eq (x := c) (y := 1) (by omega) (by omega)]
          generalize hM : mset (mset m6 15 (197 + 2 * c + 1) (m6 13 0)) 15 6 (c + 1) = M
          have fc : ∀ r n j, ¬ ((324 ≤ r ∧ r ≤ 328) ∨ (594 ≤ r ∧ r ≤ 595 ∧ n = 1 ∧ j = c) ∨ (r = 582 ∧ n = 1 ∧ j = 0)) → h6 r n j = h r n j := fun r n j hne => by rw [o5 r n j (by omega), hset_ne (by omega), hset_ne (by omega), hset_ne (by omega), fc4 r n j (by omega)]
          have fm : ∀ r j, ¬ ((5 ≤ r ∧ r ≤ 9) ∨ r = 12 ∨ r = 13 ∨ (r = 15 ∧ (j = 6 ∨ (197 + 2 * c ≤ j ∧ j ≤ 197 + 2 * c + 1)))) → M r j = m r j := fun r j hne => by rw [← hM, mset_ne (by omega), mset_ne (by omega), o6 r j (by omega), fm4 r j (by omega)]
          have f15 : ∀ k, ¬ (k = 6 ∨ (197 + 2 * c ≤ k ∧ k ≤ 197 + 2 * c + 1)) → M 15 k = m 15 k := fun k hk => fm 15 k (by omega)
          have M6 : M 15 6 = c + 1 := by rw [← hM, mset_eq]
          have Ma : M 15 (197 + 2 * c) = x := by rw [← hM, mset_ne (by omega), mset_ne (by omega), o6 15 _ (by omega), g5 15 _ (by omega), mset_eq]
          have Mb : M 15 (197 + 2 * c + 1) = h4 326 0 0 := by rw [← hM, mset_ne (by omega), mset_eq]; exact o3
          have y582 : h6 582 1 0 = c + 1 := by rw [o5 582 1 0 (by omega), hset_eq]
          have y594 : h6 594 1 c = x := by rw [o5 594 1 c (by omega), hset_ne (by omega), hset_ne (by omega), hset_eq]
          have y595 : h6 595 1 c = h4 326 0 0 := by rw [o5 595 1 c (by omega), hset_ne (by omega), hset_eq]
          refine Or.inl ⟨h6, M, rfl, rfl, ⟨?_, by rw [fc 322 0 0 (by omega), fm 10 0 (by omega)]; exact hf, ?_, ?_⟩, fun r n j hne => fc r n j (by omega), fun r j hne => fm r j (by omega), ?_⟩
          · rw [← hM]
            exact TR_keep o4 (fun _ _ _ _ => rfl) (fun r j g => by rw [mset_ne (by omega), mset_ne (by omega)])
          · refine VR_parts hV ⟨?_, ?_⟩ (fun u v => ⟨VC_k (f15 2 (by omega)) (fun r j _ _ => fc r 1 j (by omega)) (fun k _ _ => f15 k (by omega)) u, WC_k (f15 2 (by omega)) (fun k _ _ => f15 k (by omega)) v⟩) (fun u v => ⟨VP_k (f15 3 (by omega)) (fun r j _ _ => fc r 1 j (by omega)) (fun k _ _ => f15 k (by omega)) u, WP_k (f15 3 (by omega)) (fun k _ _ => f15 k (by omega)) v⟩) (fun u v => ⟨VM_k (f15 4 (by omega)) (fun r j _ _ => fc r 1 j (by omega)) (fun k _ _ => f15 k (by omega)) u, WM_k (f15 4 (by omega)) (by rw [f15 3 (by omega)]; exact Int.le_refl _) (fun k _ _ => f15 k (by omega)) v⟩) (fun u => VF_k (f15 5 (by omega)) (fun j => fc 593 1 j (by omega)) (fun k _ _ => f15 k (by omega)) u) (fun u v => ⟨?_, ?_⟩) (fun u => VQ_k (f15 2 (by omega)) (f15 3 (by omega)) (fun c _ _ => ⟨fc 583 1 c (by omega), fm 20 c (by omega)⟩) (fun c _ _ => ⟨fc 587 1 c (by omega), fm 20 (6 + c) (by omega)⟩) u)
            · unfold VN
              rw [fc 576 1 0 (by omega), fc 577 1 0 (by omega), y582, fc 578 1 0 (by omega), fc 579 1 0 (by omega), fc 580 1 0 (by omega), fc 581 1 0 (by omega), f15 0 (by omega), f15 1 (by omega), M6, f15 2 (by omega), f15 3 (by omega), f15 4 (by omega), f15 5 (by omega)]
              exact ⟨hV.1.1, hV.1.2.1, hV.1.2.2.1, hV.1.2.2.2.1, hV.1.2.2.2.2.1, hV.1.2.2.2.2.2.1, rfl⟩
            · unfold WN
              rw [f15 0 (by omega), f15 1 (by omega), M6, f15 2 (by omega), f15 3 (by omega), f15 4 (by omega), f15 5 (by omega)]
              omega
            · intro k k0 k1
              rw [M6] at k1
              by_cases w : k = c
              · subst w
                rw [y594, y595, Ma, Mb]
                exact ⟨rfl, rfl⟩
              · rw [fc 594 1 k (by omega), fc 595 1 k (by omega), f15 (197 + 2 * k) (by omega), f15 (197 + 2 * k + 1) (by omega)]
                exact u k k0 (by omega)
            · intro k k0 k1
              rw [M6] at k1
              by_cases w : k = c
              · subst w
                rw [Ma, Mb]
                refine ⟨d2, d3, l2, l3, fun j j0 j1 => ?_⟩
                have s := s0 j j0 j1
                rw [hm3 15 _ (by omega), fm2 15 _ (by omega)] at s
                rw [f15 (197 + 2 * j) (by omega)]
                exact s
              · obtain ⟨w1, w2, w3, w4, w5⟩ := v k k0 (by omega)
                rw [f15 (197 + 2 * k) (by omega), f15 (197 + 2 * k + 1) (by omega)]
                refine ⟨w1, w2, w3, w4, fun j j0 j1 => ?_⟩
                rw [f15 (197 + 2 * j) (by omega)]
                exact w5 j j0 j1
          · rw [f15 0 (by omega), fm 24 0 (by omega)]
            exact hL
          · have n := zCNT_k (m := m) (M := M) (fm 24 0 (by omega)) (fun k hk => f15 k (by omega))
            rw [M6, f15 2 (by omega), f15 4 (by omega), f15 5 (by omega)] at n
            omega
        · rw [l1, l2, Option.bind_some, Option.bind_some, if_neg (show ¬ ¬ (0 : Int) = 0 by decide), if_neg (show ¬ ¬ (0 : Int) = 0 by decide)]
          exact Or.inr ⟨h', m', rfl, rfl, l3, fun r n j hne => by rw [l4 r n j (by omega), fc4 r n j (by omega)], fun r j hne => by rw [l5 r j (by omega), fm4 r j (by omega)]⟩
      · rw [s1, s2, Option.bind_some, if_neg (show ¬ (1 : Int) = 0 by decide)]
        obtain ⟨h', m', g1, g2, g3, g4, g5⟩ := L31 (k := 3) (TR_told (x := x) c3) (Or.inr (by rw [mset_ne (by omega)]; exact TR_at c3 (by omega) (by omega)))
        rw [g1, g2, Option.bind_some, Option.bind_some, zG_t (Or.inl rfl), zG_t (Or.inl rfl)]
        exact Or.inr ⟨h', m', rfl, rfl, g3, fun r n j hne => by rw [g4 r n j (by omega), fc2 r n j (by omega)], fun r j hne => by rw [g5 r j (by omega), mset_ne (by omega), fm2 r j (by omega)]⟩
    · rw [d1, d2, Option.bind_some, Option.bind_some, if_neg (show ¬ ¬ (0 : Int) = 0 by decide), if_neg (show ¬ ¬ (0 : Int) = 0 by decide)]
      exact Or.inr ⟨h', m', rfl, rfl, d3, fun r n j hne => by rw [d4 r n j (by omega), fc2 r n j (by omega)], fun r j hne => by rw [d5 r j (by omega), fm2 r j (by omega)]⟩
  · rw [if_neg q, if_neg (show ¬ ¬ c = 6 by omega)]
    obtain ⟨h', m', a1, a2, a3, a4, a5⟩ := L31 (k := 4) hT (Or.inr (TR_at hT (by omega) (by omega)))
    rw [a1, a2, Option.bind_some, Option.bind_some, zG_t (Or.inl rfl), zG_t (Or.inl rfl)]
    exact Or.inr ⟨h', m', rfl, rfl, a3, fun r n j hne => a4 r n j (by omega), fun r j hne => a5 r j (by omega)⟩
end
section
/-! A valley's text, whole. -/
theorem V_bad {h : zHC} {m : zHM} (hT : TR h m) : VO h m (F31 1 h) (F185 1 m) := by
  obtain ⟨h', m', a1, a2, a3, a4, a5⟩ := L31 (k := 1) hT (Or.inl rfl)
  exact Or.inr ⟨h', m', a1, a2, a3, fun r n j hne => a4 r n j (by omega), fun r j hne => a5 r j (by omega)⟩
def VL (h : zHC) (m : zHM) (x : Option (Int × zHC)) (y : Option (Int × zHM)) : Prop := (∃ h' m', x = some (1, h') ∧ y = F180_1 1 m' ∧ VI h' m' ∧ vfC h h' ∧ vfM m m' ∧ zCNT m' = zCNT m + 1) ∨ (∃ h' m', x = some (0, h') ∧ y = some (0, m') ∧ FT h' m' ∧ vfC h h' ∧ vfM m m')
theorem VO_line {h : zHC} {m : zHM} {x : Option (Int × zHC)} {y : Option (Int × zHM)} (o : VO h m x y) : VL h m (x.bind fun r1 => zG (r1.1 = 0 ∨ r1.1 = 1) (some (r1.1, r1.2))) (y.bind fun r => F180_1 r.1 r.2) := by
  rcases o with ⟨h', m', a1, a2, a3⟩ | ⟨h', m', a1, a2, a3⟩
  · rw [a1, a2, Option.bind_some, Option.bind_some, zG_t (Or.inr rfl)]
    exact Or.inl ⟨h', m', rfl, rfl, a3⟩
  · rw [a1, a2, Option.bind_some, Option.bind_some, zG_t (Or.inl rfl)]
    refine Or.inr ⟨h', m', rfl, ?_, a3⟩
    show F180_1 0 m' = _
    unfold F180_1
    rw [if_pos rfl]
theorem K_vl {h : zHC} {m : zHM} (hI : VI h m) : VL h m (F30 h) (F180 m) := by
  have hT := hI.1
  unfold F30 F180
  rw [E181 hT (by decide) (by decide), E181 hT (by decide) (by decide), E181 hT (by decide) (by decide), E181 hT (by decide) (by decide), E181 hT (by decide) (by decide), E181 hT (by decide) (by decide), E181 hT (by decide) (by decide), Option.bind_some, Option.bind_some, Option.bind_some, Option.bind_some, Option.bind_some, Option.bind_some, Option.bind_some]
  by_cases k3 : h 324 0 0 = 3
  · rw [if_pos k3]
    have hr : 0 ≤ h 326 0 0 := by
      obtain ⟨-, hk2, -, -⟩ := hT
      rcases hk2 with ⟨a, b, c⟩ | ⟨a, b, c⟩ | ⟨a, c⟩ | ⟨a, c, -⟩ | ⟨a, c, d, -⟩ | ⟨a, c, -⟩ | ⟨a, c, -⟩ <;> omega
    have no : ∀ k, ¬ h 326 0 0 = k → (if h 324 0 0 = 3 ∧ h 326 0 0 = k then (1 : Int) else 0) = 0 := fun k u => if_neg (fun z => u z.2)
    have ye : ∀ k, h 326 0 0 = k → (if h 324 0 0 = 3 ∧ h 326 0 0 = k then (1 : Int) else 0) = 1 := fun k u => if_pos ⟨k3, u⟩
    have n1 : ¬ (1 : Int) = 0 := by decide
    by_cases q0 : h 326 0 0 = 0
    · rw [if_pos q0, ye 0 q0, if_neg n1]
      exact VO_line (K_land hI k3)
    rw [if_neg q0, no 0 q0, if_pos rfl]
    by_cases q1 : h 326 0 0 = 1
    · rw [if_pos q1, ye 1 q1, if_neg n1]
      exact VO_line (K_cliff hI k3)
    rw [if_neg q1, no 1 q1, if_pos rfl]
    by_cases q2 : h 326 0 0 = 2
    · rw [if_pos q2, ye 2 q2, if_neg n1]
      exact VO_line (K_person hI k3)
    rw [if_neg q2, no 2 q2, if_pos rfl]
    by_cases q3 : h 326 0 0 = 3
    · rw [if_pos q3, ye 3 q3, if_neg n1]
      exact VO_line (K_move hI k3)
    rw [if_neg q3, no 3 q3, if_pos rfl]
    by_cases q4 : h 326 0 0 = 4
    · rw [if_pos q4, ye 4 q4, if_neg n1]
      exact VO_line (K_camp hI k3)
    rw [if_neg q4, no 4 q4, if_pos rfl]
    by_cases q5 : h 326 0 0 = 5
    · rw [if_pos q5, ye 5 q5, if_neg n1]
      exact VO_line (K_felt hI k3)
    rw [if_neg q5, no 5 q5, if_pos rfl]
    by_cases q6 : h 326 0 0 = 6
    · rw [if_pos q6, ye 6 q6, if_neg n1]
      exact VO_line (K_snow hI k3)
    rw [if_neg q6, no 6 q6, if_pos rfl, zG_t (show h 326 0 0 < 0 ∨ 6 < h 326 0 0 by omega)]
    exact VO_line (V_bad hT)
  · have no : ∀ k, (if h 324 0 0 = 3 ∧ h 326 0 0 = k then (1 : Int) else 0) = 0 := fun k => if_neg (fun z => k3 z.1)
    rw [if_neg k3, no, no, no, no, no, no, no, if_pos rfl, if_pos rfl, if_pos rfl, if_pos rfl, if_pos rfl, if_pos rfl, if_pos rfl]
    exact VO_line (V_bad hT)
theorem VI_lines {h : zHC} {m : zHM} {x : Int} (hI : VI h m) : VI (hset h 641 0 0 x) m := by
  obtain ⟨a, b, c, d⟩ := hI
  exact ⟨TR_keep a (fun r j _ _ => hset_ne (by omega)) (fun _ _ _ => rfl), by rw [hset_ne (by omega)]; exact b, VR_keep (fun r j _ _ => hset_ne (by omega)) (fun _ _ _ => rfl) (fun _ _ _ => rfl) c, d⟩
theorem V_loop : ∀ (n n' : Nat) (line : Int) (h : zHC) (m : zHM), VI h m → h 641 0 0 = line → 0 ≤ line → zCNT m = line → 60 - line < n → 60 - line < n' → (∃ h' m', F18_0 n line h = some (1, h') ∧ F173_1 n' line m = F173_2 zFu (h' 641 0 0) 0 m' ∧ VI h' m' ∧ vlC h h' ∧ vfM m m') ∨ (∃ h' m', F18_0 n line h = some (0, h') ∧ F173_1 n' line m = some (wsub (-1) (h' 323 0 0), m') ∧ h' 322 0 0 = m' 10 0 ∧ vlC h h' ∧ vfM m m') := by
  intro n
  induction n with
  | zero => intro n' line h m hI e l0 hc g1 g2; have := zCNT_le hI.2.2.1.2.2.2.2.2.2.2.1; omega
  | succ n ih =>
    intro n' line h m hI e l0 hc g1 g2
    have l1 := zCNT_le hI.2.2.1.2.2.2.2.2.2.2.1
    cases n' with
    | zero => omega
    | succ n' =>
      rw [F18_0, F173_1, if_neg (show ¬ 940 ≤ line by omega), E29 hI.1, Option.bind_some]
      by_cases q : m 7 0 = 0
      · rw [if_pos q, if_pos q, if_pos (show ¬ (1 : Int) = 0 by decide), ← e]
        exact Or.inl ⟨h, m, rfl, rfl, hI, fun _ _ _ _ => rfl, fun _ _ _ => rfl⟩
      · rw [if_neg q, if_neg q, if_neg (show ¬ ¬ (0 : Int) = 0 by decide)]
        rcases K_vl hI with ⟨h1, m1, a1, a2, a3, a4, a5, a6⟩ | ⟨h1, m1, a1, a2, a3, a4, a5⟩
        · rw [a1, a2, Option.bind_some, if_neg (show ¬ (1 : Int) = 0 by decide)]
          unfold F180_1 F50 F201
          rw [if_neg (show ¬ (1 : Int) = 0 by decide)]
          dsimp only
          rw [E51, Option.bind_some, E202 a3.1, Option.bind_some]
          by_cases sg : h1 324 0 0 = 5 ∧ h1 326 0 0 = 59
          · rw [if_pos sg, if_pos (show ¬ (1 : Int) = 0 by decide), if_pos (show ¬ (1 : Int) = 0 by decide)]
            obtain ⟨h5, m5, z1, z2, z3, z4, z5⟩ := L21 a3.1 (by omega)
            rw [z1, z2, Option.bind_some, Option.bind_some, Option.bind_some, Option.bind_some]
            dsimp only
            rw [if_neg (show ¬ (1 : Int) = 0 by decide), if_pos (show ¬ (1 : Int) = 0 by decide), Option.bind_some, if_pos (show ¬ (1 : Int) = 0 by decide)]
            dsimp only
            rw [z4 641 0 0 (by omega), a4 641 0 0 (by omega), e, wadd_eq (x := line) (y := 1) (by omega) (by omega)]
            have I5 : VI h5 m5 := by
              obtain ⟨b1, b2, b3, b4⟩ := a3
              refine ⟨z3, by rw [z4 322 0 0 (by omega), z5 10 0 (by omega)]; exact b2, VR_keep (fun r j _ _ => z4 r 1 j (by omega)) (fun k _ _ => z5 15 k (by omega)) (fun k _ _ => z5 20 k (by omega)) b3, ?_⟩
              rw [z5 15 0 (by omega), z5 24 0 (by omega)]
              exact b4
            have c5 : zCNT m5 = zCNT m1 := by
              have w := zCNT_k (m := m1) (M := m5) (z5 24 0 (by omega)) (fun k _ => z5 15 k (by omega))
              rw [z5 15 2 (by omega), z5 15 4 (by omega), z5 15 5 (by omega), z5 15 6 (by omega)] at w
              omega
            have gc : vlC h (hset h5 641 0 0 (line + 1)) := fun r n j hne => by rw [hset_ne (by omega), z4 r n j (by omega), a4 r n j (by omega)]
            have gm : vfM m m5 := fun r j hne => by rw [z5 r j (by omega), a5 r j hne]
            rcases ih n' (line + 1) (hset h5 641 0 0 (line + 1)) m5 (VI_lines I5) hset_eq (by omega) (by omega) (by omega) (by omega) with ⟨h6, m6, y1, y2, y3, y4, y5⟩ | ⟨h6, m6, y1, y2, y3, y4, y5⟩
            · exact Or.inl ⟨h6, m6, y1, y2, y3, fun r n j hne => by rw [y4 r n j hne, gc r n j hne], fun r j hne => by rw [y5 r j hne, gm r j hne]⟩
            · exact Or.inr ⟨h6, m6, y1, y2, y3, fun r n j hne => by rw [y4 r n j hne, gc r n j hne], fun r j hne => by rw [y5 r j hne, gm r j hne]⟩
          · rw [if_neg sg, if_neg (show ¬ ¬ (0 : Int) = 0 by decide), if_neg (show ¬ ¬ (0 : Int) = 0 by decide)]
            obtain ⟨h', m', x1, x2, x3, x4, x5⟩ := L31 (k := 1) a3.1 (Or.inl rfl)
            rw [x1, x2, Option.bind_some, Option.bind_some]
            dsimp only
            rw [zG_t (Or.inl rfl), zG_t (Or.inl rfl), Option.bind_some, Option.bind_some]
            dsimp only
            rw [if_pos rfl, Option.bind_some, if_neg (show ¬ ¬ (0 : Int) = 0 by decide), if_neg (show ¬ ¬ (0 : Int) = 0 by decide)]
            dsimp only
            rw [← x3.2]
            exact Or.inr ⟨h', m', rfl, rfl, x3.1, fun r n j hne => by rw [x4 r n j (by omega), a4 r n j (by omega)], fun r j hne => by rw [x5 r j (by omega), a5 r j hne]⟩
        · rw [a1, a2, Option.bind_some, Option.bind_some, if_pos rfl, if_neg (show ¬ ¬ (0 : Int) = 0 by decide)]
          dsimp only
          rw [← a3.2]
          exact Or.inr ⟨h1, m1, rfl, rfl, a3.1, fun r n j hne => a4 r n j (by omega), a5⟩
theorem F173_0s : ∀ (n : Nat) (q : Int) (m : zHM), 0 ≤ q → q ≤ 209 → 209 - q < n → (∀ j, 0 ≤ j → j < q → m 15 j = 0) → ∃ m', F173_0 n q m = F173_1 zFu 0 m' ∧ (∀ j, 0 ≤ j → j < 209 → m' 15 j = 0) ∧ m' 24 0 = 0 ∧ (∀ r j, ¬ (r = 15 ∨ (r = 24 ∧ j = 0)) → m' r j = m r j) := by
  intro n
  induction n with
  | zero => intro q m q0 q1 g; omega
  | succ n ih =>
    intro q m q0 q1 g e
    rw [F173_0]
    by_cases u : q = 209
    · rw [if_pos (by omega)]
      exact ⟨_, rfl, fun j j0 j1 => by rw [mset_ne (by omega)]; exact e j j0 (by omega), mset_eq, fun r j hne => mset_ne (by omega)⟩
    · rw [if_neg (by omega), zG_t (by omega), wadd_eq (by omega) (by omega)]
      obtain ⟨m', a1, a2, a3, a4⟩ := ih (q + 1) (mset m 15 q 0) (by omega) (by omega) (by omega) (fun j j0 j1 => by
        by_cases w : j = q
        · subst w; exact mset_eq
        · rw [mset_ne (by omega)]; exact e j j0 (by omega))
      exact ⟨m', a1, a2, a3, fun r j hne => by rw [a4 r j hne, mset_ne (by omega)]⟩
theorem F173_2s {v : Int} {m0 : zHM} : ∀ (n : Nat) (q : Int) (m : zHM), 0 ≤ q → q ≤ 2140 → 2140 - q < n → (∀ j, 0 ≤ j → j < q → m 14 j = if j < 209 then m0 15 j else 0) → (∀ r j, ¬ r = 14 → m r j = m0 r j) → ∃ m', F173_2 n v q m = F173_3 zFu v 0 m' ∧ (∀ j, 0 ≤ j → j < 2140 → m' 14 j = if j < 209 then m0 15 j else 0) ∧ (∀ r j, ¬ r = 14 → m' r j = m0 r j) := by
  intro n
  induction n with
  | zero => intro q m q0 q1 g; omega
  | succ n ih =>
    intro q m q0 q1 g e1 e2
    rw [F173_2]
    by_cases u : q = 2140
    · subst u
      rw [if_pos (by omega)]
      exact ⟨m, rfl, e1, e2⟩
    · rw [if_neg (show ¬ 2140 ≤ q by omega)]
      unfold F173_4
      rw [wadd_eq (x := q) (y := 1) (by omega) (by omega), zG_t (show 0 ≤ q ∧ q < 2140 by omega), zG_t (show 0 ≤ q ∧ q < 2140 by omega), e2 15 q (by decide)]
      have go := fun (x : Int) (hx : x = if q < 209 then m0 15 q else 0) => ih (q + 1) (mset m 14 q x) (by omega) (by omega) (by omega) (fun j j0 j1 => by
        by_cases w : j = q
        · subst w; rw [mset_eq]; exact hx
        · rw [mset_ne (by omega)]; exact e1 j j0 (by omega)) (fun r j hne => by rw [mset_ne (by omega)]; exact e2 r j hne)
      by_cases w : 209 ≤ q
      · rw [if_pos w]
        exact go 0 (if_neg (by omega)).symm
      · rw [if_neg w, zG_t (by omega)]
        exact go (m0 15 q) (if_pos (by omega)).symm
theorem F173_3s {v : Int} {m0 : zHM} : ∀ (n : Nat) (q : Int) (m : zHM), 0 ≤ q → q ≤ 6 → 6 - q < n → (∀ p, 0 ≤ p → p < q → m 14 (210 + p) = m0 14 (25 + 2 * p)) → (∀ r j, ¬ (r = 14 ∧ 210 ≤ j ∧ j < 216) → m r j = m0 r j) → ∃ m', F173_3 n v q m = F173_5 zFu v 0 m' ∧ (∀ p, 0 ≤ p → p < 6 → m' 14 (210 + p) = m0 14 (25 + 2 * p)) ∧ (∀ r j, ¬ (r = 14 ∧ 210 ≤ j ∧ j < 216) → m' r j = m0 r j) := by
  intro n
  induction n with
  | zero => intro q m q0 q1 g; omega
  | succ n ih =>
    intro q m q0 q1 g e1 e2
    rw [F173_3]
    by_cases u : q = 6
    · subst u
      rw [if_pos (by omega)]
      exact ⟨m, rfl, e1, e2⟩
    · rw [if_neg (by omega), wmul_eq (by omega) (by omega), wadd_eq (x := 25) (by omega) (by omega), wadd_eq (x := 210) (by omega) (by omega), zG_t (by omega), zG_t (by omega), wadd_eq (x := q) (by omega) (by omega), e2 14 (25 + 2 * q) (by omega)]
      refine ih (q + 1) _ (by omega) (by omega) (by omega) (fun p p0 p1 => ?_) (fun r j hne => by rw [mset_ne (by omega)]; exact e2 r j hne)
      by_cases w : p = q
      · subst w; exact mset_eq
      · rw [mset_ne (by omega)]; exact e1 p p0 (by omega)
theorem F173_5s {v : Int} {m0 : zHM} : ∀ (n : Nat) (q : Int) (m : zHM), 0 ≤ q → q ≤ 12 → 12 - q < n → (∀ j, 0 ≤ j → j < q → m 19 j = m0 20 j) → (∀ r j, ¬ r = 19 → m r j = m0 r j) → ∃ m', F173_5 n v q m = some (v, m') ∧ (∀ j, 0 ≤ j → j < 12 → m' 19 j = m0 20 j) ∧ m' 23 0 = 0 ∧ (∀ r j, ¬ (r = 19 ∨ (r = 23 ∧ j = 0)) → m' r j = m0 r j) := by
  intro n
  induction n with
  | zero => intro q m q0 q1 g; omega
  | succ n ih =>
    intro q m q0 q1 g e1 e2
    rw [F173_5]
    by_cases u : q = 12
    · subst u
      rw [if_pos (by omega)]
      exact ⟨_, rfl, fun j j0 j1 => by rw [mset_ne (by omega)]; exact e1 j j0 j1, mset_eq, fun r j hne => by rw [mset_ne (by omega)]; exact e2 r j (by omega)⟩
    · rw [if_neg (by omega), zG_t (by omega), zG_t (by omega), wadd_eq (by omega) (by omega), e2 20 q (by omega)]
      refine ih (q + 1) _ (by omega) (by omega) (by omega) (fun j j0 j1 => ?_) (fun r j hne => by rw [mset_ne (by omega)]; exact e2 r j hne)
      by_cases w : j = q
      · subst w; exact mset_eq
      · rw [mset_ne (by omega)]; exact e1 j j0 (by omega)
theorem C_valley {hc : zHC} {hm : zHM} (h : RG hc hm) : ∃ r hc' hm', F17 hc = some (r, hc') ∧ F173 hm = some (r, hm') ∧ RG hc' hm' := by
  have big := zFu_big
  obtain ⟨H, hH⟩ : ∃ H, hset (hset (hset (hset (hset (hset (hset (hset hc 576 1 0 0) 577 1 0 0) 578 1 0 0) 579 1 0 0) 580 1 0 0) 581 1 0 0) 582 1 0 0) 641 0 0 0 = H := ⟨_, rfl⟩
  have HC : ∀ r n j, ¬ ((576 ≤ r ∧ r ≤ 582 ∧ n = 1 ∧ j = 0) ∨ (r = 641 ∧ n = 0 ∧ j = 0)) → H r n j = hc r n j := fun r n j hne => by rw [← hH, hset_ne (by omega), hset_ne (by omega), hset_ne (by omega), hset_ne (by omega), hset_ne (by omega), hset_ne (by omega), hset_ne (by omega), hset_ne (by omega)]
  have h1 : RG H hm := RG_sc h (fun r n j hne => HC r n j (by omega)) scM_refl
  obtain ⟨h2, m2, a1, a2, a3, a4, a5, a6, a7, a8⟩ := L_open (most := 900) h1 (by decide) (by decide)
  obtain ⟨m3, b1, b2, b3, b4⟩ := F173_0s zFu 0 m2 (by decide) (by decide) (by omega) (fun j j0 j1 => by omega)
  have z576 : h2 576 1 0 = 0 := by rw [a7 576 1 0 (by omega), ← hH, hset_ne (by omega), hset_ne (by omega), hset_ne (by omega), hset_ne (by omega), hset_ne (by omega), hset_ne (by omega), hset_ne (by omega), hset_eq]
  have z577 : h2 577 1 0 = 0 := by rw [a7 577 1 0 (by omega), ← hH, hset_ne (by omega), hset_ne (by omega), hset_ne (by omega), hset_ne (by omega), hset_ne (by omega), hset_ne (by omega), hset_eq]
  have z578 : h2 578 1 0 = 0 := by rw [a7 578 1 0 (by omega), ← hH, hset_ne (by omega), hset_ne (by omega), hset_ne (by omega), hset_ne (by omega), hset_ne (by omega), hset_eq]
  have z579 : h2 579 1 0 = 0 := by rw [a7 579 1 0 (by omega), ← hH, hset_ne (by omega), hset_ne (by omega), hset_ne (by omega), hset_ne (by omega), hset_eq]
  have z580 : h2 580 1 0 = 0 := by rw [a7 580 1 0 (by omega), ← hH, hset_ne (by omega), hset_ne (by omega), hset_ne (by omega), hset_eq]
  have z581 : h2 581 1 0 = 0 := by rw [a7 581 1 0 (by omega), ← hH, hset_ne (by omega), hset_ne (by omega), hset_eq]
  have z582 : h2 582 1 0 = 0 := by rw [a7 582 1 0 (by omega), ← hH, hset_ne (by omega), hset_eq]
  have z641 : h2 641 0 0 = 0 := by rw [a7 641 0 0 (by omega), ← hH, hset_eq]
  have r0 : ∀ j, 0 ≤ j → j < 209 → m3 15 j = 0 := b2
  have hI : VI h2 m3 := by
    refine ⟨TR_keep a3 (fun _ _ _ _ => rfl) (fun r j g => b4 r j (by omega)), by rw [a4, b4 10 0 (by omega), a5], ⟨?_, ?_, ?_, ?_, ?_, ?_, ?_, ?_, ?_, ?_, ?_, ?_⟩, ?_⟩
    · unfold VN
      rw [z576, z577, z578, z579, z580, z581, z582, r0 0 (by decide) (by decide), r0 1 (by decide) (by decide), r0 2 (by decide) (by decide), r0 3 (by decide) (by decide), r0 4 (by decide) (by decide), r0 5 (by decide) (by decide), r0 6 (by decide) (by decide)]
      exact ⟨rfl, rfl, rfl, rfl, rfl, rfl, rfl⟩
    · intro c c0 c1
      rw [r0 2 (by decide) (by decide)] at c1
      omega
    · intro c c0 c1
      rw [r0 3 (by decide) (by decide)] at c1
      omega
    · intro c c0 c1
      rw [r0 4 (by decide) (by decide)] at c1
      omega
    · intro x x0 x1
      rw [r0 (97 + x) (by omega) (by omega), r0 5 (by decide) (by decide)]
      exact ⟨fun z => by omega, fun ⟨k, k0, k1, _⟩ => by omega⟩
    · intro c c0 c1
      rw [r0 6 (by decide) (by decide)] at c1
      omega
    · exact ⟨fun c c0 c1 => by rw [r0 2 (by decide) (by decide)] at c1; omega, fun c c0 c1 => by rw [r0 3 (by decide) (by decide)] at c1; omega⟩
    · unfold WN
      rw [r0 0 (by decide) (by decide), r0 1 (by decide) (by decide), r0 2 (by decide) (by decide), r0 3 (by decide) (by decide), r0 4 (by decide) (by decide), r0 5 (by decide) (by decide), r0 6 (by decide) (by decide)]
      decide
    · intro c c0 c1
      rw [r0 2 (by decide) (by decide)] at c1
      omega
    · intro c c0 c1
      rw [r0 3 (by decide) (by decide)] at c1
      omega
    · intro c c0 c1
      rw [r0 4 (by decide) (by decide)] at c1
      omega
    · intro c c0 c1
      rw [r0 6 (by decide) (by decide)] at c1
      omega
    · rw [r0 0 (by decide) (by decide), b3]
      exact ⟨fun z => by omega, fun z => absurd rfl z⟩
  have cn : zCNT m3 = 0 := by
    have z : ∀ p, 0 ≤ p → zcp (m3 15) p = 0 := by
      intro p p0
      unfold zcp
      rw [r0 3 (by decide) (by decide), if_neg (fun z => by omega)]
    unfold zCNT
    rw [b3, r0 2 (by decide) (by decide), r0 3 (by decide) (by decide), r0 4 (by decide) (by decide), r0 5 (by decide) (by decide), r0 6 (by decide) (by decide), z 0 (by decide), z 1 (by decide), z 2 (by decide), z 3 (by decide), z 4 (by decide), z 5 (by decide)]
    rfl
  have fc2 : ∀ r n j, ¬ ((322 ≤ r ∧ r ≤ 329) ∨ r = 641 ∨ (576 ≤ r ∧ r ≤ 595 ∧ n = 1)) → h2 r n j = hc r n j := fun r n j hne => by rw [a7 r n j (by omega), HC r n j (by omega)]
  have fm2 : ∀ r j, ¬ (r = 0 ∨ r = 2 ∨ (3 ≤ r ∧ r ≤ 12) ∨ r = 15 ∨ r = 24) → m3 r j = hm r j := fun r j hne => by rw [b4 r j (by omega), a8 r j (by omega)]
  have m32 : m3 2 0 = 0 := by rw [b4 2 0 (by omega)]; exact a6
  have eF18 : F18 hc = F18_0 zFu 0 h2 := by
    unfold F18 F19
    rw [Option.bind_some, hH, a1, Option.bind_some]
  have eF173 : F173 hm = F173_1 zFu 0 m3 := by
    unfold F173
    rw [a2, Option.bind_some, b1]
  unfold F17
  rw [eF18, eF173]
  rcases V_loop zFu zFu 0 h2 m3 hI z641 (by decide) cn (by omega) (by omega) with ⟨h3, m4, c1, c2, c3, c4, c5⟩ | ⟨h3, m4, c1, c2, c3, c4, c5⟩
  · rw [c1, c2, Option.bind_some, if_pos (show ¬ (1 : Int) = 0 by decide)]
    dsimp only
    obtain ⟨h4, d1, d2, d3, d4, d5, d6, d7⟩ := L52 (h := hset h3 321 0 0 0) (i := 0) (j := 1) (by decide)
    rw [d1, Option.bind_some]
    unfold F53
    rw [Option.bind_some]
    unfold F54
    rw [Option.bind_some]
    unfold F55
    rw [Option.bind_some]
    obtain ⟨h7, e7⟩ : ∃ h7, hset (hset (hset (hcpy (hset (hset (hset h4 64 0 0 0) 65 0 0 0) 66 0 0 0) 67 0 588 0 0 0 6) 384 0 0 0) 385 0 0 0) 512 0 0 0 = h7 := ⟨_, rfl⟩
    rw [e7]
    have fc7 : ∀ r n j, ¬ ((r = 64 ∨ r = 65 ∨ r = 66 ∨ r = 67 ∨ r = 384 ∨ r = 385 ∨ r = 512) ∧ n = 0) → h7 r n j = h4 r n j := fun r n j hne => by rw [← e7, hset_ne (by omega), hset_ne (by omega), hset_ne (by omega), hcpy_ne (by omega), hset_ne (by omega), hset_ne (by omega), hset_ne (by omega)]
    have fc : ∀ r n j, ¬ ((r = 64 ∨ r = 65 ∨ r = 66 ∨ r = 67 ∨ r = 384 ∨ r = 385 ∨ r = 512) ∧ n = 0) → ¬ (r = 641 ∨ (321 ≤ r ∧ r ≤ 329) ∨ (576 ≤ r ∧ r ≤ 595 ∧ (n = 0 ∨ n = 1))) → h7 r n j = hc r n j := fun r n j g hne => by rw [fc7 r n j g, d7 r n j (by omega), hset_ne (by omega), c4 r n j (by omega), fc2 r n j (by omega)]
    obtain ⟨m5, i1, i2, i3⟩ := F173_2s (v := h3 641 0 0) (m0 := m4) zFu 0 m4 (by decide) (by decide) (by omega) (fun j j0 j1 => by omega) (fun _ _ _ => rfl)
    obtain ⟨m6, j1, j2, j3⟩ := F173_3s (v := h3 641 0 0) (m0 := m5) zFu 0 m5 (by decide) (by decide) (by omega) (fun j j0 j1 => by omega) (fun _ _ _ => rfl)
    obtain ⟨m7, k1, k2, k3, k4⟩ := F173_5s (v := h3 641 0 0) (m0 := m6) zFu 0 m6 (by decide) (by decide) (by omega) (fun j j0 j1 => by omega) (fun _ _ _ => rfl)
    rw [i1, j1, k1]
    have e641 : h7 641 0 0 = h3 641 0 0 := by rw [fc7 641 0 0 (by omega), d7 641 0 0 (by omega), hset_ne (by omega)]
    rw [e641]
    have fm : ∀ r j, ¬ (r = 19 ∨ r = 23 ∨ r = 14 ∨ r = 0 ∨ (2 ≤ r ∧ r ≤ 13) ∨ r = 15 ∨ r = 20 ∨ r = 24) → m7 r j = hm r j := fun r j hne => by rw [k4 r j (by omega), j3 r j (by omega), i3 r j (by omega), c5 r j (by omega), fm2 r j (by omega)]
    have n14 : ∀ j, 0 ≤ j → j < 209 → m7 14 j = m4 15 j := fun j j0 j1 => by rw [k4 14 j (by omega), j3 14 j (by omega), i2 j j0 (by omega), if_pos j1]
    have n14z : ∀ j, 209 ≤ j → j < 2140 → ¬ (210 ≤ j ∧ j < 216) → m7 14 j = 0 := fun j j0 j1 j2 => by rw [k4 14 j (by omega), j3 14 j (by omega), i2 j (by omega) (by omega), if_neg (by omega)]
    have n14p : ∀ p, 0 ≤ p → p < 6 → m7 14 (210 + p) = m4 15 (25 + 2 * p) := fun p p0 p1 => by rw [k4 14 _ (by omega), j2 p p0 p1, i2 _ (by omega) (by omega), if_pos (by omega)]
    have n19 : ∀ j, 0 ≤ j → j < 12 → m7 19 j = m4 20 j := fun j j0 j1 => by rw [k2 j j0 j1, j3 20 j (by omega), i3 20 j (by omega)]
    have hV3 := c3.2.2.1
    have hV7 : VR h7 0 (m7 14) (m7 19) := by
      refine VR_cong (h := h3) (i := 1) (a := m4 15) (nm := m4 20) (fun r g0 g1 => ?_) (fun r j g0 g1 j0 j1 => ?_) (fun r j g0 g1 j0 j1 => ?_) (fun j j0 j1 => ?_) (fun r j g0 g1 j0 j1 => ?_) (fun k k0 k1 => n14 k k0 k1) (fun k k0 k1 => n19 k k0 k1) hV3
      · rw [fc7 r 0 0 (by omega), d2 r g0 g1, hset_ne (by omega)]
      · rw [fc7 r 0 j (by omega), d3 r j g0 g1 j0 j1, hset_ne (by omega)]
      · rw [fc7 r 0 j (by omega), d4 r j g0 g1 j0 j1, hset_ne (by omega)]
      · rw [fc7 593 0 j (by omega), d5 j j0 j1, hset_ne (by omega)]
      · rw [fc7 r 0 j (by omega), d6 r j g0 g1 j0 j1, hset_ne (by omega)]
    have x64 : h7 64 0 0 = 0 := by rw [← e7, hset_ne (by omega), hset_ne (by omega), hset_ne (by omega), hcpy_ne (by omega), hset_ne (by omega), hset_ne (by omega), hset_eq]
    have x65 : h7 65 0 0 = 0 := by rw [← e7, hset_ne (by omega), hset_ne (by omega), hset_ne (by omega), hcpy_ne (by omega), hset_ne (by omega), hset_eq]
    have x66 : h7 66 0 0 = 0 := by rw [← e7, hset_ne (by omega), hset_ne (by omega), hset_ne (by omega), hcpy_ne (by omega), hset_eq]
    have x67 : ∀ p, 0 ≤ p → p < 6 → h7 67 0 p = h7 588 0 p := fun p p0 p1 => by rw [fc7 588 0 p (by omega), ← e7, hset_ne (by omega), hset_ne (by omega), hset_ne (by omega), hcpy_eq p0 (by omega), hset_ne (by omega), hset_ne (by omega), hset_ne (by omega)]
    have x384 : h7 384 0 0 = 0 := by rw [← e7, hset_ne (by omega), hset_ne (by omega), hset_eq]
    have x385 : h7 385 0 0 = 0 := by rw [← e7, hset_ne (by omega), hset_eq]
    have x512 : h7 512 0 0 = 0 := by rw [← e7, hset_eq]
    have n6 := VR_n hV7
    have hR7 : CR h7 0 (m7 14) := by
      have y209 := n14z 209 (by decide) (by decide) (by decide)
      have y216 := n14z 216 (by decide) (by decide) (by decide)
      have y997 := n14z 997 (by decide) (by decide) (by decide)
      refine ⟨⟨by rw [x64, y209], by rw [x65, y216]; rfl, by decide, by rw [x65]; decide, by rw [x66]; decide, fun p p0 p1 => ?_, fun k k0 k1 => by omega⟩, ⟨by rw [x66, y997], fun j j0 j1 => by omega⟩, by omega, by omega, fun s s0 s1 => by omega, ⟨by omega, ?_⟩, fun j j0 j1 => by omega, fun s s0 s1 => by omega⟩
      · have w := hV7.2.2.2.2.2.2.2.2.2.1 p p0 p1
        have w2 := (hV7.2.2.1 p p0 p1).1
        rw [x67 p p0 (by omega), w2, n14p p p0 (by omega), ← n14 (25 + 2 * p) (by omega) (by omega)]
        exact ⟨rfl, w.1, w.2.1⟩
      · rw [y997, y216]
        rfl
    obtain ⟨t1, t2, t3, t4, t5, t6, t7, t8, t9⟩ := h
    refine ⟨_, _, _, rfl, rfl, ⟨?_, ?_, ?_, ?_, ?_⟩, ⟨hV7, hR7⟩, ⟨by rw [x512, k3], by rw [k3]; exact Int.le_refl _, by rw [k3]; decide, ?_, ?_, fun j j0 j1 => by omega⟩, RIm_keep (fun r n j g => fc r n j (by omega) (by omega)) (fun r j g => fm r j (by omega)) t4, ⟨by rw [x384]; decide, ?_, by rw [x385]; decide, by rw [x385]; decide, fun z => absurd x384 z⟩, RPc_keep (fun r j g => fc r 0 j (by omega) (by omega)) (fun r j g => fm r j (by omega)) t6, RSt_keep (fun r j g => fc r 0 j (by omega) (by omega)) (fun j => fm 41 j (by omega)) t7, RWr_keep (fun r j g => fc r 0 j (by omega) (by omega)) (fun r j g => fm r j (by omega)) t8, RKw_keep (fun j => fc 330 0 j (by omega) (by omega)) t9⟩
    · rw [fc7 321 0 0 (by omega), d7 321 0 0 (by omega), hset_eq, k4 2 0 (by omega), j3 2 0 (by omega), i3 2 0 (by omega), c5 2 0 (by omega), m32]
    · rw [k4 2 0 (by omega), j3 2 0 (by omega), i3 2 0 (by omega), c5 2 0 (by omega), m32]; exact Int.le_refl _
    · rw [k4 2 0 (by omega), j3 2 0 (by omega), i3 2 0 (by omega), c5 2 0 (by omega), m32]; decide
    · intro i i0 i1
      rw [fc 320 0 i (by omega) (by omega), fm 1 i (by omega)]
      exact t1.2.2.2.1 i i0 i1
    · rw [fc7 322 0 0 (by omega), d7 322 0 0 (by omega), hset_ne (by omega), k4 10 0 (by omega), j3 10 0 (by omega), i3 10 0 (by omega)]
      exact c3.2.1
    · rw [fc 513 0 0 (by omega) (by omega)]
      exact t3.2.2.2.1
    · rw [fc 513 0 0 (by omega) (by omega)]
      exact t3.2.2.2.2.1
    · rw [x384, n14z 1898 (by decide) (by decide) (by decide)]
  · rw [c1, c2, Option.bind_some, if_neg (show ¬ ¬ (0 : Int) = 0 by decide)]
    dsimp only
    exact ⟨_, _, _, rfl, rfl, RG_text h (fun r n j hne => by rw [hset_ne (by omega), c4 r n j (by omega), fc2 r n j (by omega)]) (fun r j hne => by rw [c5 r j (by omega), fm2 r j (by omega)]) hset_eq (by rw [c5 2 0 (by omega)]; exact m32) (by rw [hset_ne (by omega)]; exact c3)⟩
end
