/-! A valley's text: its lines. -/
theorem K_land {h : zHC} {m : zHM} (hI : VI h m) (k3 : h 324 0 0 = 3) : VO h m (F32 h) (F184 m) := by
  obtain ⟨hT, hf, hV, hL⟩ := hI
  have w6 := hV.2.2.2.2.2.2.2.1
  unfold WN at w6
  have e0 : h 576 1 0 = m 15 0 := hV.1.1
  unfold F32 F184
  rw [e0]
  by_cases q : m 15 0 ≤ 0
  · have q24 : m 24 0 = 0 := Classical.byContradiction (fun z => absurd (hL.mpr z) (by omega))
    rw [if_pos q, if_pos q24]
    obtain ⟨h1, m1, a1, a2, a3, a4, a5⟩ := L21h (h2 := h) (m2 := mset m 24 0 1) hT (by omega) (fun _ _ _ _ => rfl) (fun r j g => mset_ne (by omega))
    rw [a1, a2, Option.bind_some, Option.bind_some]
    rcases L_num (lo := 2) (hi := 10) a3 with ⟨b1, b2, b3, b4, b5⟩ | ⟨h', m', b1, b2, b3, b4, b5⟩
    · obtain ⟨h2, m2, c1, c2, c3, c4, c5, c6⟩ := b5 h1 (fun _ _ _ _ => rfl)
      rw [b4, c2, Option.bind_some, Option.bind_some, if_pos (show ¬ (1 : Int) = 0 by decide), if_pos (show ¬ (1 : Int) = 0 by decide)]
      dsimp only
      rw [c1, Option.bind_some]
      have t2 : TR h2 (mset m2 15 0 (m2 13 0)) := TR_keep c4 (fun _ _ _ _ => rfl) (fun r j g => mset_ne (by omega))
      rcases L_num (lo := 2) (hi := 10) t2 with ⟨d1, d2, d3, d4, d5⟩ | ⟨h', m', d1, d2, d3, d4, d5⟩
      · obtain ⟨h3, m3, g1, g2, g3, g4, g5, g6⟩ := d5 (hset (hset h2 576 1 0 (h1 326 0 0)) 577 1 0 (h2 326 0 0)) (fun r j _ _ => by rw [hset_ne (by omega), hset_ne (by omega)])
        rw [d4, g2, Option.bind_some, Option.bind_some, if_pos (show ¬ (1 : Int) = 0 by decide), if_pos (show ¬ (1 : Int) = 0 by decide)]
        dsimp only
        rw [g1, Option.bind_some]
        have fc : ∀ r n j, ¬ ((324 ≤ r ∧ r ≤ 328) ∨ ((r = 576 ∨ r = 577) ∧ n = 1 ∧ j = 0)) → h3 r n j = h r n j := fun r n j hne => by rw [g5 r n j (by omega), hset_ne (by omega), hset_ne (by omega), c5 r n j (by omega), a4 r n j (by omega)]
        have fm : ∀ r j, ¬ ((5 ≤ r ∧ r ≤ 9) ∨ r = 12 ∨ r = 13 ∨ (r = 24 ∧ j = 0) ∨ (r = 15 ∧ (j = 0 ∨ j = 1))) → (mset m3 15 1 (m3 13 0)) r j = m r j := fun r j hne => by rw [mset_ne (by omega), g6 r j (by omega), mset_ne (by omega), c6 r j (by omega), a5 r j (by omega), mset_ne (by omega)]
        have x0 : (mset m3 15 1 (m3 13 0)) 15 0 = h1 326 0 0 := by rw [mset_ne (by omega), g6 15 0 (by omega), mset_eq]; exact c3
        have x1 : (mset m3 15 1 (m3 13 0)) 15 1 = h2 326 0 0 := by rw [mset_eq]; exact g3
        have y0 : h3 576 1 0 = h1 326 0 0 := by rw [g5 576 1 0 (by omega), hset_ne (by omega), hset_eq]
        have y1 : h3 577 1 0 = h2 326 0 0 := by rw [g5 577 1 0 (by omega), hset_eq]
        have f15 : ∀ k, 2 ≤ k → (mset m3 15 1 (m3 13 0)) 15 k = m 15 k := fun k hk => fm 15 k (by omega)
        refine Or.inl ⟨h3, _, rfl, rfl, ⟨TR_keep g4 (fun _ _ _ _ => rfl) (fun r j g => mset_ne (by omega)), by rw [fc 322 0 0 (by omega), fm 10 0 (by omega)]; exact hf, ?_, ?_⟩, fun r n j hne => fc r n j (by omega), fun r j hne => fm r j (by omega), ?_⟩
        · refine VR_parts hV ⟨⟨by rw [y0, x0], by rw [y1, x1], ?_⟩, ?_⟩ (fun u v => ⟨VC_k (f15 2 (by decide)) (fun r j _ _ => fc r 1 j (by omega)) (fun k _ _ => f15 k (by omega)) u, WC_k (f15 2 (by decide)) (fun k _ _ => f15 k (by omega)) v⟩) (fun u v => ⟨VP_k (f15 3 (by decide)) (fun r j _ _ => fc r 1 j (by omega)) (fun k _ _ => f15 k (by omega)) u, WP_k (f15 3 (by decide)) (fun k _ _ => f15 k (by omega)) v⟩) (fun u v => ⟨VM_k (f15 4 (by decide)) (fun r j _ _ => fc r 1 j (by omega)) (fun k _ _ => f15 k (by omega)) u, WM_k (f15 4 (by decide)) (by rw [f15 3 (by decide)]; exact Int.le_refl _) (fun k _ _ => f15 k (by omega)) v⟩) (fun u => VF_k (f15 5 (by decide)) (fun j => fc 593 1 j (by omega)) (fun k _ _ => f15 k (by omega)) u) (fun u v => ⟨VS_k (f15 6 (by decide)) (fun r j _ _ => fc r 1 j (by omega)) (fun k _ _ => f15 k (by omega)) u, WS_k (f15 6 (by decide)) (fun k _ _ => f15 k (by omega)) v⟩) (fun u => VQ_k (f15 2 (by decide)) (f15 3 (by decide)) (fun c _ _ => ⟨fc 583 1 c (by omega), fm 20 c (by omega)⟩) (fun c _ _ => ⟨fc 587 1 c (by omega), fm 20 (6 + c) (by omega)⟩) u)
          · rw [fc 578 1 0 (by omega), fc 579 1 0 (by omega), fc 580 1 0 (by omega), fc 581 1 0 (by omega), fc 582 1 0 (by omega), f15 2 (by decide), f15 3 (by decide), f15 4 (by decide), f15 5 (by decide), f15 6 (by decide)]
            exact hV.1.2.2
          · unfold WN
            rw [x0, x1, f15 2 (by decide), f15 3 (by decide), f15 4 (by decide), f15 5 (by decide), f15 6 (by decide)]
            omega
        · rw [x0, mset_ne (by omega), g6 24 0 (by omega), mset_ne (by omega), c6 24 0 (by omega), a5 24 0 (by omega), mset_eq]
          exact ⟨fun _ => by decide, fun _ => by omega⟩
        · have x24 : (mset m3 15 1 (m3 13 0)) 24 0 = 1 := by rw [mset_ne (by omega), g6 24 0 (by omega), mset_ne (by omega), c6 24 0 (by omega), a5 24 0 (by omega), mset_eq]
          unfold zCNT
          rw [x24, q24, f15 2 (by decide), f15 3 (by decide), f15 4 (by decide), f15 5 (by decide), f15 6 (by decide), zcp_k (a' := (mset m3 15 1 (m3 13 0)) 15) (a := m 15) (p := 0) (f15 3 (by decide)) (f15 _ (by decide)), zcp_k (a' := (mset m3 15 1 (m3 13 0)) 15) (a := m 15) (p := 1) (f15 3 (by decide)) (f15 _ (by decide)), zcp_k (a' := (mset m3 15 1 (m3 13 0)) 15) (a := m 15) (p := 2) (f15 3 (by decide)) (f15 _ (by decide)), zcp_k (a' := (mset m3 15 1 (m3 13 0)) 15) (a := m 15) (p := 3) (f15 3 (by decide)) (f15 _ (by decide)), zcp_k (a' := (mset m3 15 1 (m3 13 0)) 15) (a := m 15) (p := 4) (f15 3 (by decide)) (f15 _ (by decide)), zcp_k (a' := (mset m3 15 1 (m3 13 0)) 15) (a := m 15) (p := 5) (f15 3 (by decide)) (f15 _ (by decide)), if_neg (show ¬ (1 : Int) = 0 by decide), if_pos rfl]
          omega
      · rw [d1, d2, Option.bind_some, Option.bind_some, if_neg (show ¬ ¬ (0 : Int) = 0 by decide), if_neg (show ¬ ¬ (0 : Int) = 0 by decide)]
        exact Or.inr ⟨h', m', rfl, rfl, d3, fun r n j hne => by rw [d4 r n j (by omega), c5 r n j (by omega), a4 r n j (by omega)], fun r j hne => by rw [d5 r j (by omega), mset_ne (by omega), c6 r j (by omega), a5 r j (by omega), mset_ne (by omega)]⟩
    · rw [b1, b2, Option.bind_some, Option.bind_some, if_neg (show ¬ ¬ (0 : Int) = 0 by decide), if_neg (show ¬ ¬ (0 : Int) = 0 by decide)]
      exact Or.inr ⟨h', m', rfl, rfl, b3, fun r n j hne => by rw [b4 r n j (by omega), a4 r n j (by omega)], fun r j hne => by rw [b5 r j (by omega), a5 r j (by omega), mset_ne (by omega)]⟩
  · rw [if_neg q, if_neg (hL.mp (by omega))]
    obtain ⟨h', m', a1, a2, a3, a4, a5⟩ := L31 (k := 3) hT (Or.inr (TR_at hT (by omega) (by omega)))
    rw [a1, a2, Option.bind_some, Option.bind_some, zG_t (Or.inl rfl), zG_t (Or.inl rfl)]
    exact Or.inr ⟨h', m', rfl, rfl, a3, fun r n j hne => a4 r n j (by omega), fun r j hne => a5 r j (by omega)⟩
theorem L_hasC {h : zHC} {m : zHM} {x c : Int} (e : h 578 1 0 = c) (c6 : c ≤ 6) (hC : ∀ k, 0 ≤ k → k < c → h 584 1 k = m 15 (7 + 3 * k)) (hx : m 13 0 = x) : ∀ (n n' : Nat) (k : Int), 0 ≤ k → k ≤ c → c - k < n → c - k < n' → (F40_0 h n 1 x k = some 0 ∧ ∃ q, F189_0 n' c k m = F189_0 (q + 1) c c m) ∨ (F40_0 h n 1 x k = some 1 ∧ F189_0 n' c k m = (F185 3 m).bind fun r4 => zG (r4.1 = 0 ∨ r4.1 = 1) (some (r4.1, r4.2))) := by
  intro n
  induction n with
  | zero => intro n' k k0 k1 g1 g2; omega
  | succ n ih =>
    intro n' k k0 k1 g1 g2
    cases n' with
    | zero => omega
    | succ n' =>
      by_cases u : k = c
      · subst u
        refine Or.inl ⟨?_, n', rfl⟩
        rw [F40_0, e, if_pos (Int.le_refl _)]
      · have eC : F40_0 h (n + 1) 1 x k = if ¬ h 584 1 k = x then F40_0 h n 1 x (k + 1) else some 1 := by
          rw [F40_0, e, if_neg (show ¬ c ≤ k by omega), zG_t (show 0 ≤ k ∧ k < 6 by omega), wadd_eq (x := k) (y := 1) (by omega) (by omega)]
        have eM : F189_0 (n' + 1) c k m = if ¬ m 15 (7 + 3 * k) = m 13 0 then F189_0 n' c (k + 1) m else (F185 3 m).bind fun r4 => zG (r4.1 = 0 ∨ r4.1 = 1) (some (r4.1, r4.2)) := by
          rw [F189_0, if_neg (show ¬ c ≤ k by omega), wmul_eq (x := 3) (y := k) (by omega) (by omega), wadd_eq (x := 7) (y := 3 * k) (by omega) (by omega), zG_t (show 0 ≤ 7 + 3 * k ∧ 7 + 3 * k < 209 by omega), wadd_eq (x := k) (y := 1) (by omega) (by omega)]
        rw [eC, eM, hC k k0 (by omega), hx]
        by_cases v : m 15 (7 + 3 * k) = x
        · rw [if_neg (show ¬ ¬ m 15 (7 + 3 * k) = x from fun z => z v), if_neg (show ¬ ¬ m 15 (7 + 3 * k) = x from fun z => z v)]
          exact Or.inr ⟨rfl, rfl⟩
        · rw [if_pos v, if_pos v]
          exact ih n' (k + 1) (by omega) (by omega) (by omega) (by omega)
theorem K_cliff {h : zHC} {m : zHM} (hI : VI h m) (k3 : h 324 0 0 = 3) : VO h m (F34 h) (F189 m) := by
  have big := zFu_big
  obtain ⟨hT, hf, hV, hL⟩ := hI
  have w6 := hV.2.2.2.2.2.2.2.1
  unfold WN at w6
  have e578 : h 578 1 0 = m 15 2 := hV.1.2.2.1
  obtain ⟨c, hc⟩ : ∃ c, m 15 2 = c := ⟨_, rfl⟩
  unfold F34 F189
  rw [e578, hc]
  by_cases q : c < 6
  · rw [if_pos q, if_pos (show ¬ c = 6 by omega)]
    obtain ⟨h1, m1, a1, a2, a3, a4, a5⟩ := L21h (h2 := h) (m2 := m) hT (by omega) (fun _ _ _ _ => rfl) (fun _ _ _ => rfl)
    rw [a1, a2, Option.bind_some, Option.bind_some]
    have hV1 : VR h1 1 (m1 15) (m1 20) := VR_keep (fun r j g0 g1 => a4 r 1 j (by omega)) (fun k _ _ => a5 15 k (by omega)) (fun k _ _ => a5 20 k (by omega)) hV
    rcases L_new (s := c) a3 hV1 (by omega) (by omega) with ⟨h2, m2, b1, b2, b3, b4, b5, b6, b7⟩ | ⟨h', m', b1, b2, b3, b4, b5⟩
    · rw [b1, b3, Option.bind_some, Option.bind_some, if_pos (show ¬ (1 : Int) = 0 by decide), if_neg (show ¬ (1 : Int) = 0 by decide)]
      dsimp only
      rw [b2, Option.bind_some]
      have fc2 : ∀ r n j, ¬ (324 ≤ r ∧ r ≤ 328) → h2 r n j = h r n j := fun r n j hne => by rw [b6 r n j hne, a4 r n j hne]
      have fm2 : ∀ r j, ¬ ((5 ≤ r ∧ r ≤ 9) ∨ r = 12 ∨ (r = 20 ∧ j = c)) → m2 r j = m r j := fun r j hne => by rw [b7 r j (by omega), a5 r j (by omega)]
      rcases L_cell b4 (by rw [fc2 576 1 0 (by omega), fm2 15 0 (by omega)]; exact hV.1.1) (by rw [fc2 577 1 0 (by omega), fm2 15 1 (by omega)]; exact hV.1.2.1) (by rw [fm2 15 0 (by omega)]; omega) (by rw [fm2 15 0 (by omega)]; omega) (by rw [fm2 15 1 (by omega)]; omega) (by rw [fm2 15 1 (by omega)]; omega) with ⟨x, h3, m3, x0, x1, c1, c2, c3, c4, c5, c6, c7⟩ | ⟨h', m', c1, c2, c3, c4, c5⟩
      · rw [c1, c2, Option.bind_some, Option.bind_some, if_pos (show ¬ (1 : Int) = 0 by decide)]
        dsimp only
        rw [if_pos (show ¬ x = -1 by omega)]
        have fc3 : ∀ r n j, ¬ (324 ≤ r ∧ r ≤ 328) → h3 r n j = h r n j := fun r n j hne => by rw [c6 r n j hne, fc2 r n j hne]
        have fm3 : ∀ r j, ¬ ((5 ≤ r ∧ r ≤ 9) ∨ r = 12 ∨ r = 13 ∨ (r = 20 ∧ j = c)) → m3 r j = m r j := fun r j hne => by rw [c7 r j (by omega), fm2 r j (by omega)]
        unfold F40
        rcases L_hasC (h := h3) (m := m3) (x := x) (c := c) (by rw [fc3 578 1 0 (by omega), e578, hc]) (by omega) (fun k k0 k1 => by rw [fc3 584 1 k (by omega), fm3 15 _ (by omega)]; exact (hV.2.1 k k0 (by omega)).1) c3 zFu zFu 0 (by decide) (by omega) (by omega) (by omega) with ⟨d1, p, d2⟩ | ⟨d1, d2⟩
        · rw [d1, d2, Option.bind_some, if_pos rfl, F189_0, if_pos (Int.le_refl _), wmul_eq (x := 3) (y := c) (by omega) (by omega), wadd_eq (x := 7) (by omega) (by omega), wadd_eq (x := 7 + 3 * c) (y := 1) (by omega) (by omega), wadd_eq (x := 7 + 3 * c) (y := 2) (by omega) (by omega), zG_t (show 0 ≤ 7 + 3 * c ∧ 7 + 3 * c < 209 by omega)]
          obtain ⟨h4, m4, g1, g2, g3, g4, g5⟩ := L21h (h2 := h3) (m2 := mset m3 15 (7 + 3 * c) (m3 13 0)) c5 (by omega) (fun _ _ _ _ => rfl) (fun r j g => mset_ne (by omega))
          rw [g1, g2, Option.bind_some, Option.bind_some]
          rcases L_num (lo := 1) (hi := 40) g3 with ⟨i1, i2, i3, i4, i5⟩ | ⟨h', m', i1, i2, i3, i4, i5⟩
          · obtain ⟨h5, m5, j1, j2, j3, j4, j5, j6⟩ := i5 h4 (fun _ _ _ _ => rfl)
            rw [i4, j2, Option.bind_some, Option.bind_some, if_pos (show ¬ (1 : Int) = 0 by decide), if_pos (show ¬ (1 : Int) = 0 by decide), zG_t (show 0 ≤ 7 + 3 * c + 1 ∧ 7 + 3 * c + 1 < 209 by omega)]
            dsimp only
            rw [j1, Option.bind_some]
            have t5 : TR h5 (mset m5 15 (7 + 3 * c + 1) (m5 13 0)) := TR_keep j4 (fun _ _ _ _ => rfl) (fun r j g => mset_ne (by omega))
            rcases L_num (lo := 1) (hi := 9) t5 with ⟨l1, l2, l3, l4, l5⟩ | ⟨h', m', l1, l2, l3, l4, l5⟩
            · obtain ⟨h6, m6, o1, o2, o3, o4, o5, o6⟩ := l5 (hset (hset (hset (hset (hset h5 583 1 c (h1 327 0 0)) 584 1 c x) 585 1 c (h4 326 0 0)) 586 1 c (h5 326 0 0)) 578 1 0 (c + 1)) (fun r j _ _ => by rw [hset_ne (by omega), hset_ne (by omega), hset_ne (by omega), hset_ne (by omega), hset_ne (by omega)])
              rw [l4, o2, Option.bind_some, Option.bind_some, if_pos (show ¬ (1 : Int) = 0 by decide), if_pos (show ¬ (1 : Int) = 0 by decide), zG_t (show 0 ≤ c ∧ c < 6 by omega), zG_t (show 0 ≤ c ∧ c < 6 by omega), zG_t (show 0 ≤ c ∧ c < 6 by omega), zG_t (show 0 ≤ c ∧ c < 6 by omega), zG_t (show 0 ≤ 7 + 3 * c + 2 ∧ 7 + 3 * c + 2 < 209 by omega)]
              dsimp only
              rw [wadd_eq (x := c) (y := 1) (by omega) (by omega), o1, Option.bind_some]
              have e2 : (mset m6 15 (7 + 3 * c + 2) (m6 13 0)) 15 2 = c := by rw [mset_ne (by omega), o6 15 2 (by omega), mset_ne (by omega), j6 15 2 (by omega), g5 15 2 (by omega), mset_ne (by omega), fm3 15 2 (by omega)]; exact hc
              rw [e2, wadd_eq (x := c) (y := 1) (by omega) (by omega)]
              generalize hM : mset (mset m6 15 (7 + 3 * c + 2) (m6 13 0)) 15 2 (c + 1) = M
              have fc : ∀ r n j, ¬ ((324 ≤ r ∧ r ≤ 328) ∨ (583 ≤ r ∧ r ≤ 586 ∧ n = 1 ∧ j = c) ∨ (r = 578 ∧ n = 1 ∧ j = 0)) → h6 r n j = h r n j := fun r n j hne => by rw [o5 r n j (by omega), hset_ne (by omega), hset_ne (by omega), hset_ne (by omega), hset_ne (by omega), hset_ne (by omega), j5 r n j (by omega), g4 r n j (by omega), fc3 r n j (by omega)]
              have fm : ∀ r j, ¬ ((5 ≤ r ∧ r ≤ 9) ∨ r = 12 ∨ r = 13 ∨ (r = 20 ∧ j = c) ∨ (r = 15 ∧ (j = 2 ∨ (7 + 3 * c ≤ j ∧ j ≤ 7 + 3 * c + 2)))) → M r j = m r j := fun r j hne => by rw [← hM, mset_ne (by omega), mset_ne (by omega), o6 r j (by omega), mset_ne (by omega), j6 r j (by omega), g5 r j (by omega), mset_ne (by omega), fm3 r j (by omega)]
              have f15 : ∀ k, ¬ (k = 2 ∨ (7 + 3 * c ≤ k ∧ k ≤ 7 + 3 * c + 2)) → M 15 k = m 15 k := fun k hk => fm 15 k (by omega)
              have M2 : M 15 2 = c + 1 := by rw [← hM, mset_eq]
              have Ma : M 15 (7 + 3 * c) = x := by rw [← hM, mset_ne (by omega), mset_ne (by omega), o6 15 _ (by omega), mset_ne (by omega), j6 15 _ (by omega), g5 15 _ (by omega), mset_eq]; exact c3
              have Mb : M 15 (7 + 3 * c + 1) = h4 326 0 0 := by rw [← hM, mset_ne (by omega), mset_ne (by omega), o6 15 _ (by omega), mset_eq]; exact j3
              have Mc : M 15 (7 + 3 * c + 2) = h5 326 0 0 := by rw [← hM, mset_ne (by omega), mset_eq]; exact o3
              have y578 : h6 578 1 0 = c + 1 := by rw [o5 578 1 0 (by omega), hset_eq]
              have y583 : h6 583 1 c = h1 327 0 0 := by rw [o5 583 1 c (by omega), hset_ne (by omega), hset_ne (by omega), hset_ne (by omega), hset_ne (by omega), hset_eq]
              have y584 : h6 584 1 c = x := by rw [o5 584 1 c (by omega), hset_ne (by omega), hset_ne (by omega), hset_ne (by omega), hset_eq]
              have y585 : h6 585 1 c = h4 326 0 0 := by rw [o5 585 1 c (by omega), hset_ne (by omega), hset_ne (by omega), hset_eq]
              have y586 : h6 586 1 c = h5 326 0 0 := by rw [o5 586 1 c (by omega), hset_ne (by omega), hset_eq]
              have MQ : M 20 c = m2 20 c := by rw [← hM, mset_ne (by omega), mset_ne (by omega), o6 20 c (by omega), mset_ne (by omega), j6 20 c (by omega), g5 20 c (by omega), mset_ne (by omega), c7 20 c (by omega)]
              refine Or.inl ⟨h6, M, rfl, rfl, ⟨?_, by rw [fc 322 0 0 (by omega), fm 10 0 (by omega)]; exact hf, ?_, ?_⟩, fun r n j hne => fc r n j (by omega), fun r j hne => fm r j (by omega), ?_⟩
              · rw [← hM]
                exact TR_keep o4 (fun _ _ _ _ => rfl) (fun r j g => by rw [mset_ne (by omega), mset_ne (by omega)])
              · refine VR_parts hV ⟨?_, ?_⟩ (fun u v => ⟨?_, ?_⟩) (fun u v => ⟨VP_k (f15 3 (by omega)) (fun r j _ _ => fc r 1 j (by omega)) (fun k _ _ => f15 k (by omega)) u, WP_k (f15 3 (by omega)) (fun k _ _ => f15 k (by omega)) v⟩) (fun u v => ⟨VM_k (f15 4 (by omega)) (fun r j _ _ => fc r 1 j (by omega)) (fun k _ _ => f15 k (by omega)) u, WM_k (f15 4 (by omega)) (by rw [f15 3 (by omega)]; exact Int.le_refl _) (fun k _ _ => f15 k (by omega)) v⟩) (fun u => VF_k (f15 5 (by omega)) (fun j => fc 593 1 j (by omega)) (fun k _ _ => f15 k (by omega)) u) (fun u v => ⟨VS_k (f15 6 (by omega)) (fun r j _ _ => fc r 1 j (by omega)) (fun k _ _ => f15 k (by omega)) u, WS_k (f15 6 (by omega)) (fun k _ _ => f15 k (by omega)) v⟩) (fun u => ?_)
                · unfold VN
                  rw [fc 576 1 0 (by omega), fc 577 1 0 (by omega), y578, fc 579 1 0 (by omega), fc 580 1 0 (by omega), fc 581 1 0 (by omega), fc 582 1 0 (by omega), f15 0 (by omega), f15 1 (by omega), M2, f15 3 (by omega), f15 4 (by omega), f15 5 (by omega), f15 6 (by omega)]
                  exact ⟨hV.1.1, hV.1.2.1, rfl, hV.1.2.2.2⟩
                · unfold WN
                  rw [f15 0 (by omega), f15 1 (by omega), M2, f15 3 (by omega), f15 4 (by omega), f15 5 (by omega), f15 6 (by omega)]
                  omega
                · intro k k0 k1
                  rw [M2] at k1
                  by_cases w : k = c
                  · subst w
                    rw [y584, y585, y586, Ma, Mb, Mc]
                    exact ⟨rfl, rfl, rfl⟩
                  · rw [fc 584 1 k (by omega), fc 585 1 k (by omega), fc 586 1 k (by omega), f15 (7 + 3 * k) (by omega), f15 (7 + 3 * k + 1) (by omega), f15 (7 + 3 * k + 2) (by omega)]
                    exact u k k0 (by omega)
                · intro k k0 k1
                  rw [M2] at k1
                  by_cases w : k = c
                  · subst w
                    rw [Ma, Mb, Mc]
                    omega
                  · rw [f15 (7 + 3 * k) (by omega), f15 (7 + 3 * k + 1) (by omega), f15 (7 + 3 * k + 2) (by omega)]
                    exact v k k0 (by omega)
                · constructor
                  · intro k k0 k1
                    rw [M2] at k1
                    by_cases w : k = c
                    · subst w
                      rw [y583, MQ]
                      exact b5
                    · rw [fc 583 1 k (by omega), fm 20 k (by omega)]
                      exact u.1 k k0 (by omega)
                  · intro k k0 k1
                    rw [f15 3 (by omega)] at k1
                    rw [fc 587 1 k (by omega), fm 20 (6 + k) (by omega)]
                    exact u.2 k k0 k1
              · rw [f15 0 (by omega), fm 24 0 (by omega)]
                exact hL
              · have n := zCNT_k (m := m) (M := M) (fm 24 0 (by omega)) (fun k hk => f15 k (by omega))
                rw [M2, f15 4 (by omega), f15 5 (by omega), f15 6 (by omega)] at n
                omega
            · rw [l1, l2, Option.bind_some, Option.bind_some, if_neg (show ¬ ¬ (0 : Int) = 0 by decide), if_neg (show ¬ ¬ (0 : Int) = 0 by decide)]
              exact Or.inr ⟨h', m', rfl, rfl, l3, fun r n j hne => by rw [l4 r n j (by omega), j5 r n j (by omega), g4 r n j (by omega), fc3 r n j (by omega)], fun r j hne => by rw [l5 r j (by omega), mset_ne (by omega), j6 r j (by omega), g5 r j (by omega), mset_ne (by omega), fm3 r j (by omega)]⟩
          · rw [i1, i2, Option.bind_some, Option.bind_some, if_neg (show ¬ ¬ (0 : Int) = 0 by decide), if_neg (show ¬ ¬ (0 : Int) = 0 by decide)]
            exact Or.inr ⟨h', m', rfl, rfl, i3, fun r n j hne => by rw [i4 r n j (by omega), g4 r n j (by omega), fc3 r n j (by omega)], fun r j hne => by rw [i5 r j (by omega), g5 r j (by omega), mset_ne (by omega), fm3 r j (by omega)]⟩
        · rw [d1, d2, Option.bind_some, if_neg (show ¬ (1 : Int) = 0 by decide)]
          obtain ⟨h', m', g1, g2, g3, g4, g5⟩ := L31 (k := 3) c5 (Or.inr (TR_at c5 (by omega) (by omega)))
          rw [g1, g2, Option.bind_some, Option.bind_some, zG_t (Or.inl rfl), zG_t (Or.inl rfl)]
          exact Or.inr ⟨h', m', rfl, rfl, g3, fun r n j hne => by rw [g4 r n j (by omega), fc3 r n j (by omega)], fun r j hne => by rw [g5 r j (by omega), fm3 r j (by omega)]⟩
      · rw [c1, c2, Option.bind_some, Option.bind_some, if_neg (show ¬ ¬ (0 : Int) = 0 by decide), if_neg (show ¬ ¬ (-1 : Int) = -1 by decide)]
        exact Or.inr ⟨h', m', rfl, rfl, c3, fun r n j hne => by rw [c4 r n j (by omega), fc2 r n j (by omega)], fun r j hne => by rw [c5 r j (by omega), fm2 r j (by omega)]⟩
    · rw [b1, b2, Option.bind_some, Option.bind_some, if_neg (show ¬ ¬ (0 : Int) = 0 by decide), if_pos (rfl : (0 : Int) = 0)]
      exact Or.inr ⟨h', m', rfl, rfl, b3, fun r n j hne => by rw [b4 r n j (by omega), a4 r n j (by omega)], fun r j hne => by rw [b5 r j (by omega), a5 r j (by omega)]⟩
  · rw [if_neg q, if_neg (show ¬ ¬ c = 6 by omega)]
    obtain ⟨h', m', a1, a2, a3, a4, a5⟩ := L31 (k := 4) hT (Or.inr (TR_at hT (by omega) (by omega)))
    rw [a1, a2, Option.bind_some, Option.bind_some, zG_t (Or.inl rfl), zG_t (Or.inl rfl)]
    exact Or.inr ⟨h', m', rfl, rfl, a3, fun r n j hne => a4 r n j (by omega), fun r j hne => a5 r j (by omega)⟩
