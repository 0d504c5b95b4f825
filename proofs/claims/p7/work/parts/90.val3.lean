/-! A valley's text: persons, moves. -/
theorem K_person {h : zHC} {m : zHM} (hI : VI h m) (k3 : h 324 0 0 = 3) : VO h m (F41 h) (F194 m) := by
  obtain ⟨hT, hf, hV, hL⟩ := hI
  have w6 := hV.2.2.2.2.2.2.2.1
  unfold WN at w6
  have e579 : h 579 1 0 = m 15 3 := hV.1.2.2.2.1
  obtain ⟨c, hc⟩ : ∃ c, m 15 3 = c := ⟨_, rfl⟩
  unfold F41 F194
  rw [e579, hc]
  by_cases q : c < 6
  · rw [if_pos q, if_pos (show ¬ c = 6 by omega), wadd_eq (x := 6) (y := c) (by omega) (by omega)]
    obtain ⟨h1, m1, a1, a2, a3, a4, a5⟩ := L21h (h2 := h) (m2 := m) hT (by omega) (fun _ _ _ _ => rfl) (fun _ _ _ => rfl)
    rw [a1, a2, Option.bind_some, Option.bind_some]
    have hV1 : VR h1 1 (m1 15) (m1 20) := VR_keep (fun r j g0 g1 => a4 r 1 j (by omega)) (fun k _ _ => a5 15 k (by omega)) (fun k _ _ => a5 20 k (by omega)) hV
    rcases L_new (s := 6 + c) a3 hV1 (by omega) (by omega) with ⟨h2, m2, b1, b2, b3, b4, b5, b6, b7⟩ | ⟨h', m', b1, b2, b3, b4, b5⟩
    · rw [b1, b3, Option.bind_some, Option.bind_some, if_pos (show ¬ (1 : Int) = 0 by decide), if_neg (show ¬ (1 : Int) = 0 by decide)]
      dsimp only
      rw [b2, Option.bind_some]
      have fc2 : ∀ r n j, ¬ (324 ≤ r ∧ r ≤ 328) → h2 r n j = h r n j := fun r n j hne => by rw [b6 r n j hne, a4 r n j hne]
      have fm2 : ∀ r j, ¬ ((5 ≤ r ∧ r ≤ 9) ∨ r = 12 ∨ (r = 20 ∧ j = 6 + c)) → m2 r j = m r j := fun r j hne => by rw [b7 r j (by omega), a5 r j (by omega)]
      unfold F195
      rcases L_cell b4 (by rw [fc2 576 1 0 (by omega), fm2 15 0 (by omega)]; exact hV.1.1) (by rw [fc2 577 1 0 (by omega), fm2 15 1 (by omega)]; exact hV.1.2.1) (by rw [fm2 15 0 (by omega)]; omega) (by rw [fm2 15 0 (by omega)]; omega) (by rw [fm2 15 1 (by omega)]; omega) (by rw [fm2 15 1 (by omega)]; omega) with ⟨x, h3, m3, x0, x1, c1, c2, c3, c4, c5, c6, c7⟩ | ⟨h', m', c1, c2, c3, c4, c5⟩
      · rw [c1, c2, Option.bind_some, Option.bind_some, if_pos (show ¬ (1 : Int) = 0 by decide)]
        dsimp only
        rw [if_pos (show ¬ x = -1 by omega), zG_t (show 0 ≤ c ∧ c < 6 by omega), zG_t (show 0 ≤ c ∧ c < 6 by omega), zG_t (show 0 ≤ c ∧ c < 6 by omega), wadd_eq (x := c) (y := 1) (by omega) (by omega)]
        have fc3 : ∀ r n j, ¬ (324 ≤ r ∧ r ≤ 328) → h3 r n j = h r n j := fun r n j hne => by rw [c6 r n j hne, fc2 r n j hne]
        have fm3 : ∀ r j, ¬ ((5 ≤ r ∧ r ≤ 9) ∨ r = 12 ∨ r = 13 ∨ (r = 20 ∧ j = 6 + c)) → m3 r j = m r j := fun r j hne => by rw [c7 r j (by omega), fm2 r j (by omega)]
        obtain ⟨h6, m6, o1, o2, o4, o5, o6⟩ := L21h (h2 := hset (hset (hset (hset h3 587 1 c (h1 327 0 0)) 588 1 c x) 589 1 c (-1)) 579 1 0 (c + 1)) (m2 := m3) c5 (by omega) (fun r j _ _ => by rw [hset_ne (by omega), hset_ne (by omega), hset_ne (by omega), hset_ne (by omega)]) (fun _ _ _ => rfl)
        rw [o1, o2, Option.bind_some, Option.bind_some, Option.bind_some, if_pos (show ¬ (1 : Int) = 0 by decide)]
        dsimp only
        rw [wmul_eq (x := 2) (y := c) (by omega) (by omega), wadd_eq (x := 25) (by omega) (by omega), wadd_eq (x := 25 + 2 * c) (y := 1) (by omega) (by omega), zG_t (by omega), zG_t (by omega)]
        have e2 : (mset (mset m6 15 (25 + 2 * c) (m6 13 0)) 15 (25 + 2 * c + 1) (-1)) 15 3 = c := by rw [mset_ne (by omega), mset_ne (by omega), o6 15 3 (by omega), fm3 15 3 (by omega)]; exact hc
        rw [e2, wadd_eq (x := c) (y := 1) (by omega) (by omega)]
        generalize hM : mset (mset (mset m6 15 (25 + 2 * c) (m6 13 0)) 15 (25 + 2 * c + 1) (-1)) 15 3 (c + 1) = M
        have fc : ∀ r n j, ¬ ((324 ≤ r ∧ r ≤ 328) ∨ (587 ≤ r ∧ r ≤ 589 ∧ n = 1 ∧ j = c) ∨ (r = 579 ∧ n = 1 ∧ j = 0)) → h6 r n j = h r n j := fun r n j hne => by rw [o5 r n j (by omega), hset_ne (by omega), hset_ne (by omega), hset_ne (by omega), hset_ne (by omega), fc3 r n j (by omega)]
        have fm : ∀ r j, ¬ ((5 ≤ r ∧ r ≤ 9) ∨ r = 12 ∨ r = 13 ∨ (r = 20 ∧ j = 6 + c) ∨ (r = 15 ∧ (j = 3 ∨ (25 + 2 * c ≤ j ∧ j ≤ 25 + 2 * c + 1)))) → M r j = m r j := fun r j hne => by rw [← hM, mset_ne (by omega), mset_ne (by omega), mset_ne (by omega), o6 r j (by omega), fm3 r j (by omega)]
        have f15 : ∀ k, ¬ (k = 3 ∨ (25 + 2 * c ≤ k ∧ k ≤ 25 + 2 * c + 1)) → M 15 k = m 15 k := fun k hk => fm 15 k (by omega)
        have M3 : M 15 3 = c + 1 := by rw [← hM, mset_eq]
        have Ma : M 15 (25 + 2 * c) = x := by rw [← hM, mset_ne (by omega), mset_ne (by omega), mset_eq, o6 13 0 (by omega)]; exact c3
        have Mb : M 15 (25 + 2 * c + 1) = -1 := by rw [← hM, mset_ne (by omega), mset_eq]
        have y579 : h6 579 1 0 = c + 1 := by rw [o5 579 1 0 (by omega), hset_eq]
        have y587 : h6 587 1 c = h1 327 0 0 := by rw [o5 587 1 c (by omega), hset_ne (by omega), hset_ne (by omega), hset_ne (by omega), hset_eq]
        have y588 : h6 588 1 c = x := by rw [o5 588 1 c (by omega), hset_ne (by omega), hset_ne (by omega), hset_eq]
        have y589 : h6 589 1 c = -1 := by rw [o5 589 1 c (by omega), hset_ne (by omega), hset_eq]
        have MQ : M 20 (6 + c) = m2 20 (6 + c) := by rw [← hM, mset_ne (by omega), mset_ne (by omega), mset_ne (by omega), o6 20 (6 + c) (by omega), c7 20 (6 + c) (by omega)]
        refine Or.inl ⟨h6, M, rfl, rfl, ⟨?_, by rw [fc 322 0 0 (by omega), fm 10 0 (by omega)]; exact hf, ?_, ?_⟩, fun r n j hne => fc r n j (by omega), fun r j hne => fm r j (by omega), ?_⟩
        · rw [← hM]
          exact TR_keep o4 (fun _ _ _ _ => rfl) (fun r j g => by rw [mset_ne (by omega), mset_ne (by omega), mset_ne (by omega)])
        · refine VR_parts hV ⟨?_, ?_⟩ (fun u v => ⟨VC_k (f15 2 (by omega)) (fun r j _ _ => fc r 1 j (by omega)) (fun k _ _ => f15 k (by omega)) u, WC_k (f15 2 (by omega)) (fun k _ _ => f15 k (by omega)) v⟩) (fun u v => ⟨?_, ?_⟩) (fun u v => ⟨VM_k (f15 4 (by omega)) (fun r j _ _ => fc r 1 j (by omega)) (fun k _ _ => f15 k (by omega)) u, WM_k (f15 4 (by omega)) (by rw [M3, hc]; omega) (fun k _ _ => f15 k (by omega)) v⟩) (fun u => VF_k (f15 5 (by omega)) (fun j => fc 593 1 j (by omega)) (fun k _ _ => f15 k (by omega)) u) (fun u v => ⟨VS_k (f15 6 (by omega)) (fun r j _ _ => fc r 1 j (by omega)) (fun k _ _ => f15 k (by omega)) u, WS_k (f15 6 (by omega)) (fun k _ _ => f15 k (by omega)) v⟩) (fun u => ?_)
          · unfold VN
            rw [fc 576 1 0 (by omega), fc 577 1 0 (by omega), y579, fc 578 1 0 (by omega), fc 580 1 0 (by omega), fc 581 1 0 (by omega), fc 582 1 0 (by omega), f15 0 (by omega), f15 1 (by omega), M3, f15 2 (by omega), f15 4 (by omega), f15 5 (by omega), f15 6 (by omega)]
            exact ⟨hV.1.1, hV.1.2.1, hV.1.2.2.1, rfl, hV.1.2.2.2.2⟩
          · unfold WN
            rw [f15 0 (by omega), f15 1 (by omega), M3, f15 2 (by omega), f15 4 (by omega), f15 5 (by omega), f15 6 (by omega)]
            omega
          · intro k k0 k1
            rw [M3] at k1
            by_cases w : k = c
            · subst w
              rw [y588, y589, Ma, Mb]
              exact ⟨rfl, rfl⟩
            · rw [fc 588 1 k (by omega), fc 589 1 k (by omega), f15 (25 + 2 * k) (by omega), f15 (25 + 2 * k + 1) (by omega)]
              exact u k k0 (by omega)
          · intro k k0 k1
            rw [M3] at k1
            by_cases w : k = c
            · subst w
              rw [Ma, Mb]
              omega
            · rw [f15 (25 + 2 * k) (by omega), f15 (25 + 2 * k + 1) (by omega)]
              exact v k k0 (by omega)
          · constructor
            · intro k k0 k1
              rw [f15 2 (by omega)] at k1
              rw [fc 583 1 k (by omega), fm 20 k (by omega)]
              exact u.1 k k0 k1
            · intro k k0 k1
              rw [M3] at k1
              by_cases w : k = c
              · subst w
                rw [y587, MQ]
                exact b5
              · rw [fc 587 1 k (by omega), fm 20 (6 + k) (by omega)]
                exact u.2 k k0 (by omega)
        · rw [f15 0 (by omega), fm 24 0 (by omega)]
          exact hL
        · have z : ∀ p, 0 ≤ p → p < 6 → zcp (M 15) p = zcp (m 15) p := by
            intro p p0 p1
            unfold zcp
            rw [M3, hc]
            by_cases w : p = c
            · subst w
              rw [Mb, if_neg (fun z => z.2 rfl), if_neg (fun z => Int.lt_irrefl _ z.1)]
            · rw [f15 (25 + 2 * p + 1) (by omega)]
              by_cases w2 : p < c ∧ ¬ m 15 (25 + 2 * p + 1) = -1
              · rw [if_pos w2, if_pos ⟨by omega, w2.2⟩]
              · rw [if_neg w2, if_neg (fun z => w2 ⟨by omega, z.2⟩)]
          unfold zCNT
          rw [fm 24 0 (by omega), M3, f15 2 (by omega), f15 4 (by omega), f15 5 (by omega), f15 6 (by omega), z 0 (by decide) (by decide), z 1 (by decide) (by decide), z 2 (by decide) (by decide), z 3 (by decide) (by decide), z 4 (by decide) (by decide), z 5 (by decide) (by decide)]
          omega
      · rw [c1, c2, Option.bind_some, Option.bind_some, if_neg (show ¬ ¬ (0 : Int) = 0 by decide), Option.bind_some, if_neg (show ¬ ¬ (0 : Int) = 0 by decide), if_neg (show ¬ ¬ (-1 : Int) = -1 by decide)]
        exact Or.inr ⟨h', m', rfl, rfl, c3, fun r n j hne => by rw [c4 r n j (by omega), fc2 r n j (by omega)], fun r j hne => by rw [c5 r j (by omega), fm2 r j (by omega)]⟩
    · rw [b1, b2, Option.bind_some, Option.bind_some, if_neg (show ¬ ¬ (0 : Int) = 0 by decide), if_pos (rfl : (0 : Int) = 0)]
      exact Or.inr ⟨h', m', rfl, rfl, b3, fun r n j hne => by rw [b4 r n j (by omega), a4 r n j (by omega)], fun r j hne => by rw [b5 r j (by omega), a5 r j (by omega)]⟩
  · rw [if_neg q, if_neg (show ¬ ¬ c = 6 by omega)]
    obtain ⟨h', m', a1, a2, a3, a4, a5⟩ := L31 (k := 4) hT (Or.inr (TR_at hT (by omega) (by omega)))
    rw [a1, a2, Option.bind_some, Option.bind_some, zG_t (Or.inl rfl), zG_t (Or.inl rfl)]
    exact Or.inr ⟨h', m', rfl, rfl, a3, fun r n j hne => a4 r n j (by omega), fun r j hne => a5 r j (by omega)⟩
theorem L_hasM {h : zHC} {m : zHM} {p x c : Int} (e : h 580 1 0 = c) (c20 : c < 20) (hC : ∀ k, 0 ≤ k → k < c → h 591 1 k = m 15 (37 + 3 * k) ∧ h 590 1 k = m 15 (37 + 3 * k + 1)) (hp : m 15 (37 + 3 * c) = p) (hx : m 13 0 = x) : ∀ (n n' : Nat) (k : Int), 0 ≤ k → k ≤ c → c - k < n → c - k < n' → (F44_0 h n 1 p x k = some 0 ∧ ∃ q, F196_0 n' c k m = F196_0 (q + 1) c c m) ∨ (F44_0 h n 1 p x k = some 1 ∧ F196_0 n' c k m = (F185 3 m).bind fun r4 => zG (r4.1 = 0 ∨ r4.1 = 1) (some (r4.1, r4.2))) := by
  intro n
  induction n with
  | zero => intro n' k k0 k1 g1 g2; omega
  | succ n ih =>
    intro n' k k0 k1 g1 g2
    cases n' with
    | zero => omega
    | succ n' =>
      by_cases u : k = c
      · subst u
        refine Or.inl ⟨?_, n', rfl⟩
        rw [F44_0, e, if_pos (Int.le_refl _)]
      · have eC : F44_0 h (n + 1) 1 p x k = if ¬ h 591 1 k = p then F44_0 h n 1 p x (k + 1) else if ¬ h 590 1 k = x then F44_0 h n 1 p x (k + 1) else some 1 := by
          rw [F44_0, e, if_neg (show ¬ c ≤ k by omega), zG_t (show 0 ≤ k ∧ k < 20 by omega), zG_t (show 0 ≤ k ∧ k < 20 by omega)]
          unfold F44_1
          rw [wadd_eq (x := k) (y := 1) (by omega) (by omega)]
        have eM : F196_0 (n' + 1) c k m = if ¬ m 15 (37 + 3 * k) = m 15 (37 + 3 * c) then F196_0 n' c (k + 1) m else if ¬ m 15 (37 + 3 * k + 1) = m 13 0 then F196_0 n' c (k + 1) m else (F185 3 m).bind fun r4 => zG (r4.1 = 0 ∨ r4.1 = 1) (some (r4.1, r4.2)) := by
          rw [F196_0, if_neg (show ¬ c ≤ k by omega), wmul_eq (x := 3) (y := k) (by omega) (by omega), wmul_eq (x := 3) (y := c) (by omega) (by omega), wadd_eq (x := 37) (y := 3 * k) (by omega) (by omega), wadd_eq (x := 37) (y := 3 * c) (by omega) (by omega), wadd_eq (x := 37 + 3 * k) (y := 1) (by omega) (by omega), zG_t (show 0 ≤ 37 + 3 * k ∧ 37 + 3 * k < 209 by omega), zG_t (show 0 ≤ 37 + 3 * c ∧ 37 + 3 * c < 209 by omega), zG_t (show 0 ≤ 37 + 3 * k + 1 ∧ 37 + 3 * k + 1 < 209 by omega)]
          unfold F196_1
          rw [wadd_eq (x := k) (y := 1) (by omega) (by omega)]
        rw [eC, eM, (hC k k0 (by omega)).1, (hC k k0 (by omega)).2, hx, hp]
        have go := ih n' (k + 1) (by omega) (by omega) (by omega) (by omega)
        by_cases v : m 15 (37 + 3 * k) = p
        · rw [if_neg (show ¬ ¬ m 15 (37 + 3 * k) = p from fun z => z v), if_neg (show ¬ ¬ m 15 (37 + 3 * k) = p from fun z => z v)]
          by_cases v2 : m 15 (37 + 3 * k + 1) = x
          · rw [if_neg (show ¬ ¬ m 15 (37 + 3 * k + 1) = x from fun z => z v2), if_neg (show ¬ ¬ m 15 (37 + 3 * k + 1) = x from fun z => z v2)]
            exact Or.inr ⟨rfl, rfl⟩
          · rw [if_pos v2, if_pos v2]
            exact go
        · rw [if_pos v, if_pos v]
          exact go
theorem K_move {h : zHC} {m : zHM} (hI : VI h m) (k3 : h 324 0 0 = 3) : VO h m (F42 h) (F196 m) := by
  have big := zFu_big
  obtain ⟨hT, hf, hV, hL⟩ := hI
  have w6 := hV.2.2.2.2.2.2.2.1
  unfold WN at w6
  have e580 : h 580 1 0 = m 15 4 := hV.1.2.2.2.2.1
  obtain ⟨c, hc⟩ : ∃ c, m 15 4 = c := ⟨_, rfl⟩
  unfold F42 F196
  rw [e580, hc]
  by_cases q : c < 20
  · rw [if_pos q, if_pos (show ¬ c = 20 by omega), wmul_eq (x := 3) (y := c) (by omega) (by omega), wadd_eq (x := 37) (y := 3 * c) (by omega) (by omega)]
    obtain ⟨h1, m1, a1, a2, a3, a4, a5⟩ := L21h (h2 := h) (m2 := m) hT (by omega) (fun _ _ _ _ => rfl) (fun _ _ _ => rfl)
    rw [a1, a2, Option.bind_some, Option.bind_some]
    have hV1 : VR h1 1 (m1 15) (m1 20) := VR_keep (fun r j g0 g1 => a4 r 1 j (by omega)) (fun k _ _ => a5 15 k (by omega)) (fun k _ _ => a5 20 k (by omega)) hV
    rcases L_one a3 hV1 with ⟨p, p0, p1, b1, b2, b3⟩ | ⟨h', m', b1, b2, b3, b4, b5⟩
    · rw [a5 15 3 (by omega)] at p1
      rw [b2, b3, Option.bind_some, Option.bind_some, if_pos (show ¬ (1 : Int) = 0 by decide)]
      dsimp only
      rw [if_pos (show ¬ p = -1 by omega), zG_t (show 0 ≤ 37 + 3 * c ∧ 37 + 3 * c < 209 by omega), mset_eq]
      obtain ⟨h2, m2, c1, c2, c3, c4, c5⟩ := L21h (h2 := h1) (m2 := mset (mset m1 13 0 p) 15 (37 + 3 * c) p) a3 (by omega) (fun _ _ _ _ => rfl) (fun r j g => by rw [mset_ne (by omega), mset_ne (by omega)])
      rw [c1, c2, Option.bind_some, Option.bind_some]
      have fc2 : ∀ r n j, ¬ (324 ≤ r ∧ r ≤ 328) → h2 r n j = h r n j := fun r n j hne => by rw [c4 r n j hne, a4 r n j hne]
      have fm2 : ∀ r j, ¬ ((5 ≤ r ∧ r ≤ 9) ∨ r = 12 ∨ r = 13 ∨ (r = 15 ∧ j = 37 + 3 * c)) → m2 r j = m r j := fun r j hne => by rw [c5 r j (by omega), mset_ne (by omega), mset_ne (by omega), a5 r j (by omega)]
      have m2p : m2 15 (37 + 3 * c) = p := by rw [c5 15 _ (by omega), mset_eq]
      rcases L33 (lo := 1) (hi := 200) c3 with ⟨d1, d2, d3, d4, d5, d6⟩ | ⟨h', m', d1, d2, d3, d4, d5⟩
      · rw [d5, d6, Option.bind_some, Option.bind_some, if_pos (show ¬ (1 : Int) = 0 by decide), if_pos (show ¬ (1 : Int) = 0 by decide)]
        dsimp only
        obtain ⟨x, hx⟩ : ∃ x, m2 8 0 = x := ⟨_, rfl⟩
        rw [d4, hx]
        rw [hx] at d2 d3
        unfold F44
        have hm3 : ∀ r j, ¬ (r = 13 ∧ j = 0) → (mset m2 13 0 x) r j = m2 r j := fun r j hne => mset_ne hne
        rcases L_hasM (h := h2) (m := mset m2 13 0 x) (x := x) (p := p) (c := c) (by rw [fc2 580 1 0 (by omega), e580, hc]) q (fun k k0 k1 => by rw [fc2 591 1 k (by omega), fc2 590 1 k (by omega), hm3 15 _ (by omega), hm3 15 _ (by omega), fm2 15 _ (by omega), fm2 15 _ (by omega)]; exact ⟨(hV.2.2.2.1 k k0 (by omega)).1, (hV.2.2.2.1 k k0 (by omega)).2.1⟩) (by rw [hm3 15 _ (by omega)]; exact m2p) mset_eq zFu zFu 0 (by decide) (by omega) (by omega) (by omega) with ⟨s1, y, s2⟩ | ⟨s1, s2⟩
        · rw [s1, s2, Option.bind_some, if_pos rfl, F196_0, if_pos (Int.le_refl _), wmul_eq (x := 3) (y := c) (by omega) (by omega), wadd_eq (x := 37) (by omega) (by omega), wadd_eq (x := 37 + 3 * c) (y := 1) (by omega) (by omega), wadd_eq (x := 37 + 3 * c) (y := 2) (by omega) (by omega), zG_t (show 0 ≤ 37 + 3 * c + 1 ∧ 37 + 3 * c + 1 < 209 by omega), mset_eq]
          obtain ⟨h4, m4, g1, g2, g3, g4, g5⟩ := L21h (h2 := h2) (m2 := mset (mset m2 13 0 x) 15 (37 + 3 * c + 1) x) c3 (by omega) (fun _ _ _ _ => rfl) (fun r j g => by rw [mset_ne (by omega), mset_ne (by omega)])
          rw [g1, g2, Option.bind_some, Option.bind_some]
          have fc4 : ∀ r n j, ¬ (324 ≤ r ∧ r ≤ 328) → h4 r n j = h r n j := fun r n j hne => by rw [g4 r n j hne, fc2 r n j hne]
          have fm4 : ∀ r j, ¬ ((5 ≤ r ∧ r ≤ 9) ∨ r = 12 ∨ r = 13 ∨ (r = 15 ∧ (j = 37 + 3 * c ∨ j = 37 + 3 * c + 1))) → m4 r j = m r j := fun r j hne => by rw [g5 r j (by omega), mset_ne (by omega), mset_ne (by omega), fm2 r j (by omega)]
          unfold F195
          rcases L_cell g3 (by rw [fc4 576 1 0 (by omega), fm4 15 0 (by omega)]; exact hV.1.1) (by rw [fc4 577 1 0 (by omega), fm4 15 1 (by omega)]; exact hV.1.2.1) (by rw [fm4 15 0 (by omega)]; omega) (by rw [fm4 15 0 (by omega)]; omega) (by rw [fm4 15 1 (by omega)]; omega) (by rw [fm4 15 1 (by omega)]; omega) with ⟨z, h5, m5, z0, z1, i1, i2, i3, i4, i5, i6, i7⟩ | ⟨h', m', i1, i2, i3, i4, i5⟩
          · rw [i1, i2, Option.bind_some, Option.bind_some, if_pos (show ¬ (1 : Int) = 0 by decide)]
            dsimp only
            rw [if_pos (show ¬ z = -1 by omega), zG_t (show 0 ≤ c ∧ c < 20 by omega), zG_t (show 0 ≤ c ∧ c < 20 by omega), zG_t (show 0 ≤ c ∧ c < 20 by omega), wadd_eq (x := c) (y := 1) (by omega) (by omega)]
            obtain ⟨h6, m6, o1, o2, o4, o5, o6⟩ := L21h (h2 := hset (hset (hset (hset h5 591 1 c p) 590 1 c x) 592 1 c z) 580 1 0 (c + 1)) (m2 := m5) i5 (by omega) (fun r j _ _ => by rw [hset_ne (by omega), hset_ne (by omega), hset_ne (by omega), hset_ne (by omega)]) (fun _ _ _ => rfl)
            rw [o1, o2, Option.bind_some, Option.bind_some, Option.bind_some, if_pos (show ¬ (1 : Int) = 0 by decide), zG_t (show 0 ≤ 37 + 3 * c + 2 ∧ 37 + 3 * c + 2 < 209 by omega)]
            dsimp only
            have e2 : (mset m6 15 (37 + 3 * c + 2) (m6 13 0)) 15 4 = c := by rw [mset_ne (by omega), o6 15 4 (by omega), i7 15 4 (by omega), fm4 15 4 (by omega)]; exact hc
            rw [e2, wadd_eq (x := c) (y := 1) (by omega) (by omega)]
            generalize hM : mset (mset m6 15 (37 + 3 * c + 2) (m6 13 0)) 15 4 (c + 1) = M
            have fc : ∀ r n j, ¬ ((324 ≤ r ∧ r ≤ 328) ∨ (590 ≤ r ∧ r ≤ 592 ∧ n = 1 ∧ j = c) ∨ (r = 580 ∧ n = 1 ∧ j = 0)) → h6 r n j = h r n j := fun r n j hne => by rw [o5 r n j (by omega), hset_ne (by omega), hset_ne (by omega), hset_ne (by omega), hset_ne (by omega), i6 r n j (by omega), fc4 r n j (by omega)]
            have fm : ∀ r j, ¬ ((5 ≤ r ∧ r ≤ 9) ∨ r = 12 ∨ r = 13 ∨ (r = 15 ∧ (j = 4 ∨ (37 + 3 * c ≤ j ∧ j ≤ 37 + 3 * c + 2)))) → M r j = m r j := fun r j hne => by rw [← hM, mset_ne (by omega), mset_ne (by omega), o6 r j (by omega), i7 r j (by omega), fm4 r j (by omega)]
            have f15 : ∀ k, ¬ (k = 4 ∨ (37 + 3 * c ≤ k ∧ k ≤ 37 + 3 * c + 2)) → M 15 k = m 15 k := fun k hk => fm 15 k (by omega)
            have M4 : M 15 4 = c + 1 := by rw [← hM, mset_eq]
            have Ma : M 15 (37 + 3 * c) = p := by rw [← hM, mset_ne (by omega), mset_ne (by omega), o6 15 _ (by omega), i7 15 _ (by omega), g5 15 _ (by omega), mset_ne (by omega), mset_ne (by omega)]; exact m2p
            have Mb : M 15 (37 + 3 * c + 1) = x := by rw [← hM, mset_ne (by omega), mset_ne (by omega), o6 15 _ (by omega), i7 15 _ (by omega), g5 15 _ (by omega), mset_eq]
            have Mc : M 15 (37 + 3 * c + 2) = z := by rw [← hM, mset_ne (by omega), mset_eq, o6 13 0 (by omega)]; exact i3
            have y580 : h6 580 1 0 = c + 1 := by rw [o5 580 1 0 (by omega), hset_eq]
            have y591 : h6 591 1 c = p := by rw [o5 591 1 c (by omega), hset_ne (by omega), hset_ne (by omega), hset_ne (by omega), hset_eq]
            have y590 : h6 590 1 c = x := by rw [o5 590 1 c (by omega), hset_ne (by omega), hset_ne (by omega), hset_eq]
            have y592 : h6 592 1 c = z := by rw [o5 592 1 c (by omega), hset_ne (by omega), hset_eq]
            refine Or.inl ⟨h6, M, rfl, rfl, ⟨?_, by rw [fc 322 0 0 (by omega), fm 10 0 (by omega)]; exact hf, ?_, ?_⟩, fun r n j hne => fc r n j (by omega), fun r j hne => fm r j (by omega), ?_⟩
            · rw [← hM]
              exact TR_keep o4 (fun _ _ _ _ => rfl) (fun r j g => by rw [mset_ne (by omega), mset_ne (by omega)])
            · refine VR_parts hV ⟨?_, ?_⟩ (fun u v => ⟨VC_k (f15 2 (by omega)) (fun r j _ _ => fc r 1 j (by omega)) (fun k _ _ => f15 k (by omega)) u, WC_k (f15 2 (by omega)) (fun k _ _ => f15 k (by omega)) v⟩) (fun u v => ⟨VP_k (f15 3 (by omega)) (fun r j _ _ => fc r 1 j (by omega)) (fun k _ _ => f15 k (by omega)) u, WP_k (f15 3 (by omega)) (fun k _ _ => f15 k (by omega)) v⟩) (fun u v => ⟨?_, ?_⟩) (fun u => VF_k (f15 5 (by omega)) (fun j => fc 593 1 j (by omega)) (fun k _ _ => f15 k (by omega)) u) (fun u v => ⟨VS_k (f15 6 (by omega)) (fun r j _ _ => fc r 1 j (by omega)) (fun k _ _ => f15 k (by omega)) u, WS_k (f15 6 (by omega)) (fun k _ _ => f15 k (by omega)) v⟩) (fun u => VQ_k (f15 2 (by omega)) (f15 3 (by omega)) (fun c _ _ => ⟨fc 583 1 c (by omega), fm 20 c (by omega)⟩) (fun c _ _ => ⟨fc 587 1 c (by omega), fm 20 (6 + c) (by omega)⟩) u)
              · unfold VN
                rw [fc 576 1 0 (by omega), fc 577 1 0 (by omega), y580, fc 578 1 0 (by omega), fc 579 1 0 (by omega), fc 581 1 0 (by omega), fc 582 1 0 (by omega), f15 0 (by omega), f15 1 (by omega), M4, f15 2 (by omega), f15 3 (by omega), f15 5 (by omega), f15 6 (by omega)]
                exact ⟨hV.1.1, hV.1.2.1, hV.1.2.2.1, hV.1.2.2.2.1, rfl, hV.1.2.2.2.2.2⟩
              · unfold WN
                rw [f15 0 (by omega), f15 1 (by omega), M4, f15 2 (by omega), f15 3 (by omega), f15 5 (by omega), f15 6 (by omega)]
                omega
              · intro k k0 k1
                rw [M4] at k1
                by_cases w : k = c
                · subst w
                  rw [y591, y590, y592, Ma, Mb, Mc]
                  exact ⟨rfl, rfl, rfl⟩
                · rw [fc 591 1 k (by omega), fc 590 1 k (by omega), fc 592 1 k (by omega), f15 (37 + 3 * k) (by omega), f15 (37 + 3 * k + 1) (by omega), f15 (37 + 3 * k + 2) (by omega)]
                  exact u k k0 (by omega)
              · intro k k0 k1
                rw [M4] at k1
                rw [f15 3 (by omega)]
                by_cases w : k = c
                · subst w
                  rw [Ma, Mb, Mc]
                  omega
                · rw [f15 (37 + 3 * k) (by omega), f15 (37 + 3 * k + 1) (by omega), f15 (37 + 3 * k + 2) (by omega)]
                  exact v k k0 (by omega)
            · rw [f15 0 (by omega), fm 24 0 (by omega)]
              exact hL
            · have n := zCNT_k (m := m) (M := M) (fm 24 0 (by omega)) (fun k hk => f15 k (by omega))
              rw [M4, f15 2 (by omega), f15 5 (by omega), f15 6 (by omega)] at n
              omega
          · rw [i1, i2, Option.bind_some, Option.bind_some, if_neg (show ¬ ¬ (0 : Int) = 0 by decide), Option.bind_some, if_neg (show ¬ ¬ (0 : Int) = 0 by decide), if_neg (show ¬ ¬ (-1 : Int) = -1 by decide)]
            exact Or.inr ⟨h', m', rfl, rfl, i3, fun r n j hne => by rw [i4 r n j (by omega), fc4 r n j (by omega)], fun r j hne => by rw [i5 r j (by omega), fm4 r j (by omega)]⟩
        · rw [s1, s2, Option.bind_some, if_neg (show ¬ (1 : Int) = 0 by decide)]
          obtain ⟨h', m', g1, g2, g3, g4, g5⟩ := L31 (k := 3) (TR_told (x := x) c3) (Or.inr (by rw [mset_ne (by omega)]; exact TR_at c3 (by omega) (by omega)))
          rw [g1, g2, Option.bind_some, Option.bind_some, zG_t (Or.inl rfl), zG_t (Or.inl rfl)]
          exact Or.inr ⟨h', m', rfl, rfl, g3, fun r n j hne => by rw [g4 r n j (by omega), fc2 r n j (by omega)], fun r j hne => by rw [g5 r j (by omega), mset_ne (by omega), fm2 r j (by omega)]⟩
      · rw [d1, d2, Option.bind_some, Option.bind_some, if_neg (show ¬ ¬ (0 : Int) = 0 by decide), if_neg (show ¬ ¬ (0 : Int) = 0 by decide)]
        exact Or.inr ⟨h', m', rfl, rfl, d3, fun r n j hne => by rw [d4 r n j (by omega), fc2 r n j (by omega)], fun r j hne => by rw [d5 r j (by omega), fm2 r j (by omega)]⟩
    · rw [b1, b2, Option.bind_some, Option.bind_some, if_neg (show ¬ ¬ (0 : Int) = 0 by decide), if_neg (show ¬ ¬ (-1 : Int) = -1 by decide)]
      exact Or.inr ⟨h', m', rfl, rfl, b3, fun r n j hne => by rw [b4 r n j (by omega), a4 r n j (by omega)], fun r j hne => by rw [b5 r j (by omega), a5 r j (by omega)]⟩
  · rw [if_neg q, if_neg (show ¬ ¬ c = 20 by omega)]
    obtain ⟨h', m', a1, a2, a3, a4, a5⟩ := L31 (k := 4) hT (Or.inr (TR_at hT (by omega) (by omega)))
    rw [a1, a2, Option.bind_some, Option.bind_some, zG_t (Or.inl rfl), zG_t (Or.inl rfl)]
    exact Or.inr ⟨h', m', rfl, rfl, a3, fun r n j hne => a4 r n j (by omega), fun r j hne => a5 r j (by omega)⟩
