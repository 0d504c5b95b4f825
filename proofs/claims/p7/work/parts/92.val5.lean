/-! A valley's text, whole. -/
theorem V_bad {h : zHC} {m : zHM} (hT : TR h m) : VO h m (F31 1 h) (F185 1 m) := by
  obtain ⟨h', m', a1, a2, a3, a4, a5⟩ := L31 (k := 1) hT (Or.inl rfl)
  exact Or.inr ⟨h', m', a1, a2, a3, fun r n j hne => a4 r n j (by omega), fun r j hne => a5 r j (by omega)⟩
def VL (h : zHC) (m : zHM) (x : Option (Int × zHC)) (y : Option (Int × zHM)) : Prop := (∃ h' m', x = some (1, h') ∧ y = F180_1 1 m' ∧ VI h' m' ∧ vfC h h' ∧ vfM m m' ∧ zCNT m' = zCNT m + 1) ∨ (∃ h' m', x = some (0, h') ∧ y = some (0, m') ∧ FT h' m' ∧ vfC h h' ∧ vfM m m')
theorem VO_line {h : zHC} {m : zHM} {x : Option (Int × zHC)} {y : Option (Int × zHM)} (o : VO h m x y) : VL h m (x.bind fun r1 => zG (r1.1 = 0 ∨ r1.1 = 1) (some (r1.1, r1.2))) (y.bind fun r => F180_1 r.1 r.2) := by
  rcases o with ⟨h', m', a1, a2, a3⟩ | ⟨h', m', a1, a2, a3⟩
  · rw [a1, a2, Option.bind_some, Option.bind_some, zG_t (Or.inr rfl)]
    exact Or.inl ⟨h', m', rfl, rfl, a3⟩
  · rw [a1, a2, Option.bind_some, Option.bind_some, zG_t (Or.inl rfl)]
    refine Or.inr ⟨h', m', rfl, ?_, a3⟩
    show F180_1 0 m' = _
    unfold F180_1
    rw [if_pos rfl]
theorem K_vl {h : zHC} {m : zHM} (hI : VI h m) : VL h m (F30 h) (F180 m) := by
  have hT := hI.1
  unfold F30 F180
  rw [E181 hT (by decide) (by decide), E181 hT (by decide) (by decide), E181 hT (by decide) (by decide), E181 hT (by decide) (by decide), E181 hT (by decide) (by decide), E181 hT (by decide) (by decide), E181 hT (by decide) (by decide), Option.bind_some, Option.bind_some, Option.bind_some, Option.bind_some, Option.bind_some, Option.bind_some, Option.bind_some]
  by_cases k3 : h 324 0 0 = 3
  · rw [if_pos k3]
    have hr : 0 ≤ h 326 0 0 := by
      obtain ⟨-, hk2, -, -⟩ := hT
      rcases hk2 with ⟨a, b, c⟩ | ⟨a, b, c⟩ | ⟨a, c⟩ | ⟨a, c, -⟩ | ⟨a, c, d, -⟩ | ⟨a, c, -⟩ | ⟨a, c, -⟩ <;> omega
    have no : ∀ k, ¬ h 326 0 0 = k → (if h 324 0 0 = 3 ∧ h 326 0 0 = k then (1 : Int) else 0) = 0 := fun k u => if_neg (fun z => u z.2)
    have ye : ∀ k, h 326 0 0 = k → (if h 324 0 0 = 3 ∧ h 326 0 0 = k then (1 : Int) else 0) = 1 := fun k u => if_pos ⟨k3, u⟩
    have n1 : ¬ (1 : Int) = 0 := by decide
    by_cases q0 : h 326 0 0 = 0
    · rw [if_pos q0, ye 0 q0, if_neg n1]
      exact VO_line (K_land hI k3)
    rw [if_neg q0, no 0 q0, if_pos rfl]
    by_cases q1 : h 326 0 0 = 1
    · rw [if_pos q1, ye 1 q1, if_neg n1]
      exact VO_line (K_cliff hI k3)
    rw [if_neg q1, no 1 q1, if_pos rfl]
    by_cases q2 : h 326 0 0 = 2
    · rw [if_pos q2, ye 2 q2, if_neg n1]
      exact VO_line (K_person hI k3)
    rw [if_neg q2, no 2 q2, if_pos rfl]
    by_cases q3 : h 326 0 0 = 3
    · rw [if_pos q3, ye 3 q3, if_neg n1]
      exact VO_line (K_move hI k3)
    rw [if_neg q3, no 3 q3, if_pos rfl]
    by_cases q4 : h 326 0 0 = 4
    · rw [if_pos q4, ye 4 q4, if_neg n1]
      exact VO_line (K_camp hI k3)
    rw [if_neg q4, no 4 q4, if_pos rfl]
    by_cases q5 : h 326 0 0 = 5
    · rw [if_pos q5, ye 5 q5, if_neg n1]
      exact VO_line (K_felt hI k3)
    rw [if_neg q5, no 5 q5, if_pos rfl]
    by_cases q6 : h 326 0 0 = 6
    · rw [if_pos q6, ye 6 q6, if_neg n1]
      exact VO_line (K_snow hI k3)
    rw [if_neg q6, no 6 q6, if_pos rfl, zG_t (show h 326 0 0 < 0 ∨ 6 < h 326 0 0 by omega)]
    exact VO_line (V_bad hT)
  · have no : ∀ k, (if h 324 0 0 = 3 ∧ h 326 0 0 = k then (1 : Int) else 0) = 0 := fun k => if_neg (fun z => k3 z.1)
    rw [if_neg k3, no, no, no, no, no, no, no, if_pos rfl, if_pos rfl, if_pos rfl, if_pos rfl, if_pos rfl, if_pos rfl, if_pos rfl]
    exact VO_line (V_bad hT)
theorem VI_lines {h : zHC} {m : zHM} {x : Int} (hI : VI h m) : VI (hset h 641 0 0 x) m := by
  obtain ⟨a, b, c, d⟩ := hI
  exact ⟨TR_keep a (fun r j _ _ => hset_ne (by omega)) (fun _ _ _ => rfl), by rw [hset_ne (by omega)]; exact b, VR_keep (fun r j _ _ => hset_ne (by omega)) (fun _ _ _ => rfl) (fun _ _ _ => rfl) c, d⟩
theorem V_loop : ∀ (n n' : Nat) (line : Int) (h : zHC) (m : zHM), VI h m → h 641 0 0 = line → 0 ≤ line → zCNT m = line → 60 - line < n → 60 - line < n' → (∃ h' m', F18_0 n line h = some (1, h') ∧ F173_1 n' line m = F173_2 zFu (h' 641 0 0) 0 m' ∧ VI h' m' ∧ vlC h h' ∧ vfM m m') ∨ (∃ h' m', F18_0 n line h = some (0, h') ∧ F173_1 n' line m = some (wsub (-1) (h' 323 0 0), m') ∧ h' 322 0 0 = m' 10 0 ∧ vlC h h' ∧ vfM m m') := by
  intro n
  induction n with
  | zero => intro n' line h m hI e l0 hc g1 g2; have := zCNT_le hI.2.2.1.2.2.2.2.2.2.2.1; omega
  | succ n ih =>
    intro n' line h m hI e l0 hc g1 g2
    have l1 := zCNT_le hI.2.2.1.2.2.2.2.2.2.2.1
    cases n' with
    | zero => omega
    | succ n' =>
      rw [F18_0, F173_1, if_neg (show ¬ 940 ≤ line by omega), E29 hI.1, Option.bind_some]
      by_cases q : m 7 0 = 0
      · rw [if_pos q, if_pos q, if_pos (show ¬ (1 : Int) = 0 by decide), ← e]
        exact Or.inl ⟨h, m, rfl, rfl, hI, fun _ _ _ _ => rfl, fun _ _ _ => rfl⟩
      · rw [if_neg q, if_neg q, if_neg (show ¬ ¬ (0 : Int) = 0 by decide)]
        rcases K_vl hI with ⟨h1, m1, a1, a2, a3, a4, a5, a6⟩ | ⟨h1, m1, a1, a2, a3, a4, a5⟩
        · rw [a1, a2, Option.bind_some, if_neg (show ¬ (1 : Int) = 0 by decide)]
          unfold F180_1 F50 F201
          rw [if_neg (show ¬ (1 : Int) = 0 by decide)]
          dsimp only
          rw [E51, Option.bind_some, E202 a3.1, Option.bind_some]
          by_cases sg : h1 324 0 0 = 5 ∧ h1 326 0 0 = 59
          · rw [if_pos sg, if_pos (show ¬ (1 : Int) = 0 by decide), if_pos (show ¬ (1 : Int) = 0 by decide)]
            obtain ⟨h5, m5, z1, z2, z3, z4, z5⟩ := L21 a3.1 (by omega)
            rw [z1, z2, Option.bind_some, Option.bind_some, Option.bind_some, Option.bind_some]
            dsimp only
            rw [if_neg (show ¬ (1 : Int) = 0 by decide), if_pos (show ¬ (1 : Int) = 0 by decide), Option.bind_some, if_pos (show ¬ (1 : Int) = 0 by decide)]
            dsimp only
            rw [z4 641 0 0 (by omega), a4 641 0 0 (by omega), e, wadd_eq (x := line) (y := 1) (by omega) (by omega)]
            have I5 : VI h5 m5 := by
              obtain ⟨b1, b2, b3, b4⟩ := a3
              refine ⟨z3, by rw [z4 322 0 0 (by omega), z5 10 0 (by omega)]; exact b2, VR_keep (fun r j _ _ => z4 r 1 j (by omega)) (fun k _ _ => z5 15 k (by omega)) (fun k _ _ => z5 20 k (by omega)) b3, ?_⟩
              rw [z5 15 0 (by omega), z5 24 0 (by omega)]
              exact b4
            have c5 : zCNT m5 = zCNT m1 := by
              have w := zCNT_k (m := m1) (M := m5) (z5 24 0 (by omega)) (fun k _ => z5 15 k (by omega))
              rw [z5 15 2 (by omega), z5 15 4 (by omega), z5 15 5 (by omega), z5 15 6 (by omega)] at w
              omega
            have gc : vlC h (hset h5 641 0 0 (line + 1)) := fun r n j hne => by rw [hset_ne (by omega), z4 r n j (by omega), a4 r n j (by omega)]
            have gm : vfM m m5 := fun r j hne => by rw [z5 r j (by omega), a5 r j hne]
            rcases ih n' (line + 1) (hset h5 641 0 0 (line + 1)) m5 (VI_lines I5) hset_eq (by omega) (by omega) (by omega) (by omega) with ⟨h6, m6, y1, y2, y3, y4, y5⟩ | ⟨h6, m6, y1, y2, y3, y4, y5⟩
            · exact Or.inl ⟨h6, m6, y1, y2, y3, fun r n j hne => by rw [y4 r n j hne, gc r n j hne], fun r j hne => by rw [y5 r j hne, gm r j hne]⟩
            · exact Or.inr ⟨h6, m6, y1, y2, y3, fun r n j hne => by rw [y4 r n j hne, gc r n j hne], fun r j hne => by rw [y5 r j hne, gm r j hne]⟩
          · rw [if_neg sg, if_neg (show ¬ ¬ (0 : Int) = 0 by decide), if_neg (show ¬ ¬ (0 : Int) = 0 by decide)]
            obtain ⟨h', m', x1, x2, x3, x4, x5⟩ := L31 (k := 1) a3.1 (Or.inl rfl)
            rw [x1, x2, Option.bind_some, Option.bind_some]
            dsimp only
            rw [zG_t (Or.inl rfl), zG_t (Or.inl rfl), Option.bind_some, Option.bind_some]
            dsimp only
            rw [if_pos rfl, Option.bind_some, if_neg (show ¬ ¬ (0 : Int) = 0 by decide), if_neg (show ¬ ¬ (0 : Int) = 0 by decide)]
            dsimp only
            rw [← x3.2]
            exact Or.inr ⟨h', m', rfl, rfl, x3.1, fun r n j hne => by rw [x4 r n j (by omega), a4 r n j (by omega)], fun r j hne => by rw [x5 r j (by omega), a5 r j hne]⟩
        · rw [a1, a2, Option.bind_some, Option.bind_some, if_pos rfl, if_neg (show ¬ ¬ (0 : Int) = 0 by decide)]
          dsimp only
          rw [← a3.2]
          exact Or.inr ⟨h1, m1, rfl, rfl, a3.1, fun r n j hne => a4 r n j (by omega), a5⟩
theorem F173_0s : ∀ (n : Nat) (q : Int) (m : zHM), 0 ≤ q → q ≤ 209 → 209 - q < n → (∀ j, 0 ≤ j → j < q → m 15 j = 0) → ∃ m', F173_0 n q m = F173_1 zFu 0 m' ∧ (∀ j, 0 ≤ j → j < 209 → m' 15 j = 0) ∧ m' 24 0 = 0 ∧ (∀ r j, ¬ (r = 15 ∨ (r = 24 ∧ j = 0)) → m' r j = m r j) := by
  intro n
  induction n with
  | zero => intro q m q0 q1 g; omega
  | succ n ih =>
    intro q m q0 q1 g e
    rw [F173_0]
    by_cases u : q = 209
    · rw [if_pos (by omega)]
      exact ⟨_, rfl, fun j j0 j1 => by rw [mset_ne (by omega)]; exact e j j0 (by omega), mset_eq, fun r j hne => mset_ne (by omega)⟩
    · rw [if_neg (by omega), zG_t (by omega), wadd_eq (by omega) (by omega)]
      obtain ⟨m', a1, a2, a3, a4⟩ := ih (q + 1) (mset m 15 q 0) (by omega) (by omega) (by omega) (fun j j0 j1 => by
        by_cases w : j = q
        · subst w; exact mset_eq
        · rw [mset_ne (by omega)]; exact e j j0 (by omega))
      exact ⟨m', a1, a2, a3, fun r j hne => by rw [a4 r j hne, mset_ne (by omega)]⟩
theorem F173_2s {v : Int} {m0 : zHM} : ∀ (n : Nat) (q : Int) (m : zHM), 0 ≤ q → q ≤ 2140 → 2140 - q < n → (∀ j, 0 ≤ j → j < q → m 14 j = if j < 209 then m0 15 j else 0) → (∀ r j, ¬ r = 14 → m r j = m0 r j) → ∃ m', F173_2 n v q m = F173_3 zFu v 0 m' ∧ (∀ j, 0 ≤ j → j < 2140 → m' 14 j = if j < 209 then m0 15 j else 0) ∧ (∀ r j, ¬ r = 14 → m' r j = m0 r j) := by
  intro n
  induction n with
  | zero => intro q m q0 q1 g; omega
  | succ n ih =>
    intro q m q0 q1 g e1 e2
    rw [F173_2]
    by_cases u : q = 2140
    · subst u
      rw [if_pos (by omega)]
      exact ⟨m, rfl, e1, e2⟩
    · rw [if_neg (show ¬ 2140 ≤ q by omega)]
      unfold F173_4
      rw [wadd_eq (x := q) (y := 1) (by omega) (by omega), zG_t (show 0 ≤ q ∧ q < 2140 by omega), zG_t (show 0 ≤ q ∧ q < 2140 by omega), e2 15 q (by decide)]
      have go := fun (x : Int) (hx : x = if q < 209 then m0 15 q else 0) => ih (q + 1) (mset m 14 q x) (by omega) (by omega) (by omega) (fun j j0 j1 => by
        by_cases w : j = q
        · subst w; rw [mset_eq]; exact hx
        · rw [mset_ne (by omega)]; exact e1 j j0 (by omega)) (fun r j hne => by rw [mset_ne (by omega)]; exact e2 r j hne)
      by_cases w : 209 ≤ q
      · rw [if_pos w]
        exact go 0 (if_neg (by omega)).symm
      · rw [if_neg w, zG_t (by omega)]
        exact go (m0 15 q) (if_pos (by omega)).symm
theorem F173_3s {v : Int} {m0 : zHM} : ∀ (n : Nat) (q : Int) (m : zHM), 0 ≤ q → q ≤ 6 → 6 - q < n → (∀ p, 0 ≤ p → p < q → m 14 (210 + p) = m0 14 (25 + 2 * p)) → (∀ r j, ¬ (r = 14 ∧ 210 ≤ j ∧ j < 216) → m r j = m0 r j) → ∃ m', F173_3 n v q m = F173_5 zFu v 0 m' ∧ (∀ p, 0 ≤ p → p < 6 → m' 14 (210 + p) = m0 14 (25 + 2 * p)) ∧ (∀ r j, ¬ (r = 14 ∧ 210 ≤ j ∧ j < 216) → m' r j = m0 r j) := by
  intro n
  induction n with
  | zero => intro q m q0 q1 g; omega
  | succ n ih =>
    intro q m q0 q1 g e1 e2
    rw [F173_3]
    by_cases u : q = 6
    · subst u
      rw [if_pos (by omega)]
      exact ⟨m, rfl, e1, e2⟩
    · rw [if_neg (by omega), wmul_eq (by omega) (by omega), wadd_eq (x := 25) (by omega) (by omega), wadd_eq (x := 210) (by omega) (by omega), zG_t (by omega), zG_t (by omega), wadd_eq (x := q) (by omega) (by omega), e2 14 (25 + 2 * q) (by omega)]
      refine ih (q + 1) _ (by omega) (by omega) (by omega) (fun p p0 p1 => ?_) (fun r j hne => by rw [mset_ne (by omega)]; exact e2 r j hne)
      by_cases w : p = q
      · subst w; exact mset_eq
      · rw [mset_ne (by omega)]; exact e1 p p0 (by omega)
theorem F173_5s {v : Int} {m0 : zHM} : ∀ (n : Nat) (q : Int) (m : zHM), 0 ≤ q → q ≤ 12 → 12 - q < n → (∀ j, 0 ≤ j → j < q → m 19 j = m0 20 j) → (∀ r j, ¬ r = 19 → m r j = m0 r j) → ∃ m', F173_5 n v q m = some (v, m') ∧ (∀ j, 0 ≤ j → j < 12 → m' 19 j = m0 20 j) ∧ m' 23 0 = 0 ∧ (∀ r j, ¬ (r = 19 ∨ (r = 23 ∧ j = 0)) → m' r j = m0 r j) := by
  intro n
  induction n with
  | zero => intro q m q0 q1 g; omega
  | succ n ih =>
    intro q m q0 q1 g e1 e2
    rw [F173_5]
    by_cases u : q = 12
    · subst u
      rw [if_pos (by omega)]
      exact ⟨_, rfl, fun j j0 j1 => by rw [mset_ne (by omega)]; exact e1 j j0 j1, mset_eq, fun r j hne => by rw [mset_ne (by omega)]; exact e2 r j (by omega)⟩
    · rw [if_neg (by omega), zG_t (by omega), zG_t (by omega), wadd_eq (by omega) (by omega), e2 20 q (by omega)]
      refine ih (q + 1) _ (by omega) (by omega) (by omega) (fun j j0 j1 => ?_) (fun r j hne => by rw [mset_ne (by omega)]; exact e2 r j hne)
      by_cases w : j = q
      · subst w; exact mset_eq
      · rw [mset_ne (by omega)]; exact e1 j j0 (by omega)
theorem C_valley {hc : zHC} {hm : zHM} (h : RG hc hm) : ∃ r hc' hm', F17 hc = some (r, hc') ∧ F173 hm = some (r, hm') ∧ RG hc' hm' := by
  have big := zFu_big
  obtain ⟨H, hH⟩ : ∃ H, hset (hset (hset (hset (hset (hset (hset (hset hc 576 1 0 0) 577 1 0 0) 578 1 0 0) 579 1 0 0) 580 1 0 0) 581 1 0 0) 582 1 0 0) 641 0 0 0 = H := ⟨_, rfl⟩
  have HC : ∀ r n j, ¬ ((576 ≤ r ∧ r ≤ 582 ∧ n = 1 ∧ j = 0) ∨ (r = 641 ∧ n = 0 ∧ j = 0)) → H r n j = hc r n j := fun r n j hne => by rw [← hH, hset_ne (by omega), hset_ne (by omega), hset_ne (by omega), hset_ne (by omega), hset_ne (by omega), hset_ne (by omega), hset_ne (by omega), hset_ne (by omega)]
  have h1 : RG H hm := RG_sc h (fun r n j hne => HC r n j (by omega)) scM_refl
  obtain ⟨h2, m2, a1, a2, a3, a4, a5, a6, a7, a8⟩ := L_open (most := 900) h1 (by decide) (by decide)
  obtain ⟨m3, b1, b2, b3, b4⟩ := F173_0s zFu 0 m2 (by decide) (by decide) (by omega) (fun j j0 j1 => by omega)
  have z576 : h2 576 1 0 = 0 := by rw [a7 576 1 0 (by omega), ← hH, hset_ne (by omega), hset_ne (by omega), hset_ne (by omega), hset_ne (by omega), hset_ne (by omega), hset_ne (by omega), hset_ne (by omega), hset_eq]
  have z577 : h2 577 1 0 = 0 := by rw [a7 577 1 0 (by omega), ← hH, hset_ne (by omega), hset_ne (by omega), hset_ne (by omega), hset_ne (by omega), hset_ne (by omega), hset_ne (by omega), hset_eq]
  have z578 : h2 578 1 0 = 0 := by rw [a7 578 1 0 (by omega), ← hH, hset_ne (by omega), hset_ne (by omega), hset_ne (by omega), hset_ne (by omega), hset_ne (by omega), hset_eq]
  have z579 : h2 579 1 0 = 0 := by rw [a7 579 1 0 (by omega), ← hH, hset_ne (by omega), hset_ne (by omega), hset_ne (by omega), hset_ne (by omega), hset_eq]
  have z580 : h2 580 1 0 = 0 := by rw [a7 580 1 0 (by omega), ← hH, hset_ne (by omega), hset_ne (by omega), hset_ne (by omega), hset_eq]
  have z581 : h2 581 1 0 = 0 := by rw [a7 581 1 0 (by omega), ← hH, hset_ne (by omega), hset_ne (by omega), hset_eq]
  have z582 : h2 582 1 0 = 0 := by rw [a7 582 1 0 (by omega), ← hH, hset_ne (by omega), hset_eq]
  have z641 : h2 641 0 0 = 0 := by rw [a7 641 0 0 (by omega), ← hH, hset_eq]
  have r0 : ∀ j, 0 ≤ j → j < 209 → m3 15 j = 0 := b2
  have hI : VI h2 m3 := by
    refine ⟨TR_keep a3 (fun _ _ _ _ => rfl) (fun r j g => b4 r j (by omega)), by rw [a4, b4 10 0 (by omega), a5], ⟨?_, ?_, ?_, ?_, ?_, ?_, ?_, ?_, ?_, ?_, ?_, ?_⟩, ?_⟩
    · unfold VN
      rw [z576, z577, z578, z579, z580, z581, z582, r0 0 (by decide) (by decide), r0 1 (by decide) (by decide), r0 2 (by decide) (by decide), r0 3 (by decide) (by decide), r0 4 (by decide) (by decide), r0 5 (by decide) (by decide), r0 6 (by decide) (by decide)]
      exact ⟨rfl, rfl, rfl, rfl, rfl, rfl, rfl⟩
    · intro c c0 c1
      rw [r0 2 (by decide) (by decide)] at c1
      omega
    · intro c c0 c1
      rw [r0 3 (by decide) (by decide)] at c1
      omega
    · intro c c0 c1
      rw [r0 4 (by decide) (by decide)] at c1
      omega
    · intro x x0 x1
      rw [r0 (97 + x) (by omega) (by omega), r0 5 (by decide) (by decide)]
      exact ⟨fun z => by omega, fun ⟨k, k0, k1, _⟩ => by omega⟩
    · intro c c0 c1
      rw [r0 6 (by decide) (by decide)] at c1
      omega
    · exact ⟨fun c c0 c1 => by rw [r0 2 (by decide) (by decide)] at c1; omega, fun c c0 c1 => by rw [r0 3 (by decide) (by decide)] at c1; omega⟩
    · unfold WN
      rw [r0 0 (by decide) (by decide), r0 1 (by decide) (by decide), r0 2 (by decide) (by decide), r0 3 (by decide) (by decide), r0 4 (by decide) (by decide), r0 5 (by decide) (by decide), r0 6 (by decide) (by decide)]
      decide
    · intro c c0 c1
      rw [r0 2 (by decide) (by decide)] at c1
      omega
    · intro c c0 c1
      rw [r0 3 (by decide) (by decide)] at c1
      omega
    · intro c c0 c1
      rw [r0 4 (by decide) (by decide)] at c1
      omega
    · intro c c0 c1
      rw [r0 6 (by decide) (by decide)] at c1
      omega
    · rw [r0 0 (by decide) (by decide), b3]
      exact ⟨fun z => by omega, fun z => absurd rfl z⟩
  have cn : zCNT m3 = 0 := by
    have z : ∀ p, 0 ≤ p → zcp (m3 15) p = 0 := by
      intro p p0
      unfold zcp
      rw [r0 3 (by decide) (by decide), if_neg (fun z => by omega)]
    unfold zCNT
    rw [b3, r0 2 (by decide) (by decide), r0 3 (by decide) (by decide), r0 4 (by decide) (by decide), r0 5 (by decide) (by decide), r0 6 (by decide) (by decide), z 0 (by decide), z 1 (by decide), z 2 (by decide), z 3 (by decide), z 4 (by decide), z 5 (by decide)]
    rfl
  have fc2 : ∀ r n j, ¬ ((322 ≤ r ∧ r ≤ 329) ∨ r = 641 ∨ (576 ≤ r ∧ r ≤ 595 ∧ n = 1)) → h2 r n j = hc r n j := fun r n j hne => by rw [a7 r n j (by omega), HC r n j (by omega)]
  have fm2 : ∀ r j, ¬ (r = 0 ∨ r = 2 ∨ (3 ≤ r ∧ r ≤ 12) ∨ r = 15 ∨ r = 24) → m3 r j = hm r j := fun r j hne => by rw [b4 r j (by omega), a8 r j (by omega)]
  have m32 : m3 2 0 = 0 := by rw [b4 2 0 (by omega)]; exact a6
  have eF18 : F18 hc = F18_0 zFu 0 h2 := by
    unfold F18 F19
    rw [Option.bind_some, hH, a1, Option.bind_some]
  have eF173 : F173 hm = F173_1 zFu 0 m3 := by
    unfold F173
    rw [a2, Option.bind_some, b1]
  unfold F17
  rw [eF18, eF173]
  rcases V_loop zFu zFu 0 h2 m3 hI z641 (by decide) cn (by omega) (by omega) with ⟨h3, m4, c1, c2, c3, c4, c5⟩ | ⟨h3, m4, c1, c2, c3, c4, c5⟩
  · rw [c1, c2, Option.bind_some, if_pos (show ¬ (1 : Int) = 0 by decide)]
    dsimp only
    obtain ⟨h4, d1, d2, d3, d4, d5, d6, d7⟩ := L52 (h := hset h3 321 0 0 0) (i := 0) (j := 1) (by decide)
    rw [d1, Option.bind_some]
    unfold F53
    rw [Option.bind_some]
    unfold F54
    rw [Option.bind_some]
    unfold F55
    rw [Option.bind_some]
    obtain ⟨h7, e7⟩ : ∃ h7, hset (hset (hset (hcpy (hset (hset (hset h4 64 0 0 0) 65 0 0 0) 66 0 0 0) 67 0 588 0 0 0 6) 384 0 0 0) 385 0 0 0) 512 0 0 0 = h7 := ⟨_, rfl⟩
    rw [e7]
    have fc7 : ∀ r n j, ¬ ((r = 64 ∨ r = 65 ∨ r = 66 ∨ r = 67 ∨ r = 384 ∨ r = 385 ∨ r = 512) ∧ n = 0) → h7 r n j = h4 r n j := fun r n j hne => by rw [← e7, hset_ne (by omega), hset_ne (by omega), hset_ne (by omega), hcpy_ne (by omega), hset_ne (by omega), hset_ne (by omega), hset_ne (by omega)]
    have fc : ∀ r n j, ¬ ((r = 64 ∨ r = 65 ∨ r = 66 ∨ r = 67 ∨ r = 384 ∨ r = 385 ∨ r = 512) ∧ n = 0) → ¬ (r = 641 ∨ (321 ≤ r ∧ r ≤ 329) ∨ (576 ≤ r ∧ r ≤ 595 ∧ (n = 0 ∨ n = 1))) → h7 r n j = hc r n j := fun r n j g hne => by rw [fc7 r n j g, d7 r n j (by omega), hset_ne (by omega), c4 r n j (by omega), fc2 r n j (by omega)]
    obtain ⟨m5, i1, i2, i3⟩ := F173_2s (v := h3 641 0 0) (m0 := m4) zFu 0 m4 (by decide) (by decide) (by omega) (fun j j0 j1 => by omega) (fun _ _ _ => rfl)
    obtain ⟨m6, j1, j2, j3⟩ := F173_3s (v := h3 641 0 0) (m0 := m5) zFu 0 m5 (by decide) (by decide) (by omega) (fun j j0 j1 => by omega) (fun _ _ _ => rfl)
    obtain ⟨m7, k1, k2, k3, k4⟩ := F173_5s (v := h3 641 0 0) (m0 := m6) zFu 0 m6 (by decide) (by decide) (by omega) (fun j j0 j1 => by omega) (fun _ _ _ => rfl)
    rw [i1, j1, k1]
    have e641 : h7 641 0 0 = h3 641 0 0 := by rw [fc7 641 0 0 (by omega), d7 641 0 0 (by omega), hset_ne (by omega)]
    rw [e641]
    have fm : ∀ r j, ¬ (r = 19 ∨ r = 23 ∨ r = 14 ∨ r = 0 ∨ (2 ≤ r ∧ r ≤ 13) ∨ r = 15 ∨ r = 20 ∨ r = 24) → m7 r j = hm r j := fun r j hne => by rw [k4 r j (by omega), j3 r j (by omega), i3 r j (by omega), c5 r j (by omega), fm2 r j (by omega)]
    have n14 : ∀ j, 0 ≤ j → j < 209 → m7 14 j = m4 15 j := fun j j0 j1 => by rw [k4 14 j (by omega), j3 14 j (by omega), i2 j j0 (by omega), if_pos j1]
    have n14z : ∀ j, 209 ≤ j → j < 2140 → ¬ (210 ≤ j ∧ j < 216) → m7 14 j = 0 := fun j j0 j1 j2 => by rw [k4 14 j (by omega), j3 14 j (by omega), i2 j (by omega) (by omega), if_neg (by omega)]
    have n14p : ∀ p, 0 ≤ p → p < 6 → m7 14 (210 + p) = m4 15 (25 + 2 * p) := fun p p0 p1 => by rw [k4 14 _ (by omega), j2 p p0 p1, i2 _ (by omega) (by omega), if_pos (by omega)]
    have n19 : ∀ j, 0 ≤ j → j < 12 → m7 19 j = m4 20 j := fun j j0 j1 => by rw [k2 j j0 j1, j3 20 j (by omega), i3 20 j (by omega)]
    have hV3 := c3.2.2.1
    have hV7 : VR h7 0 (m7 14) (m7 19) := by
      refine VR_cong (h := h3) (i := 1) (a := m4 15) (nm := m4 20) (fun r g0 g1 => ?_) (fun r j g0 g1 j0 j1 => ?_) (fun r j g0 g1 j0 j1 => ?_) (fun j j0 j1 => ?_) (fun r j g0 g1 j0 j1 => ?_) (fun k k0 k1 => n14 k k0 k1) (fun k k0 k1 => n19 k k0 k1) hV3
      · rw [fc7 r 0 0 (by omega), d2 r g0 g1, hset_ne (by omega)]
      · rw [fc7 r 0 j (by omega), d3 r j g0 g1 j0 j1, hset_ne (by omega)]
      · rw [fc7 r 0 j (by omega), d4 r j g0 g1 j0 j1, hset_ne (by omega)]
      · rw [fc7 593 0 j (by omega), d5 j j0 j1, hset_ne (by omega)]
      · rw [fc7 r 0 j (by omega), d6 r j g0 g1 j0 j1, hset_ne (by omega)]
    have x64 : h7 64 0 0 = 0 := by rw [← e7, hset_ne (by omega), hset_ne (by omega), hset_ne (by omega), hcpy_ne (by omega), hset_ne (by omega), hset_ne (by omega), hset_eq]
    have x65 : h7 65 0 0 = 0 := by rw [← e7, hset_ne (by omega), hset_ne (by omega), hset_ne (by omega), hcpy_ne (by omega), hset_ne (by omega), hset_eq]
    have x66 : h7 66 0 0 = 0 := by rw [← e7, hset_ne (by omega), hset_ne (by omega), hset_ne (by omega), hcpy_ne (by omega), hset_eq]
    have x67 : ∀ p, 0 ≤ p → p < 6 → h7 67 0 p = h7 588 0 p := fun p p0 p1 => by rw [fc7 588 0 p (by omega), ← e7, hset_ne (by omega), hset_ne (by omega), hset_ne (by omega), hcpy_eq p0 (by omega), hset_ne (by omega), hset_ne (by omega), hset_ne (by omega)]
    have x384 : h7 384 0 0 = 0 := by rw [← e7, hset_ne (by omega), hset_ne (by omega), hset_eq]
    have x385 : h7 385 0 0 = 0 := by rw [← e7, hset_ne (by omega), hset_eq]
    have x512 : h7 512 0 0 = 0 := by rw [← e7, hset_eq]
    have n6 := VR_n hV7
    have hR7 : CR h7 0 (m7 14) := by
      have y209 := n14z 209 (by decide) (by decide) (by decide)
      have y216 := n14z 216 (by decide) (by decide) (by decide)
      have y997 := n14z 997 (by decide) (by decide) (by decide)
      refine ⟨⟨by rw [x64, y209], by rw [x65, y216]; rfl, by decide, by rw [x65]; decide, by rw [x66]; decide, fun p p0 p1 => ?_, fun k k0 k1 => by omega⟩, ⟨by rw [x66, y997], fun j j0 j1 => by omega⟩, by omega, by omega, fun s s0 s1 => by omega, ⟨by omega, ?_⟩, fun j j0 j1 => by omega, fun s s0 s1 => by omega⟩
      · have w := hV7.2.2.2.2.2.2.2.2.2.1 p p0 p1
        have w2 := (hV7.2.2.1 p p0 p1).1
        rw [x67 p p0 (by omega), w2, n14p p p0 (by omega), ← n14 (25 + 2 * p) (by omega) (by omega)]
        exact ⟨rfl, w.1, w.2.1⟩
      · rw [y997, y216]
        rfl
    obtain ⟨t1, t2, t3, t4, t5, t6, t7, t8, t9⟩ := h
    refine ⟨_, _, _, rfl, rfl, ⟨?_, ?_, ?_, ?_, ?_⟩, ⟨hV7, hR7⟩, ⟨by rw [x512, k3], by rw [k3]; exact Int.le_refl _, by rw [k3]; decide, ?_, ?_, fun j j0 j1 => by omega⟩, RIm_keep (fun r n j g => fc r n j (by omega) (by omega)) (fun r j g => fm r j (by omega)) t4, ⟨by rw [x384]; decide, ?_, by rw [x385]; decide, by rw [x385]; decide, fun z => absurd x384 z⟩, RPc_keep (fun r j g => fc r 0 j (by omega) (by omega)) (fun r j g => fm r j (by omega)) t6, RSt_keep (fun r j g => fc r 0 j (by omega) (by omega)) (fun j => fm 41 j (by omega)) t7, RWr_keep (fun r j g => fc r 0 j (by omega) (by omega)) (fun r j g => fm r j (by omega)) t8, RKw_keep (fun j => fc 330 0 j (by omega) (by omega)) t9⟩
    · rw [fc7 321 0 0 (by omega), d7 321 0 0 (by omega), hset_eq, k4 2 0 (by omega), j3 2 0 (by omega), i3 2 0 (by omega), c5 2 0 (by omega), m32]
    · rw [k4 2 0 (by omega), j3 2 0 (by omega), i3 2 0 (by omega), c5 2 0 (by omega), m32]; exact Int.le_refl _
    · rw [k4 2 0 (by omega), j3 2 0 (by omega), i3 2 0 (by omega), c5 2 0 (by omega), m32]; decide
    · intro i i0 i1
      rw [fc 320 0 i (by omega) (by omega), fm 1 i (by omega)]
      exact t1.2.2.2.1 i i0 i1
    · rw [fc7 322 0 0 (by omega), d7 322 0 0 (by omega), hset_ne (by omega), k4 10 0 (by omega), j3 10 0 (by omega), i3 10 0 (by omega)]
      exact c3.2.1
    · rw [fc 513 0 0 (by omega) (by omega)]
      exact t3.2.2.2.1
    · rw [fc 513 0 0 (by omega) (by omega)]
      exact t3.2.2.2.2.1
    · rw [x384, n14z 1898 (by decide) (by decide) (by decide)]
  · rw [c1, c2, Option.bind_some, if_neg (show ¬ ¬ (0 : Int) = 0 by decide)]
    dsimp only
    exact ⟨_, _, _, rfl, rfl, RG_text h (fun r n j hne => by rw [hset_ne (by omega), c4 r n j (by omega), fc2 r n j (by omega)]) (fun r j hne => by rw [c5 r j (by omega), fm2 r j (by omega)]) hset_eq (by rw [c5 2 0 (by omega)]; exact m32) (by rw [hset_ne (by omega)]; exact c3)⟩
