section
/-! A valley's text: what is kept when one thing is told more. -/
theorem VC_k {h h' : zHC} {i : Int} {a a' : Int → Int} (e2 : a' 2 = a 2) (hh : ∀ r j, 584 ≤ r → r ≤ 586 → h' r i j = h r i j) (ha : ∀ k, 7 ≤ k → k < 7 + 3 * a 2 → a' k = a k) (hV : VC h i a) : VC h' i a' := by
  intro c c0 c1
  rw [e2] at c1
  rw [hh 584 c (by decide) (by decide), hh 585 c (by decide) (by decide), hh 586 c (by decide) (by decide), ha (7 + 3 * c) (by omega) (by omega), ha (7 + 3 * c + 1) (by omega) (by omega), ha (7 + 3 * c + 2) (by omega) (by omega)]
  exact hV c c0 c1
theorem VP_k {h h' : zHC} {i : Int} {a a' : Int → Int} (e3 : a' 3 = a 3) (hh : ∀ r j, 588 ≤ r → r ≤ 589 → h' r i j = h r i j) (ha : ∀ k, 25 ≤ k → k < 25 + 2 * a 3 → a' k = a k) (hV : VP h i a) : VP h' i a' := by
  intro c c0 c1
  rw [e3] at c1
  rw [hh 588 c (by decide) (by decide), hh 589 c (by decide) (by decide), ha (25 + 2 * c) (by omega) (by omega), ha (25 + 2 * c + 1) (by omega) (by omega)]
  exact hV c c0 c1
theorem VM_k {h h' : zHC} {i : Int} {a a' : Int → Int} (e4 : a' 4 = a 4) (hh : ∀ r j, 590 ≤ r → r ≤ 592 → h' r i j = h r i j) (ha : ∀ k, 37 ≤ k → k < 37 + 3 * a 4 → a' k = a k) (hV : VM h i a) : VM h' i a' := by
  intro c c0 c1
  rw [e4] at c1
  rw [hh 590 c (by decide) (by decide), hh 591 c (by decide) (by decide), hh 592 c (by decide) (by decide), ha (37 + 3 * c) (by omega) (by omega), ha (37 + 3 * c + 1) (by omega) (by omega), ha (37 + 3 * c + 2) (by omega) (by omega)]
  exact hV c c0 c1
theorem VF_k {h h' : zHC} {i : Int} {a a' : Int → Int} (e5 : a' 5 = a 5) (hh : ∀ j, h' 593 i j = h 593 i j) (ha : ∀ k, 97 ≤ k → k < 197 → a' k = a k) (hV : VF h i a) : VF h' i a' := by
  intro x x0 x1
  rw [e5, ha (97 + x) (by omega) (by omega)]
  refine (hV x x0 x1).trans ?_
  constructor
  · rintro ⟨k, k0, k1, k2⟩
    exact ⟨k, k0, k1, by rw [hh]; exact k2⟩
  · rintro ⟨k, k0, k1, k2⟩
    exact ⟨k, k0, k1, by rw [← hh]; exact k2⟩
theorem VS_k {h h' : zHC} {i : Int} {a a' : Int → Int} (e6 : a' 6 = a 6) (hh : ∀ r j, 594 ≤ r → r ≤ 595 → h' r i j = h r i j) (ha : ∀ k, 197 ≤ k → k < 197 + 2 * a 6 → a' k = a k) (hV : VS h i a) : VS h' i a' := by
  intro c c0 c1
  rw [e6] at c1
  rw [hh 594 c (by decide) (by decide), hh 595 c (by decide) (by decide), ha (197 + 2 * c) (by omega) (by omega), ha (197 + 2 * c + 1) (by omega) (by omega)]
  exact hV c c0 c1
theorem VQ_k {h h' : zHC} {i : Int} {a a' nm nm' : Int → Int} (e2 : a' 2 = a 2) (e3 : a' 3 = a 3) (h1 : ∀ c, 0 ≤ c → c < a 2 → h' 583 i c = h 583 i c ∧ nm' c = nm c) (h2 : ∀ p, 0 ≤ p → p < a 3 → h' 587 i p = h 587 i p ∧ nm' (6 + p) = nm (6 + p)) (hV : VQ h i a nm) : VQ h' i a' nm' := by
  constructor
  · intro c c0 c1
    rw [e2] at c1
    rw [(h1 c c0 c1).1, (h1 c c0 c1).2]
    exact hV.1 c c0 c1
  · intro c c0 c1
    rw [e3] at c1
    rw [(h2 c c0 c1).1, (h2 c c0 c1).2]
    exact hV.2 c c0 c1
theorem WC_k {a a' : Int → Int} (e2 : a' 2 = a 2) (ha : ∀ k, 7 ≤ k → k < 7 + 3 * a 2 → a' k = a k) (hV : WC a) : WC a' := by
  intro c c0 c1
  rw [e2] at c1
  rw [ha (7 + 3 * c) (by omega) (by omega), ha (7 + 3 * c + 1) (by omega) (by omega), ha (7 + 3 * c + 2) (by omega) (by omega)]
  exact hV c c0 c1
theorem WP_k {a a' : Int → Int} (e3 : a' 3 = a 3) (ha : ∀ k, 25 ≤ k → k < 25 + 2 * a 3 → a' k = a k) (hV : WP a) : WP a' := by
  intro c c0 c1
  rw [e3] at c1
  rw [ha (25 + 2 * c) (by omega) (by omega), ha (25 + 2 * c + 1) (by omega) (by omega)]
  exact hV c c0 c1
theorem WM_k {a a' : Int → Int} (e4 : a' 4 = a 4) (e3 : a 3 ≤ a' 3) (ha : ∀ k, 37 ≤ k → k < 37 + 3 * a 4 → a' k = a k) (hV : WM a) : WM a' := by
  intro c c0 c1
  rw [e4] at c1
  have w := hV c c0 c1
  rw [ha (37 + 3 * c) (by omega) (by omega), ha (37 + 3 * c + 1) (by omega) (by omega), ha (37 + 3 * c + 2) (by omega) (by omega)]
  exact ⟨w.1, by omega, w.2.2⟩
theorem WS_k {a a' : Int → Int} (e6 : a' 6 = a 6) (ha : ∀ k, 197 ≤ k → k < 197 + 2 * a 6 → a' k = a k) (hV : WS a) : WS a' := by
  intro c c0 c1
  rw [e6] at c1
  obtain ⟨w1, w2, w3, w4, w5⟩ := hV c c0 c1
  rw [ha (197 + 2 * c) (by omega) (by omega), ha (197 + 2 * c + 1) (by omega) (by omega)]
  refine ⟨w1, w2, w3, w4, fun j j0 j1 => ?_⟩
  rw [ha (197 + 2 * j) (by omega) (by omega)]
  exact w5 j j0 j1
/-- a whole valley built up, one component new -/
theorem VR_parts {h h' : zHC} {i : Int} {a a' nm nm' : Int → Int} (hV : VR h i a nm) (hN : VN h' i a' ∧ WN a') (hC : VC h i a → WC a → VC h' i a' ∧ WC a') (hP : VP h i a → WP a → VP h' i a' ∧ WP a') (hM : VM h i a → WM a → VM h' i a' ∧ WM a') (hF : VF h i a → VF h' i a') (hS : VS h i a → WS a → VS h' i a' ∧ WS a') (hQ : VQ h i a nm → VQ h' i a' nm') : VR h' i a' nm' := by
  obtain ⟨-, b2, b3, b4, b5, b6, b7, -, c2, c3, c4, c5⟩ := hV
  exact ⟨hN.1, (hC b2 c2).1, (hP b3 c3).1, (hM b4 c4).1, hF b5, (hS b6 c5).1, hQ b7, hN.2, (hC b2 c2).2, (hP b3 c3).2, (hM b4 c4).2, (hS b6 c5).2⟩
/-! what a line of the text may change -/
def vfC (h h' : zHC) : Prop := ∀ r n j, ¬ ((322 ≤ r ∧ r ≤ 328) ∨ (576 ≤ r ∧ r ≤ 595 ∧ n = 1)) → h' r n j = h r n j
def vlC (h h' : zHC) : Prop := ∀ r n j, ¬ ((322 ≤ r ∧ r ≤ 328) ∨ r = 641 ∨ (576 ≤ r ∧ r ≤ 595 ∧ n = 1)) → h' r n j = h r n j
def vfM (m m' : zHM) : Prop := ∀ r j, ¬ ((5 ≤ r ∧ r ≤ 13) ∨ r = 15 ∨ r = 20 ∨ r = 24) → m' r j = m r j
def tsC (h h' : zHC) : Prop := ∀ r n j, ¬ (324 ≤ r ∧ r ≤ 328) → h' r n j = h r n j
def tsM (m m' : zHM) : Prop := ∀ r j, ¬ ((5 ≤ r ∧ r ≤ 9) ∨ r = 12 ∨ r = 13) → m' r j = m r j
theorem tsC_trans {h h' h'' : zHC} (a : tsC h h') (b : tsC h' h'') : tsC h h'' := fun r n j hne => by rw [b r n j hne, a r n j hne]
theorem tsM_trans {m m' m'' : zHM} (a : tsM m m') (b : tsM m' m'') : tsM m m'' := fun r j hne => by rw [b r j hne, a r j hne]
def VI (h : zHC) (m : zHM) : Prop := TR h m ∧ h 322 0 0 = m 10 0 ∧ VR h 1 (m 15) (m 20) ∧ (0 < m 15 0 ↔ ¬ m 24 0 = 0)
/-- how many lines were told, counted by what they told -/
def zcp (a : Int → Int) (p : Int) : Int := if p < a 3 ∧ ¬ a (25 + 2 * p + 1) = -1 then 1 else 0
def zCNT (m : zHM) : Int := (if m 24 0 = 0 then 0 else 1) + (m 15 2 + m 15 3 + m 15 4 + m 15 5 + m 15 6) + (zcp (m 15) 0 + zcp (m 15) 1 + zcp (m 15) 2 + zcp (m 15) 3 + zcp (m 15) 4 + zcp (m 15) 5)
theorem zcp_k {a a' : Int → Int} {p : Int} (e3 : a' 3 = a 3) (e : a' (25 + 2 * p + 1) = a (25 + 2 * p + 1)) : zcp a' p = zcp a p := by
  unfold zcp
  rw [e3, e]
theorem zcp_01 {a : Int → Int} {p : Int} : 0 ≤ zcp a p ∧ zcp a p ≤ 1 := by
  unfold zcp
  split <;> omega
theorem zCNT_k {m M : zHM} (e24 : M 24 0 = m 24 0) (ha : ∀ k, (k = 3 ∨ (25 ≤ k ∧ k ≤ 36)) → M 15 k = m 15 k) : zCNT M + (m 15 2 + m 15 4 + m 15 5 + m 15 6) = zCNT m + (M 15 2 + M 15 4 + M 15 5 + M 15 6) := by
  unfold zCNT
  rw [e24, ha 3 (by omega), zcp_k (a' := M 15) (a := m 15) (p := 0) (ha 3 (by omega)) (ha _ (by omega)), zcp_k (a' := M 15) (a := m 15) (p := 1) (ha 3 (by omega)) (ha _ (by omega)), zcp_k (a' := M 15) (a := m 15) (p := 2) (ha 3 (by omega)) (ha _ (by omega)), zcp_k (a' := M 15) (a := m 15) (p := 3) (ha 3 (by omega)) (ha _ (by omega)), zcp_k (a' := M 15) (a := m 15) (p := 4) (ha 3 (by omega)) (ha _ (by omega)), zcp_k (a' := M 15) (a := m 15) (p := 5) (ha 3 (by omega)) (ha _ (by omega))]
  omega
theorem zCNT_le {m : zHM} (w : WN (m 15)) : zCNT m ≤ 53 := by
  have a0 := (zcp_01 (a := m 15) (p := 0)).2
  have a1 := (zcp_01 (a := m 15) (p := 1)).2
  have a2 := (zcp_01 (a := m 15) (p := 2)).2
  have a3 := (zcp_01 (a := m 15) (p := 3)).2
  have a4 := (zcp_01 (a := m 15) (p := 4)).2
  have a5 := (zcp_01 (a := m 15) (p := 5)).2
  unfold WN at w
  unfold zCNT
  split <;> omega
def VO (h : zHC) (m : zHM) (x : Option (Int × zHC)) (y : Option (Int × zHM)) : Prop := (∃ h' m', x = some (1, h') ∧ y = some (1, m') ∧ VI h' m' ∧ vfC h h' ∧ vfM m m' ∧ zCNT m' = zCNT m + 1) ∨ (∃ h' m', x = some (0, h') ∧ y = some (0, m') ∧ FT h' m' ∧ vfC h h' ∧ vfM m m')
theorem TR_at {h : zHC} {m : zHM} (hT : TR h m) (hk : ¬ h 324 0 0 = 0) (hb : ¬ h 324 0 0 = 1) : ¬ m 7 0 = 1 := by
  obtain ⟨-, hk2, -, -⟩ := hT
  rcases hk2 with ⟨a, b, c⟩ | ⟨a, b, c⟩ | ⟨a, c⟩ | ⟨a, c, -⟩ | ⟨a, c, -⟩ | ⟨a, c, -⟩ | ⟨a, c, -⟩ <;> omega
theorem TR_name {h : zHC} {m : zHM} (hT : TR h m) (hk : h 324 0 0 = 2) : WR (h 327 0 0) (m 12 0) := by
  obtain ⟨-, hk2, -, -⟩ := hT
  rcases hk2 with ⟨a, b, c⟩ | ⟨a, b, c⟩ | ⟨a, c⟩ | ⟨a, c, d, -⟩ | ⟨a, c, -⟩ | ⟨a, c, -⟩ | ⟨a, c, -⟩
  · omega
  · omega
  · omega
  · exact d
  · omega
  · omega
  · omega
/-- a token passed, where the class's heap has changed elsewhere -/
theorem L21h {h h2 : zHC} {m m2 : zHM} (hT : TR h m) (hk : ¬ h 324 0 0 = 0) (f1 : ∀ r j, 320 ≤ r → r ≤ 330 → h2 r 0 j = h r 0 j) (f2 : ∀ r j, (r = 1 ∨ (3 ≤ r ∧ r ≤ 9) ∨ r = 12) → m2 r j = m r j) : ∃ h' m', F21 h2 = some h' ∧ F176 m2 = some m' ∧ TR h' m' ∧ tsC h2 h' ∧ (∀ r j, ¬ ((5 ≤ r ∧ r ≤ 9) ∨ r = 12) → m' r j = m2 r j) :=
  L21 (TR_keep hT f1 f2) (by rw [f1 324 0 (by decide) (by decide)]; exact hk)
theorem L_num {h : zHC} {m : zHM} {lo hi : Int} (hT : TR h m) : (h 324 0 0 = 4 ∧ lo ≤ h 326 0 0 ∧ h 326 0 0 ≤ hi ∧ F33 lo hi h = some (1, h) ∧ ∀ h2 : zHC, (∀ r j, 320 ≤ r → r ≤ 330 → h2 r 0 j = h r 0 j) → ∃ h' m', F21 h2 = some h' ∧ F186 lo hi m = some (1, m') ∧ m' 13 0 = h 326 0 0 ∧ TR h' m' ∧ tsC h2 h' ∧ tsM m m') ∨ (∃ h' m', F33 lo hi h = some (0, h') ∧ F186 lo hi m = some (0, m') ∧ FT h' m' ∧ tfC h h' ∧ tfM m m') := by
  unfold F186
  rcases L33 (lo := lo) (hi := hi) hT with ⟨d1, d2, d3, d4, d5, d6⟩ | ⟨h', m', d1, d2, d3, d4, d5⟩
  · refine Or.inl ⟨d1, by omega, by omega, d5, fun h2 f => ?_⟩
    obtain ⟨h', m', a1, a2, a3, a4, a5⟩ := L21h (TR_told (x := m 8 0) hT) (by omega) f (fun _ _ _ => rfl)
    rw [d6, Option.bind_some, if_pos (show ¬ (1 : Int) = 0 by decide)]
    dsimp only
    rw [a2, Option.bind_some]
    exact ⟨h', m', a1, rfl, by rw [a5 13 0 (by omega), mset_eq]; exact d4.symm, a3, a4, fun r j hne => by rw [a5 r j (by omega), mset_ne (by omega)]⟩
  · refine Or.inr ⟨h', m', d1, ?_, d3, d4, d5⟩
    rw [d2, Option.bind_some, if_neg (show ¬ ¬ (0 : Int) = 0 by decide)]
/-- a cell -/
theorem L_cell {h : zHC} {m : zHM} (hT : TR h m) (e0 : h 576 1 0 = m 15 0) (e1 : h 577 1 0 = m 15 1) (g0 : 0 ≤ m 15 0) (g1 : m 15 0 ≤ 10) (g2 : 0 ≤ m 15 1) (g3 : m 15 1 ≤ 10) : (∃ x h' m', 0 ≤ x ∧ x < 100 ∧ F39 h = some (x, h') ∧ F193 m = some (1, m') ∧ m' 13 0 = x ∧ h' 324 0 0 = 4 ∧ TR h' m' ∧ tsC h h' ∧ tsM m m') ∨ (∃ h' m', F39 h = some (-1, h') ∧ F193 m = some (0, m') ∧ FT h' m' ∧ tfC h h' ∧ tfM m m') := by
  unfold F39 F193
  rw [e0, wsub_eq (by omega) (by omega)]
  rcases L_num (lo := 0) (hi := m 15 0 - 1) hT with ⟨a1, a2, a3, a4, a5⟩ | ⟨h', m', a1, a2, a3, a4, a5⟩
  · obtain ⟨h1, m1, b1, b2, b3, b4, b5, b6⟩ := a5 h (fun _ _ _ _ => rfl)
    rw [a4, b2, Option.bind_some, Option.bind_some, if_pos (show ¬ (1 : Int) = 0 by decide), if_pos (show ¬ (1 : Int) = 0 by decide)]
    dsimp only
    rw [b1, Option.bind_some, b5 577 1 0 (by omega), b6 15 1 (by omega), e1, wsub_eq (by omega) (by omega)]
    rcases L33 (lo := 0) (hi := m 15 1 - 1) b4 with ⟨d1, d2, d3, d4, d5, d6⟩ | ⟨h', m', d1, d2, d3, d4, d5⟩
    · rw [d5, d6, Option.bind_some, Option.bind_some, if_neg (show ¬ (1 : Int) = 0 by decide), if_pos (show ¬ (1 : Int) = 0 by decide)]
      dsimp only
      rw [mset_eq, b3, d4, wmul_eq (by omega) (by omega), wmul_eq (by omega) (by omega), wadd_eq (by omega) (by omega), wadd_eq (by omega) (by omega)]
      refine Or.inl ⟨m1 8 0 * 10 + h 326 0 0, h1, _, by omega, by omega, rfl, rfl, ?_, d1, TR_told (TR_told b4), b5, fun r j hne => ?_⟩
      · rw [mset_eq]; omega
      · rw [mset_ne (by omega), mset_ne (by omega), b6 r j hne]
    · rw [d1, d2, Option.bind_some, Option.bind_some, if_pos rfl, if_neg (show ¬ ¬ (0 : Int) = 0 by decide)]
      exact Or.inr ⟨h', m', rfl, rfl, d3, fun r n j hne => by rw [d4 r n j hne, b5 r n j (by omega)], fun r j hne => by rw [d5 r j hne, b6 r j (by omega)]⟩
  · rw [a1, a2, Option.bind_some, Option.bind_some, if_neg (show ¬ ¬ (0 : Int) = 0 by decide), if_neg (show ¬ ¬ (0 : Int) = 0 by decide)]
    exact Or.inr ⟨h', m', rfl, rfl, a3, a4, a5⟩
/-- names looked for -/
theorem L37r {h : zHC} {m : zHM} {v w w' : Int} (e2 : h 578 v 0 = m 15 2) (n0 : 0 ≤ m 15 2) (n1 : m 15 2 ≤ 6) (hQ : ∀ c, 0 ≤ c → c < m 15 2 → WR (h 583 v c) (m 20 c)) (hw : WR w w') : ∃ r, F37 v w h = some r ∧ F192 0 (m 15 2) w' m = some r := by
  have key : ∀ (n n' : Nat) (p : Int), 0 ≤ p → p ≤ m 15 2 → m 15 2 - p < n → m 15 2 - p < n' → ∃ r, F37_0 h n v w p = some r ∧ F192_0 m n' 0 (m 15 2) w' p = some r := by
    intro n
    induction n with
    | zero => intro n' p p0 p1 g1 g2; omega
    | succ n ih =>
      intro n' p p0 p1 g1 g2
      cases n' with
      | zero => omega
      | succ n' =>
        rw [F37_0, F192_0, e2]
        by_cases e : m 15 2 ≤ p
        · rw [if_pos e, if_pos e]
          exact ⟨-1, rfl, rfl⟩
        · have ep : wadd p 1 = p + 1 := wadd_eq (by omega) (by omega)
          rw [if_neg e, if_neg e, wadd_eq (x := 0) (by omega) (by omega), zG_t (by omega), zG_t (by omega), ep, show (0 : Int) + p = p by omega]
          have hi := WR_iff (hQ p p0 (by omega)) hw
          by_cases q : m 20 p = w'
          · rw [if_neg (fun z => z (qcmp_0.mpr (hi.mpr q))), if_neg (fun z => z (qcmp_0.mpr q))]
            exact ⟨p, rfl, rfl⟩
          · rw [if_pos (fun z => q (hi.mp (qcmp_0.mp z))), if_pos (fun z => q (qcmp_0.mp z))]
            exact ih n' (p + 1) (by omega) (by omega) (by omega) (by omega)
  have big := zFu_big
  exact key zFu zFu 0 (by decide) n0 (by omega) (by omega)
theorem L38r {h : zHC} {m : zHM} {v w w' : Int} (e3 : h 579 v 0 = m 15 3) (n0 : 0 ≤ m 15 3) (n1 : m 15 3 ≤ 6) (hQ : ∀ p, 0 ≤ p → p < m 15 3 → WR (h 587 v p) (m 20 (6 + p))) (hw : WR w w') : ∃ r, F38 v w h = some r ∧ F192 6 (m 15 3) w' m = some r ∧ (r = -1 ∨ 0 ≤ r ∧ r < m 15 3) := by
  have key : ∀ (n n' : Nat) (p : Int), 0 ≤ p → p ≤ m 15 3 → m 15 3 - p < n → m 15 3 - p < n' → ∃ r, F38_0 h n v w p = some r ∧ F192_0 m n' 6 (m 15 3) w' p = some r ∧ (r = -1 ∨ 0 ≤ r ∧ r < m 15 3) := by
    intro n
    induction n with
    | zero => intro n' p p0 p1 g1 g2; omega
    | succ n ih =>
      intro n' p p0 p1 g1 g2
      cases n' with
      | zero => omega
      | succ n' =>
        rw [F38_0, F192_0, e3]
        by_cases e : m 15 3 ≤ p
        · rw [if_pos e, if_pos e]
          exact ⟨-1, rfl, rfl, Or.inl rfl⟩
        · have ep : wadd p 1 = p + 1 := wadd_eq (by omega) (by omega)
          rw [if_neg e, if_neg e, wadd_eq (x := 6) (by omega) (by omega), zG_t (by omega), zG_t (by omega), ep]
          have hi := WR_iff (hQ p p0 (by omega)) hw
          by_cases q : m 20 (6 + p) = w'
          · rw [if_neg (fun z => z (qcmp_0.mpr (hi.mpr q))), if_neg (fun z => z (qcmp_0.mpr q))]
            exact ⟨p, rfl, rfl, Or.inr ⟨p0, by omega⟩⟩
          · rw [if_pos (fun z => q (hi.mp (qcmp_0.mp z))), if_pos (fun z => q (qcmp_0.mp z))]
            exact ih n' (p + 1) (by omega) (by omega) (by omega) (by omega)
  have big := zFu_big
  exact key zFu zFu 0 (by decide) n0 (by omega) (by omega)
/-- a new name -/
theorem L_new {h : zHC} {m : zHM} {s : Int} (hT : TR h m) (hV : VR h 1 (m 15) (m 20)) (s0 : 0 ≤ s) (s1 : s < 12) : (∃ h' m', F35 h = some (1, h) ∧ F21 h = some h' ∧ F190 s m = some (1, m') ∧ TR h' m' ∧ WR (h 327 0 0) (m' 20 s) ∧ tsC h h' ∧ (∀ r j, ¬ ((5 ≤ r ∧ r ≤ 9) ∨ r = 12 ∨ (r = 20 ∧ j = s)) → m' r j = m r j)) ∨ (∃ h' m', F35 h = some (0, h') ∧ F190 s m = some (0, m') ∧ FT h' m' ∧ tfC h h' ∧ tfM m m') := by
  have w6 := hV.2.2.2.2.2.2.2.1
  unfold WN at w6
  unfold F35 F190
  rw [E191 hT, Option.bind_some]
  by_cases u : h 324 0 0 = 2
  · have hwr := TR_name hT u
    obtain ⟨r1, b1, b2⟩ := L37r (h := h) (m := m) (v := 1) hV.1.2.2.1 (by omega) (by omega) hV.2.2.2.2.2.2.1.1 hwr
    obtain ⟨r2, b3, b4, -⟩ := L38r (h := h) (m := m) (v := 1) hV.1.2.2.2.1 (by omega) (by omega) hV.2.2.2.2.2.2.1.2 hwr
    rw [if_pos u, if_pos u, if_pos (show ¬ (1 : Int) = 0 by decide)]
    unfold F36
    rw [b1, b2, b3, Option.bind_some, Option.bind_some, Option.bind_some]
    have fail : ∃ h' m', (F31 3 h).bind (fun r2 => if r2.1 = 0 then some (0, r2.2) else F35_0 r2.2) = some (0, h') ∧ F190_0 m = some (0, m') ∧ FT h' m' ∧ tfC h h' ∧ tfM m m' := by
      obtain ⟨h', m', a1, a2, a3, a4, a5⟩ := L31 (k := 3) hT (Or.inr (TR_at hT (by omega) (by omega)))
      refine ⟨h', m', ?_, ?_, a3, a4, a5⟩
      · rw [a1, Option.bind_some, if_pos rfl]
      · unfold F190_0
        rw [a2, Option.bind_some, zG_t (Or.inl rfl)]
    by_cases v : r1 = -1
    · rw [if_neg (show ¬ ¬ r1 = -1 from fun z => z v), if_neg (show ¬ ¬ r1 = -1 from fun z => z v), b4, Option.bind_some]
      by_cases v2 : r2 = -1
      · rw [if_pos v2, if_pos v2, Option.bind_some, if_pos rfl, zG_t ⟨s0, s1⟩]
        obtain ⟨h', m', a1, a2, a3, a4, a5⟩ := L21h (h2 := h) (m2 := mset m 20 s (m 12 0)) hT (by omega) (fun _ _ _ _ => rfl) (fun r j g => mset_ne (by omega))
        rw [a2, Option.bind_some]
        unfold F35_0
        refine Or.inl ⟨h', m', rfl, a1, rfl, a3, ?_, a4, fun r j hne => by rw [a5 r j (by omega), mset_ne (by omega)]⟩
        rw [a5 20 s (by omega), mset_eq]
        exact hwr
      · rw [if_neg v2, if_neg v2]
        unfold F36_0
        rw [Option.bind_some, if_neg (show ¬ (1 : Int) = 0 by decide)]
        exact Or.inr fail
    · rw [if_pos v, if_pos v]
      unfold F36_0
      rw [Option.bind_some, if_neg (show ¬ (1 : Int) = 0 by decide)]
      exact Or.inr fail
  · rw [if_neg u, if_neg u, if_neg (show ¬ ¬ (0 : Int) = 0 by decide)]
    obtain ⟨h', m', a1, a2, a3, a4, a5⟩ := L31 (k := 1) hT (Or.inl rfl)
    refine Or.inr ⟨h', m', ?_, ?_, a3, a4, a5⟩
    · rw [a1, Option.bind_some, zG_t (Or.inl rfl)]
    · rw [a2, Option.bind_some, zG_t (Or.inl rfl)]
/-- a person -/
theorem L_one {h : zHC} {m : zHM} (hT : TR h m) (hV : VR h 1 (m 15) (m 20)) : (∃ p, 0 ≤ p ∧ p < m 15 3 ∧ h 324 0 0 = 2 ∧ F43 1 h = some (p, h) ∧ F197 m = some (1, mset m 13 0 p)) ∨ (∃ h' m', F43 1 h = some (-1, h') ∧ F197 m = some (0, m') ∧ FT h' m' ∧ tfC h h' ∧ tfM m m') := by
  have w6 := hV.2.2.2.2.2.2.2.1
  unfold WN at w6
  unfold F43 F197
  rw [E191 hT, Option.bind_some]
  by_cases u : h 324 0 0 = 2
  · have hwr := TR_name hT u
    obtain ⟨p, b3, b4, b5⟩ := L38r (h := h) (m := m) (v := 1) hV.1.2.2.2.1 (by omega) (by omega) hV.2.2.2.2.2.2.1.2 hwr
    rw [if_pos u, if_pos u, if_pos (show ¬ (1 : Int) = 0 by decide), b3, b4, Option.bind_some, Option.bind_some]
    by_cases v : p = -1
    · obtain ⟨h', m', a1, a2, a3, a4, a5⟩ := L31 (k := 3) (TR_told (x := p) hT) (Or.inr (by rw [mset_ne (by omega)]; exact TR_at hT (by omega) (by omega)))
      rw [if_neg (fun z => z v), if_neg (fun z => z v), a1, a2, Option.bind_some, Option.bind_some, if_pos rfl]
      subst v
      exact Or.inr ⟨h', m', rfl, rfl, a3, a4, fun r j hne => by rw [a5 r j hne, mset_ne (by omega)]⟩
    · rw [if_pos v, if_pos v]
      exact Or.inl ⟨p, by omega, by omega, u, rfl, rfl⟩
  · rw [if_neg u, if_neg u, if_neg (show ¬ ¬ (0 : Int) = 0 by decide)]
    obtain ⟨h', m', a1, a2, a3, a4, a5⟩ := L31 (k := 1) hT (Or.inl rfl)
    refine Or.inr ⟨h', m', ?_, ?_, a3, a4, a5⟩
    · rw [a1, Option.bind_some]
    · rw [a2, Option.bind_some, zG_t (Or.inl rfl)]
end
section
/-! A valley's text: its lines. -/
theorem K_land {h : zHC} {m : zHM} (hI : VI h m) (k3 : h 324 0 0 = 3) : VO h m (F32 h) (F184 m) := by
  obtain ⟨hT, hf, hV, hL⟩ := hI
  have w6 := hV.2.2.2.2.2.2.2.1
  unfold WN at w6
  have e0 : h 576 1 0 = m 15 0 := hV.1.1
  unfold F32 F184
  rw [e0]
  by_cases q : m 15 0 ≤ 0
  · have q24 : m 24 0 = 0 := Classical.byContradiction (fun z => absurd (hL.mpr z) (by omega))
    rw [if_pos q, if_pos q24]
    obtain ⟨h1, m1, a1, a2, a3, a4, a5⟩ := L21h (h2 := h) (m2 := mset m 24 0 1) hT (by omega) (fun _ _ _ _ => rfl) (fun r j g => mset_ne (by omega))
    rw [a1, a2, Option.bind_some, Option.bind_some]
    rcases L_num (lo := 2) (hi := 10) a3 with ⟨b1, b2, b3, b4, b5⟩ | ⟨h', m', b1, b2, b3, b4, b5⟩
    · obtain ⟨h2, m2, c1, c2, c3, c4, c5, c6⟩ := b5 h1 (fun _ _ _ _ => rfl)
      rw [b4, c2, Option.bind_some, Option.bind_some, if_pos (show ¬ (1 : Int) = 0 by decide), if_pos (show ¬ (1 : Int) = 0 by decide)]
      dsimp only
      rw [c1, Option.bind_some]
      have t2 : TR h2 (mset m2 15 0 (m2 13 0)) := TR_keep c4 (fun _ _ _ _ => rfl) (fun r j g => mset_ne (by omega))
      rcases L_num (lo := 2) (hi := 10) t2 with ⟨d1, d2, d3, d4, d5⟩ | ⟨h', m', d1, d2, d3, d4, d5⟩
      · obtain ⟨h3, m3, g1, g2, g3, g4, g5, g6⟩ := d5 (hset (hset h2 576 1 0 (h1 326 0 0)) 577 1 0 (h2 326 0 0)) (fun r j _ _ => by rw [hset_ne (by omega), hset_ne (by omega)])
        rw [d4, g2, Option.bind_some, Option.bind_some, if_pos (show ¬ (1 : Int) = 0 by decide), if_pos (show ¬ (1 : Int) = 0 by decide)]
        dsimp only
        rw [g1, Option.bind_some]
        have fc : ∀ r n j, ¬ ((324 ≤ r ∧ r ≤ 328) ∨ ((r = 576 ∨ r = 577) ∧ n = 1 ∧ j = 0)) → h3 r n j = h r n j := fun r n j hne => by rw [g5 r n j (by omega), hset_ne (by omega), hset_ne (by omega), c5 r n j (by omega), a4 r n j (by omega)]
        have fm : ∀ r j, ¬ ((5 ≤ r ∧ r ≤ 9) ∨ r = 12 ∨ r = 13 ∨ (r = 24 ∧ j = 0) ∨ (r = 15 ∧ (j = 0 ∨ j = 1))) → (mset m3 15 1 (m3 13 0)) r j = m r j := fun r j hne => by rw [mset_ne (by omega), g6 r j (by omega), mset_ne (by omega), c6 r j (by omega), a5 r j (by omega), mset_ne (by omega)]
        have x0 : (mset m3 15 1 (m3 13 0)) 15 0 = h1 326 0 0 := by rw [mset_ne (by omega), g6 15 0 (by omega), mset_eq]; exact c3
        have x1 : (mset m3 15 1 (m3 13 0)) 15 1 = h2 326 0 0 := by rw [mset_eq]; exact g3
        have y0 : h3 576 1 0 = h1 326 0 0 := by rw [g5 576 1 0 (by omega), hset_ne (by omega), hset_eq]
        have y1 : h3 577 1 0 = h2 326 0 0 := by rw [g5 577 1 0 (by omega), hset_eq]
        have f15 : ∀ k, 2 ≤ k → (mset m3 15 1 (m3 13 0)) 15 k = m 15 k := fun k hk => fm 15 k (by omega)
        refine Or.inl ⟨h3, _, rfl, rfl, ⟨TR_keep g4 (fun _ _ _ _ => rfl) (fun r j g => mset_ne (by omega)), by rw [fc 322 0 0 (by omega), fm 10 0 (by omega)]; exact hf, ?_, ?_⟩, fun r n j hne => fc r n j (by omega), fun r j hne => fm r j (by omega), ?_⟩
        · refine VR_parts hV ⟨⟨by rw [y0, x0], by rw [y1, x1], ?_⟩, ?_⟩ (fun u v => ⟨VC_k (f15 2 (by decide)) (fun r j _ _ => fc r 1 j (by omega)) (fun k _ _ => f15 k (by omega)) u, WC_k (f15 2 (by decide)) (fun k _ _ => f15 k (by omega)) v⟩) (fun u v => ⟨VP_k (f15 3 (by decide)) (fun r j _ _ => fc r 1 j (by omega)) (fun k _ _ => f15 k (by omega)) u, WP_k (f15 3 (by decide)) (fun k _ _ => f15 k (by omega)) v⟩) (fun u v => ⟨VM_k (f15 4 (by decide)) (fun r j _ _ => fc r 1 j (by omega)) (fun k _ _ => f15 k (by omega)) u, WM_k (f15 4 (by decide)) (by rw [f15 3 (by decide)]; exact Int.le_refl _) (fun k _ _ => f15 k (by omega)) v⟩) (fun u => VF_k (f15 5 (by decide)) (fun j => fc 593 1 j (by omega)) (fun k _ _ => f15 k (by omega)) u) (fun u v => ⟨VS_k (f15 6 (by decide)) (fun r j _ _ => fc r 1 j (by omega)) (fun k _ _ => f15 k (by omega)) u, WS_k (f15 6 (by decide)) (fun k _ _ => f15 k (by omega)) v⟩) (fun u => VQ_k (f15 2 (by decide)) (f15 3 (by decide)) (fun c _ _ => ⟨fc 583 1 c (by omega), fm 20 c (by omega)⟩) (fun c _ _ => ⟨fc 587 1 c (by omega), fm 20 (6 + c) (by omega)⟩) u)
          · rw [fc 578 1 0 (by omega), fc 579 1 0 (by omega), fc 580 1 0 (by omega), fc 581 1 0 (by omega), fc 582 1 0 (by omega), f15 2 (by decide), f15 3 (by decide), f15 4 (by decide), f15 5 (by decide), f15 6 (by decide)]
            exact hV.1.2.2
          · unfold WN
            rw [x0, x1, f15 2 (by decide), f15 3 (by decide), f15 4 (by decide), f15 5 (by decide), f15 6 (by decide)]
            omega
        · rw [x0, mset_ne (by omega), g6 24 0 (by omega), mset_ne (by omega), c6 24 0 (by omega), a5 24 0 (by omega), mset_eq]
          exact ⟨fun _ => by decide, fun _ => by omega⟩
        · have x24 : (mset m3 15 1 (m3 13 0)) 24 0 = 1 := by rw [mset_ne (by omega), g6 24 0 (by omega), mset_ne (by omega), c6 24 0 (by omega), a5 24 0 (by omega), mset_eq]
          unfold zCNT
          rw [x24, q24, f15 2 (by decide), f15 3 (by decide), f15 4 (by decide), f15 5 (by decide), f15 6 (by decide), zcp_k (a' := (mset m3 15 1 (m3 13 0)) 15) (a := m 15) (p := 0) (f15 3 (by decide)) (f15 _ (by decide)), zcp_k (a' := (mset m3 15 1 (m3 13 0)) 15) (a := m 15) (p := 1) (f15 3 (by decide)) (f15 _ (by decide)), zcp_k (a' := (mset m3 15 1 (m3 13 0)) 15) (a := m 15) (p := 2) (f15 3 (by decide)) (f15 _ (by decide)), zcp_k (a' := (mset m3 15 1 (m3 13 0)) 15) (a := m 15) (p := 3) (f15 3 (by decide)) (f15 _ (by decide)), zcp_k (a' := (mset m3 15 1 (m3 13 0)) 15) (a := m 15) (p := 4) (f15 3 (by decide)) (f15 _ (by decide)), zcp_k (a' := (mset m3 15 1 (m3 13 0)) 15) (a := m 15) (p := 5) (f15 3 (by decide)) (f15 _ (by decide)), if_neg (show ¬ (1 : Int) = 0 by decide), if_pos rfl]
          omega
      · rw [d1, d2, Option.bind_some, Option.bind_some, if_neg (show ¬ ¬ (0 : Int) = 0 by decide), if_neg (show ¬ ¬ (0 : Int) = 0 by decide)]
        exact Or.inr ⟨h', m', rfl, rfl, d3, fun r n j hne => by rw [d4 r n j (by omega), c5 r n j (by omega), a4 r n j (by omega)], fun r j hne => by rw [d5 r j (by omega), mset_ne (by omega), c6 r j (by omega), a5 r j (by omega), mset_ne (by omega)]⟩
    · rw [b1, b2, Option.bind_some, Option.bind_some, if_neg (show ¬ ¬ (0 : Int) = 0 by decide), if_neg (show ¬ ¬ (0 : Int) = 0 by decide)]
      exact Or.inr ⟨h', m', rfl, rfl, b3, fun r n j hne => by rw [b4 r n j (by omega), a4 r n j (by omega)], fun r j hne => by rw [b5 r j (by omega), a5 r j (by omega), mset_ne (by omega)]⟩
  · rw [if_neg q, if_neg (hL.mp (by omega))]
    obtain ⟨h', m', a1, a2, a3, a4, a5⟩ := L31 (k := 3) hT (Or.inr (TR_at hT (by omega) (by omega)))
    rw [a1, a2, Option.bind_some, Option.bind_some, zG_t (Or.inl rfl), zG_t (Or.inl rfl)]
    exact Or.inr ⟨h', m', rfl, rfl, a3, fun r n j hne => a4 r n j (by omega), fun r j hne => a5 r j (by omega)⟩
theorem L_hasC {h : zHC} {m : zHM} {x c : Int} (e : h 578 1 0 = c) (c6 : c ≤ 6) (hC : ∀ k, 0 ≤ k → k < c → h 584 1 k = m 15 (7 + 3 * k)) (hx : m 13 0 = x) : ∀ (n n' : Nat) (k : Int), 0 ≤ k → k ≤ c → c - k < n → c - k < n' → (F40_0 h n 1 x k = some 0 ∧ ∃ q, F189_0 n' c k m = F189_0 (q + 1) c c m) ∨ (F40_0 h n 1 x k = some 1 ∧ F189_0 n' c k m = (F185 3 m).bind fun r4 => zG (r4.1 = 0 ∨ r4.1 = 1) (some (r4.1, r4.2))) := by
  intro n
  induction n with
  | zero => intro n' k k0 k1 g1 g2; omega
  | succ n ih =>
    intro n' k k0 k1 g1 g2
    cases n' with
    | zero => omega
    | succ n' =>
      by_cases u : k = c
      · subst u
        refine Or.inl ⟨?_, n', rfl⟩
        rw [F40_0, e, if_pos (Int.le_refl _)]
      · have eC : F40_0 h (n + 1) 1 x k = if ¬ h 584 1 k = x then F40_0 h n 1 x (k + 1) else some 1 := by
          rw [F40_0, e, if_neg (show ¬ c ≤ k by omega), zG_t (show 0 ≤ k ∧ k < 6 by omega), wadd_eq (x := k) (y := 1) (by omega) (by omega)]
        have eM : F189_0 (n' + 1) c k m = if ¬ m 15 (7 + 3 * k) = m 13 0 then F189_0 n' c (k + 1) m else (F185 3 m).bind fun r4 => zG (r4.1 = 0 ∨ r4.1 = 1) (some (r4.1, r4.2)) := by
          rw [F189_0, if_neg (show ¬ c ≤ k by omega), wmul_eq (x := 3) (y := k) (by omega) (by omega), wadd_eq (x := 7) (y := 3 * k) (by omega) (by omega), zG_t (show 0 ≤ 7 + 3 * k ∧ 7 + 3 * k < 209 by omega), wadd_eq (x := k) (y := 1) (by omega) (by omega)]
        rw [eC, eM, hC k k0 (by omega), hx]
        by_cases v : m 15 (7 + 3 * k) = x
        · rw [if_neg (show ¬ ¬ m 15 (7 + 3 * k) = x from fun z => z v), if_neg (show ¬ ¬ m 15 (7 + 3 * k) = x from fun z => z v)]
          exact Or.inr ⟨rfl, rfl⟩
        · rw [if_pos v, if_pos v]
          exact ih n' (k + 1) (by omega) (by omega) (by omega) (by omega)
theorem K_cliff {h : zHC} {m : zHM} (hI : VI h m) (k3 : h 324 0 0 = 3) : VO h m (F34 h) (F189 m) := by
  have big := zFu_big
  obtain ⟨hT, hf, hV, hL⟩ := hI
  have w6 := hV.2.2.2.2.2.2.2.1
  unfold WN at w6
  have e578 : h 578 1 0 = m 15 2 := hV.1.2.2.1
  obtain ⟨c, hc⟩ : ∃ c, m 15 2 = c := ⟨_, rfl⟩
  unfold F34 F189
  rw [e578, hc]
  by_cases q : c < 6
  · rw [if_pos q, if_pos (show ¬ c = 6 by omega)]
    obtain ⟨h1, m1, a1, a2, a3, a4, a5⟩ := L21h (h2 := h) (m2 := m) hT (by omega) (fun _ _ _ _ => rfl) (fun _ _ _ => rfl)
    rw [a1, a2, Option.bind_some, Option.bind_some]
    have hV1 : VR h1 1 (m1 15) (m1 20) := VR_keep (fun r j g0 g1 => a4 r 1 j (by omega)) (fun k _ _ => a5 15 k (by omega)) (fun k _ _ => a5 20 k (by omega)) hV
    rcases L_new (s := c) a3 hV1 (by omega) (by omega) with ⟨h2, m2, b1, b2, b3, b4, b5, b6, b7⟩ | ⟨h', m', b1, b2, b3, b4, b5⟩
    · rw [b1, b3, Option.bind_some, Option.bind_some, if_pos (show ¬ (1 : Int) = 0 by decide), if_neg (show ¬ (1 : Int) = 0 by decide)]
      dsimp only
      rw [b2, Option.bind_some]
      have fc2 : ∀ r n j, ¬ (324 ≤ r ∧ r ≤ 328) → h2 r n j = h r n j := fun r n j hne => by rw [b6 r n j hne, a4 r n j hne]
      have fm2 : ∀ r j, ¬ ((5 ≤ r ∧ r ≤ 9) ∨ r = 12 ∨ (r = 20 ∧ j = c)) → m2 r j = m r j := fun r j hne => by rw [b7 r j (by omega), a5 r j (by omega)]
      rcases L_cell b4 (by rw [fc2 576 1 0 (by omega), fm2 15 0 (by omega)]; exact hV.1.1) (by rw [fc2 577 1 0 (by omega), fm2 15 1 (by omega)]; exact hV.1.2.1) (by rw [fm2 15 0 (by omega)]; omega) (by rw [fm2 15 0 (by omega)]; omega) (by rw [fm2 15 1 (by omega)]; omega) (by rw [fm2 15 1 (by omega)]; omega) with ⟨x, h3, m3, x0, x1, c1, c2, c3, c4, c5, c6, c7⟩ | ⟨h', m', c1, c2, c3, c4, c5⟩
      · rw [c1, c2, Option.bind_some, Option.bind_some, if_pos (show ¬ (1 : Int) = 0 by decide)]
        dsimp only
        rw [if_pos (show ¬ x = -1 by omega)]
        have fc3 : ∀ r n j, ¬ (324 ≤ r ∧ r ≤ 328) → h3 r n j = h r n j := fun r n j hne => by rw [c6 r n j hne, fc2 r n j hne]
        have fm3 : ∀ r j, ¬ ((5 ≤ r ∧ r ≤ 9) ∨ r = 12 ∨ r = 13 ∨ (r = 20 ∧ j = c)) → m3 r j = m r j := fun r j hne => by rw [c7 r j (by omega), fm2 r j (by omega)]
        unfold F40
        rcases L_hasC (h := h3) (m := m3) (x := x) (c := c) (by rw [fc3 578 1 0 (by omega), e578, hc]) (by omega) (fun k k0 k1 => by rw [fc3 584 1 k (by omega), fm3 15 _ (by omega)]; exact (hV.2.1 k k0 (by omega)).1) c3 zFu zFu 0 (by decide) (by omega) (by omega) (by omega) with ⟨d1, p, d2⟩ | ⟨d1, d2⟩
        · rw [d1, d2, Option.bind_some, if_pos rfl, F189_0, if_pos (Int.le_refl _), wmul_eq (x := 3) (y := c) (by omega) (by omega), wadd_eq (x := 7) (by omega) (by omega), wadd_eq (x := 7 + 3 * c) (y := 1) (by omega) (by omega), wadd_eq (x := 7 + 3 * c) (y := 2) (by omega) (by omega), zG_t (show 0 ≤ 7 + 3 * c ∧ 7 + 3 * c < 209 by omega)]
          obtain ⟨h4, m4, g1, g2, g3, g4, g5⟩ := L21h (h2 := h3) (m2 := mset m3 15 (7 + 3 * c) (m3 13 0)) c5 (by omega) (fun _ _ _ _ => rfl) (fun r j g => mset_ne (by omega))
          rw [g1, g2, Option.bind_some, Option.bind_some]
          rcases L_num (lo := 1) (hi := 40) g3 with ⟨i1, i2, i3, i4, i5⟩ | ⟨h', m', i1, i2, i3, i4, i5⟩
          · obtain ⟨h5, m5, j1, j2, j3, j4, j5, j6⟩ := i5 h4 (fun _ _ _ _ => rfl)
            rw [i4, j2, Option.bind_some, Option.bind_some, if_pos (show ¬ (1 : Int) = 0 by decide), if_pos (show ¬ (1 : Int) = 0 by decide), zG_t (show 0 ≤ 7 + 3 * c + 1 ∧ 7 + 3 * c + 1 < 209 by omega)]
            dsimp only
            rw [j1, Option.bind_some]
            have t5 : TR h5 (mset m5 15 (7 + 3 * c + 1) (m5 13 0)) := TR_keep j4 (fun _ _ _ _ => rfl) (fun r j g => mset_ne (by omega))
            rcases L_num (lo := 1) (hi := 9) t5 with ⟨l1, l2, l3, l4, l5⟩ | ⟨h', m', l1, l2, l3, l4, l5⟩
            · obtain ⟨h6, m6, o1, o2, o3, o4, o5, o6⟩ := l5 (hset (hset (hset (hset (hset h5 583 1 c (h1 327 0 0)) 584 1 c x) 585 1 c (h4 326 0 0)) 586 1 c (h5 326 0 0)) 578 1 0 (c + 1)) (fun r j _ _ => by rw [hset_ne (by omega), hset_ne (by omega), hset_ne (by omega), hset_ne (by omega), hset_ne (by omega)])
              rw [l4, o2, Option.bind_some, Option.bind_some, if_pos (show ¬ (1 : Int) = 0 by decide), if_pos (show ¬ (1 : Int) = 0 by decide), zG_t (show 0 ≤ c ∧ c < 6 by omega), zG_t (show 0 ≤ c ∧ c < 6 by omega), zG_t (show 0 ≤ c ∧ c < 6 by omega), zG_t (show 0 ≤ c ∧ c < 6 by omega), zG_t (show 0 ≤ 7 + 3 * c + 2 ∧ 7 + 3 * c + 2 < 209 by omega)]
              dsimp only
              rw [wadd_eq (x := c) (y := 1) (by omega) (by omega), o1, Option.bind_some]
              have e2 : (mset m6 15 (7 + 3 * c + 2) (m6 13 0)) 15 2 = c := by rw [mset_ne (by omega), o6 15 2 (by omega), mset_ne (by omega), j6 15 2 (by omega), g5 15 2 (by omega), mset_ne (by omega), fm3 15 2 (by omega)]; exact hc
              rw [e2, wadd_eq (x := c) (y := 1) (by omega) (by omega)]
              generalize hM : mset (mset m6 15 (7 + 3 * c + 2) (m6 13 0)) 15 2 (c + 1) = M
              have fc : ∀ r n j, ¬ ((324 ≤ r ∧ r ≤ 328) ∨ (583 ≤ r ∧ r ≤ 586 ∧ n = 1 ∧ j = c) ∨ (r = 578 ∧ n = 1 ∧ j = 0)) → h6 r n j = h r n j := fun r n j hne => by rw [o5 r n j (by omega), hset_ne (by omega), hset_ne (by omega), hset_ne (by omega), hset_ne (by omega), hset_ne (by omega), j5 r n j (by omega), g4 r n j (by omega), fc3 r n j (by omega)]
              have fm : ∀ r j, ¬ ((5 ≤ r ∧ r ≤ 9) ∨ r = 12 ∨ r = 13 ∨ (r = 20 ∧ j = c) ∨ (r = 15 ∧ (j = 2 ∨ (7 + 3 * c ≤ j ∧ j ≤ 7 + 3 * c + 2)))) → M r j = m r j := fun r j hne => by rw [← hM, mset_ne (by omega), mset_ne (by omega), o6 r j (by omega), mset_ne (by omega), j6 r j (by omega), g5 r j (by omega), mset_ne (by omega), fm3 r j (by omega)]
              have f15 : ∀ k, ¬ (k = 2 ∨ (7 + 3 * c ≤ k ∧ k ≤ 7 + 3 * c + 2)) → M 15 k = m 15 k := fun k hk => fm 15 k (by omega)
              have M2 : M 15 2 = c + 1 := by rw [← hM, mset_eq]
              have Ma : M 15 (7 + 3 * c) = x := by rw [← hM, mset_ne (by omega), mset_ne (by omega), o6 15 _ (by omega), mset_ne (by omega), j6 15 _ (by omega), g5 15 _ (by omega), mset_eq]; exact c3
              have Mb : M 15 (7 + 3 * c + 1) = h4 326 0 0 := by rw [← hM, mset_ne (by omega), mset_ne (by omega), o6 15 _ (by omega), mset_eq]; exact j3
              have Mc : M 15 (7 + 3 * c + 2) = h5 326 0 0 := by rw [← hM, mset_ne (by omega), mset_eq]; exact o3
              have y578 : h6 578 1 0 = c + 1 := by rw [o5 578 1 0 (by omega), hset_eq]
              have y583 : h6 583 1 c = h1 327 0 0 := by rw [o5 583 1 c (by omega), hset_ne (by omega), hset_ne (by omega), hset_ne (by omega), hset_ne (by omega), hset_eq]
              have y584 : h6 584 1 c = x := by rw [o5 584 1 c (by omega), hset_ne (by omega), hset_ne (by omega), hset_ne (by omega), hset_eq]
              have y585 : h6 585 1 c = h4 326 0 0 := by rw [o5 585 1 c (by omega), hset_ne (by omega), hset_ne (by omega), hset_eq]
              have y586 : h6 586 1 c = h5 326 0 0 := by rw [o5 586 1 c (by omega), hset_ne (by omega), hset_eq]
              have MQ : M 20 c = m2 20 c := by rw [← hM, mset_ne (by omega), mset_ne (by omega), o6 20 c (by omega), mset_ne (by omega), j6 20 c (by omega), g5 20 c (by omega), mset_ne (by omega), c7 20 c (by omega)]
              refine Or.inl ⟨h6, M, rfl, rfl, ⟨?_, by rw [fc 322 0 0 (by omega), fm 10 0 (by omega)]; exact hf, ?_, ?_⟩, fun r n j hne => fc r n j (by omega), fun r j hne => fm r j (by omega), ?_⟩
              · rw [← hM]
                exact TR_keep o4 (fun _ _ _ _ => rfl) (fun r j g => by rw [mset_ne (by omega), mset_ne (by omega)])
              · refine VR_parts hV ⟨?_, ?_⟩ (fun u v => ⟨?_, ?_⟩) (fun u v => ⟨VP_k (f15 3 (by omega)) (fun r j _ _ => fc r 1 j (by omega)) (fun k _ _ => f15 k (by omega)) u, WP_k (f15 3 (by omega)) (fun k _ _ => f15 k (by omega)) v⟩) (fun u v => ⟨VM_k (f15 4 (by omega)) (fun r j _ _ => fc r 1 j (by omega)) (fun k _ _ => f15 k (by omega)) u, WM_k (f15 4 (by omega)) (by rw [f15 3 (by omega)]; exact Int.le_refl _) (fun k _ _ => f15 k (by omega)) v⟩) (fun u => VF_k (f15 5 (by omega)) (fun j => fc 593 1 j (by omega)) (fun k _ _ => f15 k (by omega)) u) (fun u v => ⟨VS_k (f15 6 (by omega)) (fun r j _ _ => fc r 1 j (by omega)) (fun k _ _ => f15 k (by omega)) u, WS_k (f15 6 (by omega)) (fun k _ _ => f15 k (by omega)) v⟩) (fun u => ?_)
                · unfold VN
                  rw [fc 576 1 0 (by omega), fc 577 1 0 (by omega), y578, fc 579 1 0 (by omega), fc 580 1 0 (by omega), fc 581 1 0 (by omega), fc 582 1 0 (by omega), f15 0 (by omega), f15 1 (by omega), M2, f15 3 (by omega), f15 4 (by omega), f15 5 (by omega), f15 6 (by omega)]
                  exact ⟨hV.1.1, hV.1.2.1, rfl, hV.1.2.2.2⟩
                · unfold WN
                  rw [f15 0 (by omega), f15 1 (by omega), M2, f15 3 (by omega), f15 4 (by omega), f15 5 (by omega), f15 6 (by omega)]
                  omega
                · intro k k0 k1
                  rw [M2] at k1
                  by_cases w : k = c
                  · subst w
                    rw [y584, y585, y586, Ma, Mb, Mc]
                    exact ⟨rfl, rfl, rfl⟩
                  · rw [fc 584 1 k (by omega), fc 585 1 k (by omega), fc 586 1 k (by omega), f15 (7 + 3 * k) (by omega), f15 (7 + 3 * k + 1) (by omega), f15 (7 + 3 * k + 2) (by omega)]
                    exact u k k0 (by omega)
                · intro k k0 k1
                  rw [M2] at k1
                  by_cases w : k = c
                  · subst w
                    rw [Ma, Mb, Mc]
                    omega
                  · rw [f15 (7 + 3 * k) (by omega), f15 (7 + 3 * k + 1) (by omega), f15 (7 + 3 * k + 2) (by omega)]
                    exact v k k0 (by omega)
                · constructor
                  · intro k k0 k1
                    rw [M2] at k1
                    by_cases w : k = c
                    · subst w
                      rw [y583, MQ]
                      exact b5
                    · rw [fc 583 1 k (by omega), fm 20 k (by omega)]
                      exact u.1 k k0 (by omega)
                  · intro k k0 k1
                    rw [f15 3 (by omega)] at k1
                    rw [fc 587 1 k (by omega), fm 20 (6 + k) (by omega)]
                    exact u.2 k k0 k1
              · rw [f15 0 (by omega), fm 24 0 (by omega)]
                exact hL
              · have n := zCNT_k (m := m) (M := M) (fm 24 0 (by omega)) (fun k hk => f15 k (by omega))
                rw [M2, f15 4 (by omega), f15 5 (by omega), f15 6 (by omega)] at n
                omega
            · rw [l1, l2, Option.bind_some, Option.bind_some, if_neg (show ¬ ¬ (0 : Int) = 0 by decide), if_neg (show ¬ ¬ (0 : Int) = 0 by decide)]
              exact Or.inr ⟨h', m', rfl, rfl, l3, fun r n j hne => by rw [l4 r n j (by omega), j5 r n j (by omega), g4 r n j (by omega), fc3 r n j (by omega)], fun r j hne => by rw [l5 r j (by omega), mset_ne (by omega), j6 r j (by omega), g5 r j (by omega), mset_ne (by omega), fm3 r j (by omega)]⟩
          · rw [i1, i2, Option.bind_some, Option.bind_some, if_neg (show ¬ ¬ (0 : Int) = 0 by decide), if_neg (show ¬ ¬ (0 : Int) = 0 by decide)]
            exact Or.inr ⟨h', m', rfl, rfl, i3, fun r n j hne => by rw [i4 r n j (by omega), g4 r n j (by omega), fc3 r n j (by omega)], fun r j hne => by rw [i5 r j (by omega), g5 r j (by omega), mset_ne (by omega), fm3 r j (by omega)]⟩
        · rw [d1, d2, Option.bind_some, if_neg (show ¬ (1 : Int) = 0 by decide)]
          obtain ⟨h', m', g1, g2, g3, g4, g5⟩ := L31 (k := 3) c5 (Or.inr (TR_at c5 (by omega) (by omega)))
          rw [g1, g2, Option.bind_some, Option.bind_some, zG_t (Or.inl rfl), zG_t (Or.inl rfl)]
          exact Or.inr ⟨h', m', rfl, rfl, g3, fun r n j hne => by rw [g4 r n j (by omega), fc3 r n j (by omega)], fun r j hne => by rw [g5 r j (by omega), fm3 r j (by omega)]⟩
      · rw [c1, c2, Option.bind_some, Option.bind_some, if_neg (show ¬ ¬ (0 : Int) = 0 by decide), if_neg (show ¬ ¬ (-1 : Int) = -1 by decide)]
        exact Or.inr ⟨h', m', rfl, rfl, c3, fun r n j hne => by rw [c4 r n j (by omega), fc2 r n j (by omega)], fun r j hne => by rw [c5 r j (by omega), fm2 r j (by omega)]⟩
    · rw [b1, b2, Option.bind_some, Option.bind_some, if_neg (show ¬ ¬ (0 : Int) = 0 by decide), if_pos (rfl : (0 : Int) = 0)]
      exact Or.inr ⟨h', m', rfl, rfl, b3, fun r n j hne => by rw [b4 r n j (by omega), a4 r n j (by omega)], fun r j hne => by rw [b5 r j (by omega), a5 r j (by omega)]⟩
  · rw [if_neg q, if_neg (show ¬ ¬ c = 6 by omega)]
    obtain ⟨h', m', a1, a2, a3, a4, a5⟩ := L31 (k := 4) hT (Or.inr (TR_at hT (by omega) (by omega)))
    rw [a1, a2, Option.bind_some, Option.bind_some, zG_t (Or.inl rfl), zG_t (Or.inl rfl)]
    exact Or.inr ⟨h', m', rfl, rfl, a3, fun r n j hne => a4 r n j (by omega), fun r j hne => a5 r j (by omega)⟩
end
section
/-! A valley's text: persons, moves. -/
theorem K_person {h : zHC} {m : zHM} (hI : VI h m) (k3 : h 324 0 0 = 3) : VO h m (F41 h) (F194 m) := by
  obtain ⟨hT, hf, hV, hL⟩ := hI
  have w6 := hV.2.2.2.2.2.2.2.1
  unfold WN at w6
  have e579 : h 579 1 0 = m 15 3 := hV.1.2.2.2.1
  obtain ⟨c, hc⟩ : ∃ c, m 15 3 = c := ⟨_, rfl⟩
  unfold F41 F194
  rw [e579, hc]
  by_cases q : c < 6
  · rw [if_pos q, if_pos (show ¬ c = 6 by omega), wadd_eq (x := 6) (y := c) (by omega) (by omega)]
    obtain ⟨h1, m1, a1, a2, a3, a4, a5⟩ := L21h (h2 := h) (m2 := m) hT (by omega) (fun _ _ _ _ => rfl) (fun _ _ _ => rfl)
    rw [a1, a2, Option.bind_some, Option.bind_some]
    have hV1 : VR h1 1 (m1 15) (m1 20) := VR_keep (fun r j g0 g1 => a4 r 1 j (by omega)) (fun k _ _ => a5 15 k (by omega)) (fun k _ _ => a5 20 k (by omega)) hV
    rcases L_new (s := 6 + c) a3 hV1 (by omega) (by omega) with ⟨h2, m2, b1, b2, b3, b4, b5, b6, b7⟩ | ⟨h', m', b1, b2, b3, b4, b5⟩
    · rw [b1, b3, Option.bind_some, Option.bind_some, if_pos (show ¬ (1 : Int) = 0 by decide), if_neg (show ¬ (1 : Int) = 0 by decide)]
      dsimp only
      rw [b2, Option.bind_some]
      have fc2 : ∀ r n j, ¬ (324 ≤ r ∧ r ≤ 328) → h2 r n j = h r n j := fun r n j hne => by rw [b6 r n j hne, a4 r n j hne]
      have fm2 : ∀ r j, ¬ ((5 ≤ r ∧ r ≤ 9) ∨ r = 12 ∨ (r = 20 ∧ j = 6 + c)) → m2 r j = m r j := fun r j hne => by rw [b7 r j (by omega), a5 r j (by omega)]
      unfold F195
      rcases L_cell b4 (by rw [fc2 576 1 0 (by omega), fm2 15 0 (by omega)]; exact hV.1.1) (by rw [fc2 577 1 0 (by omega), fm2 15 1 (by omega)]; exact hV.1.2.1) (by rw [fm2 15 0 (by omega)]; omega) (by rw [fm2 15 0 (by omega)]; omega) (by rw [fm2 15 1 (by omega)]; omega) (by rw [fm2 15 1 (by omega)]; omega) with ⟨x, h3, m3, x0, x1, c1, c2, c3, c4, c5, c6, c7⟩ | ⟨h', m', c1, c2, c3, c4, c5⟩
      · rw [c1, c2, Option.bind_some, Option.bind_some, if_pos (show ¬ (1 : Int) = 0 by decide)]
        dsimp only
        rw [if_pos (show ¬ x = -1 by omega), zG_t (show 0 ≤ c ∧ c < 6 by omega), zG_t (show 0 ≤ c ∧ c < 6 by omega), zG_t (show 0 ≤ c ∧ c < 6 by omega), wadd_eq (x := c) (y := 1) (by omega) (by omega)]
        have fc3 : ∀ r n j, ¬ (324 ≤ r ∧ r ≤ 328) → h3 r n j = h r n j := fun r n j hne => by rw [c6 r n j hne, fc2 r n j hne]
        have fm3 : ∀ r j, ¬ ((5 ≤ r ∧ r ≤ 9) ∨ r = 12 ∨ r = 13 ∨ (r = 20 ∧ j = 6 + c)) → m3 r j = m r j := fun r j hne => by rw [c7 r j (by omega), fm2 r j (by omega)]
        obtain ⟨h6, m6, o1, o2, o4, o5, o6⟩ := L21h (h2 := hset (hset (hset (hset h3 587 1 c (h1 327 0 0)) 588 1 c x) 589 1 c (-1)) 579 1 0 (c + 1)) (m2 := m3) c5 (by omega) (fun r j _ _ => by rw [hset_ne (by omega), hset_ne (by omega), hset_ne (by omega), hset_ne (by omega)]) (fun _ _ _ => rfl)
        rw [o1, o2, Option.bind_some, Option.bind_some, Option.bind_some, if_pos (show ¬ (1 : Int) = 0 by decide)]
        dsimp only
        rw [wmul_eq (x := 2) (y := c) (by omega) (by omega), wadd_eq (x := 25) (by omega) (by omega), wadd_eq (x := 25 + 2 * c) (y := 1) (by omega) (by omega), zG_t (by omega), zG_t (by omega)]
        have e2 : (mset (mset m6 15 (25 + 2 * c) (m6 13 0)) 15 (25 + 2 * c + 1) (-1)) 15 3 = c := by rw [mset_ne (by omega), mset_ne (by omega), o6 15 3 (by omega), fm3 15 3 (by omega)]; exact hc
        rw [e2, wadd_eq (x := c) (y := 1) (by omega) (by omega)]
        generalize hM : mset (mset (mset m6 15 (25 + 2 * c) (m6 13 0)) 15 (25 + 2 * c + 1) (-1)) 15 3 (c + 1) = M
        have fc : ∀ r n j, ¬ ((324 ≤ r ∧ r ≤ 328) ∨ (587 ≤ r ∧ r ≤ 589 ∧ n = 1 ∧ j = c) ∨ (r = 579 ∧ n = 1 ∧ j = 0)) → h6 r n j = h r n j := fun r n j hne => by rw [o5 r n j (by omega), hset_ne (by omega), hset_ne (by omega), hset_ne (by omega), hset_ne (by omega), fc3 r n j (by omega)]
        have fm : ∀ r j, ¬ ((5 ≤ r ∧ r ≤ 9) ∨ r = 12 ∨ r = 13 ∨ (r = 20 ∧ j = 6 + c) ∨ (r = 15 ∧ (j = 3 ∨ (25 + 2 * c ≤ j ∧ j ≤ 25 + 2 * c + 1)))) → M r j = m r j := fun r j hne => by rw [← hM, mset_ne (by omega), mset_ne (by omega), mset_ne (by omega), o6 r j (by omega), fm3 r j (by omega)]
        have f15 : ∀ k, ¬ (k = 3 ∨ (25 + 2 * c ≤ k ∧ k ≤ 25 + 2 * c + 1)) → M 15 k = m 15 k := fun k hk => fm 15 k (by omega)
        have M3 : M 15 3 = c + 1 := by rw [← hM, mset_eq]
        have Ma : M 15 (25 + 2 * c) = x := by rw [← hM, mset_ne (by omega), mset_ne (by omega), mset_eq, o6 13 0 (by omega)]; exact c3
        have Mb : M 15 (25 + 2 * c + 1) = -1 := by rw [← hM, mset_ne (by omega), mset_eq]
        have y579 : h6 579 1 0 = c + 1 := by rw [o5 579 1 0 (by omega), hset_eq]
        have y587 : h6 587 1 c = h1 327 0 0 := by rw [o5 587 1 c (by omega), hset_ne (by omega), hset_ne (by omega), hset_ne (by omega), hset_eq]
        have y588 : h6 588 1 c = x := by rw [o5 588 1 c (by omega), hset_ne (by omega), hset_ne (by omega), hset_eq]
        have y589 : h6 589 1 c = -1 := by rw [o5 589 1 c (by omega), hset_ne (by omega), hset_eq]
        have MQ : M 20 (6 + c) = m2 20 (6 + c) := by rw [← hM, mset_ne (by omega), mset_ne (by omega), mset_ne (by omega), o6 20 (6 + c) (by omega), c7 20 (6 + c) (by omega)]
        refine Or.inl ⟨h6, M, rfl, rfl, ⟨?_, by rw [fc 322 0 0 (by omega), fm 10 0 (by omega)]; exact hf, ?_, ?_⟩, fun r n j hne => fc r n j (by omega), fun r j hne => fm r j (by omega), ?_⟩
        · rw [← hM]
          exact TR_keep o4 (fun _ _ _ _ => rfl) (fun r j g => by rw [mset_ne (by omega), mset_ne (by omega), mset_ne (by omega)])
        · refine VR_parts hV ⟨?_, ?_⟩ (fun u v => ⟨VC_k (f15 2 (by omega)) (fun r j _ _ => fc r 1 j (by omega)) (fun k _ _ => f15 k (by omega)) u, WC_k (f15 2 (by omega)) (fun k _ _ => f15 k (by omega)) v⟩) (fun u v => ⟨?_, ?_⟩) (fun u v => ⟨VM_k (f15 4 (by omega)) (fun r j _ _ => fc r 1 j (by omega)) (fun k _ _ => f15 k (by omega)) u, WM_k (f15 4 (by omega)) (by rw [M3, hc]; omega) (fun k _ _ => f15 k (by omega)) v⟩) (fun u => VF_k (f15 5 (by omega)) (fun j => fc 593 1 j (by omega)) (fun k _ _ => f15 k (by omega)) u) (fun u v => ⟨VS_k (f15 6 (by omega)) (fun r j _ _ => fc r 1 j (by omega)) (fun k _ _ => f15 k (by omega)) u, WS_k (f15 6 (by omega)) (fun k _ _ => f15 k (by omega)) v⟩) (fun u => ?_)
          · unfold VN
            rw [fc 576 1 0 (by omega), fc 577 1 0 (by omega), y579, fc 578 1 0 (by omega), fc 580 1 0 (by omega), fc 581 1 0 (by omega), fc 582 1 0 (by omega), f15 0 (by omega), f15 1 (by omega), M3, f15 2 (by omega), f15 4 (by omega), f15 5 (by omega), f15 6 (by omega)]
            exact ⟨hV.1.1, hV.1.2.1, hV.1.2.2.1, rfl, hV.1.2.2.2.2⟩
          · unfold WN
            rw [f15 0 (by omega), f15 1 (by omega), M3, f15 2 (by omega), f15 4 (by omega), f15 5 (by omega), f15 6 (by omega)]
            omega
          · intro k k0 k1
            rw [M3] at k1
            by_cases w : k = c
            · subst w
              rw [y588, y589, Ma, Mb]
              exact ⟨rfl, rfl⟩
            · rw [fc 588 1 k (by omega), fc 589 1 k (by omega), f15 (25 + 2 * k) (by omega), f15 (25 + 2 * k + 1) (by omega)]
              exact u k k0 (by omega)
          · intro k k0 k1
            rw [M3] at k1
            by_cases w : k = c
            · subst w
              rw [Ma, Mb]
              omega
            · rw [f15 (25 + 2 * k) (by omega), f15 (25 + 2 * k + 1) (by omega)]
              exact v k k0 (by omega)
          · constructor
            · intro k k0 k1
              rw [f15 2 (by omega)] at k1
              rw [fc 583 1 k (by omega), fm 20 k (by omega)]
              exact u.1 k k0 k1
            · intro k k0 k1
              rw [M3] at k1
              by_cases w : k = c
              · subst w
                rw [y587, MQ]
                exact b5
              · rw [fc 587 1 k (by omega), fm 20 (6 + k) (by omega)]
                exact u.2 k k0 (by omega)
        · rw [f15 0 (by omega), fm 24 0 (by omega)]
          exact hL
        · have z : ∀ p, 0 ≤ p → p < 6 → zcp (M 15) p = zcp (m 15) p := by
            intro p p0 p1
            unfold zcp
            rw [M3, hc]
            by_cases w : p = c
            · subst w
              rw [Mb, if_neg (fun z => z.2 rfl), if_neg (fun z => Int.lt_irrefl _ z.1)]
            · rw [f15 (25 + 2 * p + 1) (by omega)]
              by_cases w2 : p < c ∧ ¬ m 15 (25 + 2 * p + 1) = -1
              · rw [if_pos w2, if_pos ⟨by omega, w2.2⟩]
              · rw [if_neg w2, if_neg (fun z => w2 ⟨by omega, z.2⟩)]
          unfold zCNT
          rw [fm 24 0 (by omega), M3, f15 2 (by omega), f15 4 (by omega), f15 5 (by omega), f15 6 (by omega), z 0 (by decide) (by decide), z 1 (by decide) (by decide), z 2 (by decide) (by decide), z 3 (by decide) (by decide), z 4 (by decide) (by decide), z 5 (by decide) (by decide)]
          omega
      · rw [c1, c2, Option.bind_some, Option.bind_some, if_neg (show ¬ ¬ (0 : Int) = 0 by decide), Option.bind_some, if_neg (show ¬ ¬ (0 : Int) = 0 by decide), if_neg (show ¬ ¬ (-1 : Int) = -1 by decide)]
        exact Or.inr ⟨h', m', rfl, rfl, c3, fun r n j hne => by rw [c4 r n j (by omega), fc2 r n j (by omega)], fun r j hne => by rw [c5 r j (by omega), fm2 r j (by omega)]⟩
    · rw [b1, b2, Option.bind_some, Option.bind_some, if_neg (show ¬ ¬ (0 : Int) = 0 by decide), if_pos (rfl : (0 : Int) = 0)]
      exact Or.inr ⟨h', m', rfl, rfl, b3, fun r n j hne => by rw [b4 r n j (by omega), a4 r n j (by omega)], fun r j hne => by rw [b5 r j (by omega), a5 r j (by omega)]⟩
  · rw [if_neg q, if_neg (show ¬ ¬ c = 6 by omega)]
    obtain ⟨h', m', a1, a2, a3, a4, a5⟩ := L31 (k := 4) hT (Or.inr (TR_at hT (by omega) (by omega)))
    rw [a1, a2, Option.bind_some, Option.bind_some, zG_t (Or.inl rfl), zG_t (Or.inl rfl)]
    exact Or.inr ⟨h', m', rfl, rfl, a3, fun r n j hne => a4 r n j (by omega), fun r j hne => a5 r j (by omega)⟩
theorem L_hasM {h : zHC} {m : zHM} {p x c : Int} (e : h 580 1 0 = c) (c20 : c < 20) (hC : ∀ k, 0 ≤ k → k < c → h 591 1 k = m 15 (37 + 3 * k) ∧ h 590 1 k = m 15 (37 + 3 * k + 1)) (hp : m 15 (37 + 3 * c) = p) (hx : m 13 0 = x) : ∀ (n n' : Nat) (k : Int), 0 ≤ k → k ≤ c → c - k < n → c - k < n' → (F44_0 h n 1 p x k = some 0 ∧ ∃ q, F196_0 n' c k m = F196_0 (q + 1) c c m) ∨ (F44_0 h n 1 p x k = some 1 ∧ F196_0 n' c k m = (F185 3 m).bind fun r4 => zG (r4.1 = 0 ∨ r4.1 = 1) (some (r4.1, r4.2))) := by
  intro n
  induction n with
  | zero => intro n' k k0 k1 g1 g2; omega
  | succ n ih =>
    intro n' k k0 k1 g1 g2
    cases n' with
    | zero => omega
    | succ n' =>
      by_cases u : k = c
      · subst u
        refine Or.inl ⟨?_, n', rfl⟩
        rw [F44_0, e, if_pos (Int.le_refl _)]
      · have eC : F44_0 h (n + 1) 1 p x k = if ¬ h 591 1 k = p then F44_0 h n 1 p x (k + 1) else if ¬ h 590 1 k = x then F44_0 h n 1 p x (k + 1) else some 1 := by
          rw [F44_0, e, if_neg (show ¬ c ≤ k by omega), zG_t (show 0 ≤ k ∧ k < 20 by omega), zG_t (show 0 ≤ k ∧ k < 20 by omega)]
          unfold F44_1
          rw [wadd_eq (x := k) (y := 1) (by omega) (by omega)]
        have eM : F196_0 (n' + 1) c k m = if ¬ m 15 (37 + 3 * k) = m 15 (37 + 3 * c) then F196_0 n' c (k + 1) m else if ¬ m 15 (37 + 3 * k + 1) = m 13 0 then F196_0 n' c (k + 1) m else (F185 3 m).bind fun r4 => zG (r4.1 = 0 ∨ r4.1 = 1) (some (r4.1, r4.2)) := by
          rw [F196_0, if_neg (show ¬ c ≤ k by omega), wmul_eq (x := 3) (y := k) (by omega) (by omega), wmul_eq (x := 3) (y := c) (by omega) (by omega), wadd_eq (x := 37) (y := 3 * k) (by omega) (by omega), wadd_eq (x := 37) (y := 3 * c) (by omega) (by omega), wadd_eq (x := 37 + 3 * k) (y := 1) (by omega) (by omega), zG_t (show 0 ≤ 37 + 3 * k ∧ 37 + 3 * k < 209 by omega), zG_t (show 0 ≤ 37 + 3 * c ∧ 37 + 3 * c < 209 by omega), zG_t (show 0 ≤ 37 + 3 * k + 1 ∧ 37 + 3 * k + 1 < 209 by omega)]
          unfold F196_1
          rw [wadd_eq (x := k) (y := 1) (by omega) (by omega)]
        rw [eC, eM, (hC k k0 (by omega)).1, (hC k k0 (by omega)).2, hx, hp]
        have go := ih n' (k + 1) (by omega) (by omega) (by omega) (by omega)
        by_cases v : m 15 (37 + 3 * k) = p
        · rw [if_neg (show ¬ ¬ m 15 (37 + 3 * k) = p from fun z => z v), if_neg (show ¬ ¬ m 15 (37 + 3 * k) = p from fun z => z v)]
          by_cases v2 : m 15 (37 + 3 * k + 1) = x
          · rw [if_neg (show ¬ ¬ m 15 (37 + 3 * k + 1) = x from fun z => z v2), if_neg (show ¬ ¬ m 15 (37 + 3 * k + 1) = x from fun z => z v2)]
            exact Or.inr ⟨rfl, rfl⟩
          · rw [if_pos v2, if_pos v2]
            exact go
        · rw [if_pos v, if_pos v]
          exact go
theorem K_move {h : zHC} {m : zHM} (hI : VI h m) (k3 : h 324 0 0 = 3) : VO h m (F42 h) (F196 m) := by
  have big := zFu_big
  obtain ⟨hT, hf, hV, hL⟩ := hI
  have w6 := hV.2.2.2.2.2.2.2.1
  unfold WN at w6
  have e580 : h 580 1 0 = m 15 4 := hV.1.2.2.2.2.1
  obtain ⟨c, hc⟩ : ∃ c, m 15 4 = c := ⟨_, rfl⟩
  unfold F42 F196
  rw [e580, hc]
  by_cases q : c < 20
  · rw [if_pos q, if_pos (show ¬ c = 20 by omega), wmul_eq (x := 3) (y := c) (by omega) (by omega), wadd_eq (x := 37) (y := 3 * c) (by omega) (by omega)]
    obtain ⟨h1, m1, a1, a2, a3, a4, a5⟩ := L21h (h2 := h) (m2 := m) hT (by omega) (fun _ _ _ _ => rfl) (fun _ _ _ => rfl)
    rw [a1, a2, Option.bind_some, Option.bind_some]
    have hV1 : VR h1 1 (m1 15) (m1 20) := VR_keep (fun r j g0 g1 => a4 r 1 j (by omega)) (fun k _ _ => a5 15 k (by omega)) (fun k _ _ => a5 20 k (by omega)) hV
    rcases L_one a3 hV1 with ⟨p, p0, p1, b1, b2, b3⟩ | ⟨h', m', b1, b2, b3, b4, b5⟩
    · rw [a5 15 3 (by omega)] at p1
      rw [b2, b3, Option.bind_some, Option.bind_some, if_pos (show ¬ (1 : Int) = 0 by decide)]
      dsimp only
      rw [if_pos (show ¬ p = -1 by omega), zG_t (show 0 ≤ 37 + 3 * c ∧ 37 + 3 * c < 209 by omega), mset_eq]
      obtain ⟨h2, m2, c1, c2, c3, c4, c5⟩ := L21h (h2 := h1) (m2 := mset (mset m1 13 0 p) 15 (37 + 3 * c) p) a3 (by omega) (fun _ _ _ _ => rfl) (fun r j g => by rw [mset_ne (by omega), mset_ne (by omega)])
      rw [c1, c2, Option.bind_some, Option.bind_some]
      have fc2 : ∀ r n j, ¬ (324 ≤ r ∧ r ≤ 328) → h2 r n j = h r n j := fun r n j hne => by rw [c4 r n j hne, a4 r n j hne]
      have fm2 : ∀ r j, ¬ ((5 ≤ r ∧ r ≤ 9) ∨ r = 12 ∨ r = 13 ∨ (r = 15 ∧ j = 37 + 3 * c)) → m2 r j = m r j := fun r j hne => by rw [c5 r j (by omega), mset_ne (by omega), mset_ne (by omega), a5 r j (by omega)]
      have m2p : m2 15 (37 + 3 * c) = p := by rw [c5 15 _ (by omega), mset_eq]
      rcases L33 (lo := 1) (hi := 200) c3 with ⟨d1, d2, d3, d4, d5, d6⟩ | ⟨h', m', d1, d2, d3, d4, d5⟩
      · rw [d5, d6, Option.bind_some, Option.bind_some, if_pos (show ¬ (1 : Int) = 0 by decide), if_pos (show ¬ (1 : Int) = 0 by decide)]
        dsimp only
        obtain ⟨x, hx⟩ : ∃ x, m2 8 0 = x := ⟨_, rfl⟩
        rw [d4, hx]
        rw [hx] at d2 d3
        unfold F44
        have hm3 : ∀ r j, ¬ (r = 13 ∧ j = 0) → (mset m2 13 0 x) r j = m2 r j := fun r j hne => mset_ne hne
        rcases L_hasM (h := h2) (m := mset m2 13 0 x) (x := x) (p := p) (c := c) (by rw [fc2 580 1 0 (by omega), e580, hc]) q (fun k k0 k1 => by rw [fc2 591 1 k (by omega), fc2 590 1 k (by omega), hm3 15 _ (by omega), hm3 15 _ (by omega), fm2 15 _ (by omega), fm2 15 _ (by omega)]; exact ⟨(hV.2.2.2.1 k k0 (by omega)).1, (hV.2.2.2.1 k k0 (by omega)).2.1⟩) (by rw [hm3 15 _ (by omega)]; exact m2p) mset_eq zFu zFu 0 (by decide) (by omega) (by omega) (by omega) with ⟨s1, y, s2⟩ | ⟨s1, s2⟩
        · rw [s1, s2, Option.bind_some, if_pos rfl, F196_0, if_pos (Int.le_refl _), wmul_eq (x := 3) (y := c) (by omega) (by omega), wadd_eq (x := 37) (by omega) (by omega), wadd_eq (x := 37 + 3 * c) (y := 1) (by omega) (by omega), wadd_eq (x := 37 + 3 * c) (y := 2) (by omega) (by omega), zG_t (show 0 ≤ 37 + 3 * c + 1 ∧ 37 + 3 * c + 1 < 209 by omega), mset_eq]
          obtain ⟨h4, m4, g1, g2, g3, g4, g5⟩ := L21h (h2 := h2) (m2 := mset (mset m2 13 0 x) 15 (37 + 3 * c + 1) x) c3 (by omega) (fun _ _ _ _ => rfl) (fun r j g => by rw [mset_ne (by omega), mset_ne (by omega)])
          rw [g1, g2, Option.bind_some, Option.bind_some]
          have fc4 : ∀ r n j, ¬ (324 ≤ r ∧ r ≤ 328) → h4 r n j = h r n j := fun r n j hne => by rw [g4 r n j hne, fc2 r n j hne]
          have fm4 : ∀ r j, ¬ ((5 ≤ r ∧ r ≤ 9) ∨ r = 12 ∨ r = 13 ∨ (r = 15 ∧ (j = 37 + 3 * c ∨ j = 37 + 3 * c + 1))) → m4 r j = m r j := fun r j hne => by rw [g5 r j (by omega), mset_ne (by omega), mset_ne (by omega), fm2 r j (by omega)]
          unfold F195
          rcases L_cell g3 (by rw [fc4 576 1 0 (by omega), fm4 15 0 (by omega)]; exact hV.1.1) (by rw [fc4 577 1 0 (by omega), fm4 15 1 (by omega)]; exact hV.1.2.1) (by rw [fm4 15 0 (by omega)]; omega) (by rw [fm4 15 0 (by omega)]; omega) (by rw [fm4 15 1 (by omega)]; omega) (by rw [fm4 15 1 (by omega)]; omega) with ⟨z, h5, m5, z0, z1, i1, i2, i3, i4, i5, i6, i7⟩ | ⟨h', m', i1, i2, i3, i4, i5⟩
          · rw [i1, i2, Option.bind_some, Option.bind_some, if_pos (show ¬ (1 : Int) = 0 by decide)]
            dsimp only
            rw [if_pos (show ¬ z = -1 by omega), zG_t (show 0 ≤ c ∧ c < 20 by omega), zG_t (show 0 ≤ c ∧ c < 20 by omega), zG_t (show 0 ≤ c ∧ c < 20 by omega), wadd_eq (x := c) (y := 1) (by omega) (by omega)]
            obtain ⟨h6, m6, o1, o2, o4, o5, o6⟩ := L21h (h2 := hset (hset (hset (hset h5 591 1 c p) 590 1 c x) 592 1 c z) 580 1 0 (c + 1)) (m2 := m5) i5 (by omega) (fun r j _ _ => by rw [hset_ne (by omega), hset_ne (by omega), hset_ne (by omega), hset_ne (by omega)]) (fun _ _ _ => rfl)
            rw [o1, o2, Option.bind_some, Option.bind_some, Option.bind_some, if_pos (show ¬ (1 : Int) = 0 by decide), zG_t (show 0 ≤ 37 + 3 * c + 2 ∧ 37 + 3 * c + 2 < 209 by omega)]
            dsimp only
            have e2 : (mset m6 15 (37 + 3 * c + 2) (m6 13 0)) 15 4 = c := by rw [mset_ne (by omega), o6 15 4 (by omega), i7 15 4 (by omega), fm4 15 4 (by omega)]; exact hc
            rw [e2, wadd_eq (x := c) (y := 1) (by omega) (by omega)]
            generalize hM : mset (mset m6 15 (37 + 3 * c + 2) (m6 13 0)) 15 4 (c + 1) = M
            have fc : ∀ r n j, ¬ ((324 ≤ r ∧ r ≤ 328) ∨ (590 ≤ r ∧ r ≤ 592 ∧ n = 1 ∧ j = c) ∨ (r = 580 ∧ n = 1 ∧ j = 0)) → h6 r n j = h r n j := fun r n j hne => by rw [o5 r n j (by omega), hset_ne (by omega), hset_ne (by omega), hset_ne (by omega), hset_ne (by omega), i6 r n j (by omega), fc4 r n j (by omega)]
            have fm : ∀ r j, ¬ ((5 ≤ r ∧ r ≤ 9) ∨ r = 12 ∨ r = 13 ∨ (r = 15 ∧ (j = 4 ∨ (37 + 3 * c ≤ j ∧ j ≤ 37 + 3 * c + 2)))) → M r j = m r j := fun r j hne => by rw [← hM, mset_ne (by omega), mset_ne (by omega), o6 r j (by omega), i7 r j (by omega), fm4 r j (by omega)]
            have f15 : ∀ k, ¬ (k = 4 ∨ (37 + 3 * c ≤ k ∧ k ≤ 37 + 3 * c + 2)) → M 15 k = m 15 k := fun k hk => fm 15 k (by omega)
            have M4 : M 15 4 = c + 1 := by rw [← hM, mset_eq]
            have Ma : M 15 (37 + 3 * c) = p := by rw [← hM, mset_ne (by omega), mset_ne (by omega), o6 15 _ (by omega), i7 15 _ (by omega), g5 15 _ (by omega), mset_ne (by omega), mset_ne (by omega)]; exact m2p
            have Mb : M 15 (37 + 3 * c + 1) = x := by rw [← hM, mset_ne (by omega), mset_ne (by omega), o6 15 _ (by omega), i7 15 _ (by omega), g5 15 _ (by omega), mset_eq]
            have Mc : M 15 (37 + 3 * c + 2) = z := by rw [← hM, mset_ne (by omega), mset_eq, o6 13 0 (by omega)]; exact i3
            have y580 : h6 580 1 0 = c + 1 := by rw [o5 580 1 0 (by omega), hset_eq]
            have y591 : h6 591 1 c = p := by rw [o5 591 1 c (by omega), hset_ne (by omega), hset_ne (by omega), hset_ne (by omega), hset_eq]
            have y590 : h6 590 1 c = x := by rw [o5 590 1 c (by omega), hset_ne (by omega), hset_ne (by omega), hset_eq]
            have y592 : h6 592 1 c = z := by rw [o5 592 1 c (by omega), hset_ne (by omega), hset_eq]
            refine Or.inl ⟨h6, M, rfl, rfl, ⟨?_, by rw [fc 322 0 0 (by omega), fm 10 0 (by omega)]; exact hf, ?_, ?_⟩, fun r n j hne => fc r n j (by omega), fun r j hne => fm r j (by omega), ?_⟩
            · rw [← hM]
              exact TR_keep o4 (fun _ _ _ _ => rfl) (fun r j g => by rw [mset_ne (by omega), mset_ne (by omega)])
            · refine VR_parts hV ⟨?_, ?_⟩ (fun u v => ⟨VC_k (f15 2 (by omega)) (fun r j _ _ => fc r 1 j (by omega)) (fun k _ _ => f15 k (by omega)) u, WC_k (f15 2 (by omega)) (fun k _ _ => f15 k (by omega)) v⟩) (fun u v => ⟨VP_k (f15 3 (by omega)) (fun r j _ _ => fc r 1 j (by omega)) (fun k _ _ => f15 k (by omega)) u, WP_k (f15 3 (by omega)) (fun k _ _ => f15 k (by omega)) v⟩) (fun u v => ⟨?_, ?_⟩) (fun u => VF_k (f15 5 (by omega)) (fun j => fc 593 1 j (by omega)) (fun k _ _ => f15 k (by omega)) u) (fun u v => ⟨VS_k (f15 6 (by omega)) (fun r j _ _ => fc r 1 j (by omega)) (fun k _ _ => f15 k (by omega)) u, WS_k (f15 6 (by omega)) (fun k _ _ => f15 k (by omega)) v⟩) (fun u => VQ_k (f15 2 (by omega)) (f15 3 (by omega)) (fun c _ _ => ⟨fc 583 1 c (by omega), fm 20 c (by omega)⟩) (fun c _ _ => ⟨fc 587 1 c (by omega), fm 20 (6 + c) (by omega)⟩) u)
              · unfold VN
                rw [fc 576 1 0 (by omega), fc 577 1 0 (by omega), y580, fc 578 1 0 (by omega), fc 579 1 0 (by omega), fc 581 1 0 (by omega), fc 582 1 0 (by omega), f15 0 (by omega), f15 1 (by omega), M4, f15 2 (by omega), f15 3 (by omega), f15 5 (by omega), f15 6 (by omega)]
                exact ⟨hV.1.1, hV.1.2.1, hV.1.2.2.1, hV.1.2.2.2.1, rfl, hV.1.2.2.2.2.2⟩
              · unfold WN
                rw [f15 0 (by omega), f15 1 (by omega), M4, f15 2 (by omega), f15 3 (by omega), f15 5 (by omega), f15 6 (by omega)]
                omega
              · intro k k0 k1
                rw [M4] at k1
                by_cases w : k = c
                · subst w
                  rw [y591, y590, y592, Ma, Mb, Mc]
                  exact ⟨rfl, rfl, rfl⟩
                · rw [fc 591 1 k (by omega), fc 590 1 k (by omega), fc 592 1 k (by omega), f15 (37 + 3 * k) (by omega), f15 (37 + 3 * k + 1) (by omega), f15 (37 + 3 * k + 2) (by omega)]
                  exact u k k0 (by omega)
              · intro k k0 k1
                rw [M4] at k1
                rw [f15 3 (by omega)]
                by_cases w : k = c
                · subst w
                  rw [Ma, Mb, Mc]
                  omega
                · rw [f15 (37 + 3 * k) (by omega), f15 (37 + 3 * k + 1) (by omega), f15 (37 + 3 * k + 2) (by omega)]
                  exact v k k0 (by omega)
            · rw [f15 0 (by omega), fm 24 0 (by omega)]
              exact hL
            · have n := zCNT_k (m := m) (M := M) (fm 24 0 (by omega)) (fun k hk => f15 k (by omega))
              rw [M4, f15 2 (by omega), f15 5 (by omega), f15 6 (by omega)] at n
              omega
          · rw [i1, i2, Option.bind_some, Option.bind_some, if_neg (show ¬ ¬ (0 : Int) = 0 by decide), Option.bind_some, if_neg (show ¬ ¬ (0 : Int) = 0 by decide), if_neg (show ¬ ¬ (-1 : Int) = -1 by decide)]
            exact Or.inr ⟨h', m', rfl, rfl, i3, fun r n j hne => by rw [i4 r n j (by omega), fc4 r n j (by omega)], fun r j hne => by rw [i5 r j (by omega), fm4 r j (by omega)]⟩
        · rw [s1, s2, Option.bind_some, if_neg (show ¬ (1 : Int) = 0 by decide)]
          obtain ⟨h', m', g1, g2, g3, g4, g5⟩ := L31 (k := 3) (TR_told (x := x) c3) (Or.inr (by rw [mset_ne (by omega)]; exact TR_at c3 (by omega) (by omega)))
          rw [g1, g2, Option.bind_some, Option.bind_some, zG_t (Or.inl rfl), zG_t (Or.inl rfl)]
          exact Or.inr ⟨h', m', rfl, rfl, g3, fun r n j hne => by rw [g4 r n j (by omega), fc2 r n j (by omega)], fun r j hne => by rw [g5 r j (by omega), mset_ne (by omega), fm2 r j (by omega)]⟩
      · rw [d1, d2, Option.bind_some, Option.bind_some, if_neg (show ¬ ¬ (0 : Int) = 0 by decide), if_neg (show ¬ ¬ (0 : Int) = 0 by decide)]
        exact Or.inr ⟨h', m', rfl, rfl, d3, fun r n j hne => by rw [d4 r n j (by omega), fc2 r n j (by omega)], fun r j hne => by rw [d5 r j (by omega), fm2 r j (by omega)]⟩
    · rw [b1, b2, Option.bind_some, Option.bind_some, if_neg (show ¬ ¬ (0 : Int) = 0 by decide), if_neg (show ¬ ¬ (-1 : Int) = -1 by decide)]
      exact Or.inr ⟨h', m', rfl, rfl, b3, fun r n j hne => by rw [b4 r n j (by omega), a4 r n j (by omega)], fun r j hne => by rw [b5 r j (by omega), a5 r j (by omega)]⟩
  · rw [if_neg q, if_neg (show ¬ ¬ c = 20 by omega)]
    obtain ⟨h', m', a1, a2, a3, a4, a5⟩ := L31 (k := 4) hT (Or.inr (TR_at hT (by omega) (by omega)))
    rw [a1, a2, Option.bind_some, Option.bind_some, zG_t (Or.inl rfl), zG_t (Or.inl rfl)]
    exact Or.inr ⟨h', m', rfl, rfl, a3, fun r n j hne => a4 r n j (by omega), fun r j hne => a5 r j (by omega)⟩
end
