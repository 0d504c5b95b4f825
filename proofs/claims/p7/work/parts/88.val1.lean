/-! A valley's text: what is kept when one thing is told more. -/
theorem VC_k {h h' : zHC} {i : Int} {a a' : Int → Int} (e2 : a' 2 = a 2) (hh : ∀ r j, 584 ≤ r → r ≤ 586 → h' r i j = h r i j) (ha : ∀ k, 7 ≤ k → k < 7 + 3 * a 2 → a' k = a k) (hV : VC h i a) : VC h' i a' := by
  intro c c0 c1
  rw [e2] at c1
  rw [hh 584 c (by decide) (by decide), hh 585 c (by decide) (by decide), hh 586 c (by decide) (by decide), ha (7 + 3 * c) (by omega) (by omega), ha (7 + 3 * c + 1) (by omega) (by omega), ha (7 + 3 * c + 2) (by omega) (by omega)]
  exact hV c c0 c1
theorem VP_k {h h' : zHC} {i : Int} {a a' : Int → Int} (e3 : a' 3 = a 3) (hh : ∀ r j, 588 ≤ r → r ≤ 589 → h' r i j = h r i j) (ha : ∀ k, 25 ≤ k → k < 25 + 2 * a 3 → a' k = a k) (hV : VP h i a) : VP h' i a' := by
  intro c c0 c1
  rw [e3] at c1
  rw [hh 588 c (by decide) (by decide), hh 589 c (by decide) (by decide), ha (25 + 2 * c) (by omega) (by omega), ha (25 + 2 * c + 1) (by omega) (by omega)]
  exact hV c c0 c1
theorem VM_k {h h' : zHC} {i : Int} {a a' : Int → Int} (e4 : a' 4 = a 4) (hh : ∀ r j, 590 ≤ r → r ≤ 592 → h' r i j = h r i j) (ha : ∀ k, 37 ≤ k → k < 37 + 3 * a 4 → a' k = a k) (hV : VM h i a) : VM h' i a' := by
  intro c c0 c1
  rw [e4] at c1
  rw [hh 590 c (by decide) (by decide), hh 591 c (by decide) (by decide), hh 592 c (by decide) (by decide), ha (37 + 3 * c) (by omega) (by omega), ha (37 + 3 * c + 1) (by omega) (by omega), ha (37 + 3 * c + 2) (by omega) (by omega)]
  exact hV c c0 c1
theorem VF_k {h h' : zHC} {i : Int} {a a' : Int → Int} (e5 : a' 5 = a 5) (hh : ∀ j, h' 593 i j = h 593 i j) (ha : ∀ k, 97 ≤ k → k < 197 → a' k = a k) (hV : VF h i a) : VF h' i a' := by
  intro x x0 x1
  rw [e5, ha (97 + x) (by omega) (by omega)]
  refine (hV x x0 x1).trans ?_
  constructor
  · rintro ⟨k, k0, k1, k2⟩
    exact ⟨k, k0, k1, by rw [hh]; exact k2⟩
  · rintro ⟨k, k0, k1, k2⟩
    exact ⟨k, k0, k1, by rw [← hh]; exact k2⟩
theorem VS_k {h h' : zHC} {i : Int} {a a' : Int → Int} (e6 : a' 6 = a 6) (hh : ∀ r j, 594 ≤ r → r ≤ 595 → h' r i j = h r i j) (ha : ∀ k, 197 ≤ k → k < 197 + 2 * a 6 → a' k = a k) (hV : VS h i a) : VS h' i a' := by
  intro c c0 c1
  rw [e6] at c1
  rw [hh 594 c (by decide) (by decide), hh 595 c (by decide) (by decide), ha (197 + 2 * c) (by omega) (by omega), ha (197 + 2 * c + 1) (by omega) (by omega)]
  exact hV c c0 c1
theorem VQ_k {h h' : zHC} {i : Int} {a a' nm nm' : Int → Int} (e2 : a' 2 = a 2) (e3 : a' 3 = a 3) (h1 : ∀ c, 0 ≤ c → c < a 2 → h' 583 i c = h 583 i c ∧ nm' c = nm c) (h2 : ∀ p, 0 ≤ p → p < a 3 → h' 587 i p = h 587 i p ∧ nm' (6 + p) = nm (6 + p)) (hV : VQ h i a nm) : VQ h' i a' nm' := by
  constructor
  · intro c c0 c1
    rw [e2] at c1
    rw [(h1 c c0 c1).1, (h1 c c0 c1).2]
    exact hV.1 c c0 c1
  · intro c c0 c1
    rw [e3] at c1
    rw [(h2 c c0 c1).1, (h2 c c0 c1).2]
    exact hV.2 c c0 c1
theorem WC_k {a a' : Int → Int} (e2 : a' 2 = a 2) (ha : ∀ k, 7 ≤ k → k < 7 + 3 * a 2 → a' k = a k) (hV : WC a) : WC a' := by
  intro c c0 c1
  rw [e2] at c1
  rw [ha (7 + 3 * c) (by omega) (by omega), ha (7 + 3 * c + 1) (by omega) (by omega), ha (7 + 3 * c + 2) (by omega) (by omega)]
  exact hV c c0 c1
theorem WP_k {a a' : Int → Int} (e3 : a' 3 = a 3) (ha : ∀ k, 25 ≤ k → k < 25 + 2 * a 3 → a' k = a k) (hV : WP a) : WP a' := by
  intro c c0 c1
  rw [e3] at c1
  rw [ha (25 + 2 * c) (by omega) (by omega), ha (25 + 2 * c + 1) (by omega) (by omega)]
  exact hV c c0 c1
theorem WM_k {a a' : Int → Int} (e4 : a' 4 = a 4) (e3 : a 3 ≤ a' 3) (ha : ∀ k, 37 ≤ k → k < 37 + 3 * a 4 → a' k = a k) (hV : WM a) : WM a' := by
  intro c c0 c1
  rw [e4] at c1
  have w := hV c c0 c1
  rw [ha (37 + 3 * c) (by omega) (by omega), ha (37 + 3 * c + 1) (by omega) (by omega), ha (37 + 3 * c + 2) (by omega) (by omega)]
  exact ⟨w.1, by omega, w.2.2⟩
theorem WS_k {a a' : Int → Int} (e6 : a' 6 = a 6) (ha : ∀ k, 197 ≤ k → k < 197 + 2 * a 6 → a' k = a k) (hV : WS a) : WS a' := by
  intro c c0 c1
  rw [e6] at c1
  obtain ⟨w1, w2, w3, w4, w5⟩ := hV c c0 c1
  rw [ha (197 + 2 * c) (by omega) (by omega), ha (197 + 2 * c + 1) (by omega) (by omega)]
  refine ⟨w1, w2, w3, w4, fun j j0 j1 => ?_⟩
  rw [ha (197 + 2 * j) (by omega) (by omega)]
  exact w5 j j0 j1
/-- a whole valley built up, one component new -/
theorem VR_parts {h h' : zHC} {i : Int} {a a' nm nm' : Int → Int} (hV : VR h i a nm) (hN : VN h' i a' ∧ WN a') (hC : VC h i a → WC a → VC h' i a' ∧ WC a') (hP : VP h i a → WP a → VP h' i a' ∧ WP a') (hM : VM h i a → WM a → VM h' i a' ∧ WM a') (hF : VF h i a → VF h' i a') (hS : VS h i a → WS a → VS h' i a' ∧ WS a') (hQ : VQ h i a nm → VQ h' i a' nm') : VR h' i a' nm' := by
  obtain ⟨-, b2, b3, b4, b5, b6, b7, -, c2, c3, c4, c5⟩ := hV
  exact ⟨hN.1, (hC b2 c2).1, (hP b3 c3).1, (hM b4 c4).1, hF b5, (hS b6 c5).1, hQ b7, hN.2, (hC b2 c2).2, (hP b3 c3).2, (hM b4 c4).2, (hS b6 c5).2⟩
/-! what a line of the text may change -/
def vfC (h h' : zHC) : Prop := ∀ r n j, ¬ ((322 ≤ r ∧ r ≤ 328) ∨ (576 ≤ r ∧ r ≤ 595 ∧ n = 1)) → h' r n j = h r n j
def vlC (h h' : zHC) : Prop := ∀ r n j, ¬ ((322 ≤ r ∧ r ≤ 328) ∨ r = 641 ∨ (576 ≤ r ∧ r ≤ 595 ∧ n = 1)) → h' r n j = h r n j
def vfM (m m' : zHM) : Prop := ∀ r j, ¬ ((5 ≤ r ∧ r ≤ 13) ∨ r = 15 ∨ r = 20 ∨ r = 24) → m' r j = m r j
def tsC (h h' : zHC) : Prop := ∀ r n j, ¬ (324 ≤ r ∧ r ≤ 328) → h' r n j = h r n j
def tsM (m m' : zHM) : Prop := ∀ r j, ¬ ((5 ≤ r ∧ r ≤ 9) ∨ r = 12 ∨ r = 13) → m' r j = m r j
theorem tsC_trans {h h' h'' : zHC} (a : tsC h h') (b : tsC h' h'') : tsC h h'' := fun r n j hne => by rw [b r n j hne, a r n j hne]
theorem tsM_trans {m m' m'' : zHM} (a : tsM m m') (b : tsM m' m'') : tsM m m'' := fun r j hne => by rw [b r j hne, a r j hne]
def VI (h : zHC) (m : zHM) : Prop := TR h m ∧ h 322 0 0 = m 10 0 ∧ VR h 1 (m 15) (m 20) ∧ (0 < m 15 0 ↔ ¬ m 24 0 = 0)
/-- how many lines were told, counted by what they told -/
def zcp (a : Int → Int) (p : Int) : Int := if p < a 3 ∧ ¬ a (25 + 2 * p + 1) = -1 then 1 else 0
def zCNT (m : zHM) : Int := (if m 24 0 = 0 then 0 else 1) + (m 15 2 + m 15 3 + m 15 4 + m 15 5 + m 15 6) + (zcp (m 15) 0 + zcp (m 15) 1 + zcp (m 15) 2 + zcp (m 15) 3 + zcp (m 15) 4 + zcp (m 15) 5)
theorem zcp_k {a a' : Int → Int} {p : Int} (e3 : a' 3 = a 3) (e : a' (25 + 2 * p + 1) = a (25 + 2 * p + 1)) : zcp a' p = zcp a p := by
  unfold zcp
  rw [e3, e]
theorem zcp_01 {a : Int → Int} {p : Int} : 0 ≤ zcp a p ∧ zcp a p ≤ 1 := by
  unfold zcp
  split <;> omega
theorem zCNT_k {m M : zHM} (e24 : M 24 0 = m 24 0) (ha : ∀ k, (k = 3 ∨ (25 ≤ k ∧ k ≤ 36)) → M 15 k = m 15 k) : zCNT M + (m 15 2 + m 15 4 + m 15 5 + m 15 6) = zCNT m + (M 15 2 + M 15 4 + M 15 5 + M 15 6) := by
  unfold zCNT
  rw [e24, ha 3 (by omega), zcp_k (a' := M 15) (a := m 15) (p := 0) (ha 3 (by omega)) (ha _ (by omega)), zcp_k (a' := M 15) (a := m 15) (p := 1) (ha 3 (by omega)) (ha _ (by omega)), zcp_k (a' := M 15) (a := m 15) (p := 2) (ha 3 (by omega)) (ha _ (by omega)), zcp_k (a' := M 15) (a := m 15) (p := 3) (ha 3 (by omega)) (ha _ (by omega)), zcp_k (a' := M 15) (a := m 15) (p := 4) (ha 3 (by omega)) (ha _ (by omega)), zcp_k (a' := M 15) (a := m 15) (p := 5) (ha 3 (by omega)) (ha _ (by omega))]
  omega
theorem zCNT_le {m : zHM} (w : WN (m 15)) : zCNT m ≤ 53 := by
  have a0 := (zcp_01 (a := m 15) (p := 0)).2
  have a1 := (zcp_01 (a := m 15) (p := 1)).2
  have a2 := (zcp_01 (a := m 15) (p := 2)).2
  have a3 := (zcp_01 (a := m 15) (p := 3)).2
  have a4 := (zcp_01 (a := m 15) (p := 4)).2
  have a5 := (zcp_01 (a := m 15) (p := 5)).2
  unfold WN at w
  unfold zCNT
  split <;> omega
def VO (h : zHC) (m : zHM) (x : Option (Int × zHC)) (y : Option (Int × zHM)) : Prop := (∃ h' m', x = some (1, h') ∧ y = some (1, m') ∧ VI h' m' ∧ vfC h h' ∧ vfM m m' ∧ zCNT m' = zCNT m + 1) ∨ (∃ h' m', x = some (0, h') ∧ y = some (0, m') ∧ FT h' m' ∧ vfC h h' ∧ vfM m m')
theorem TR_at {h : zHC} {m : zHM} (hT : TR h m) (hk : ¬ h 324 0 0 = 0) (hb : ¬ h 324 0 0 = 1) : ¬ m 7 0 = 1 := by
  obtain ⟨-, hk2, -, -⟩ := hT
  rcases hk2 with ⟨a, b, c⟩ | ⟨a, b, c⟩ | ⟨a, c⟩ | ⟨a, c, -⟩ | ⟨a, c, -⟩ | ⟨a, c, -⟩ | ⟨a, c, -⟩ <;> omega
theorem TR_name {h : zHC} {m : zHM} (hT : TR h m) (hk : h 324 0 0 = 2) : WR (h 327 0 0) (m 12 0) := by
  obtain ⟨-, hk2, -, -⟩ := hT
  rcases hk2 with ⟨a, b, c⟩ | ⟨a, b, c⟩ | ⟨a, c⟩ | ⟨a, c, d, -⟩ | ⟨a, c, -⟩ | ⟨a, c, -⟩ | ⟨a, c, -⟩
  · omega
  · omega
  · omega
  · exact d
  · omega
  · omega
  · omega
/-- a token passed, where the class's heap has changed elsewhere -/
theorem L21h {h h2 : zHC} {m m2 : zHM} (hT : TR h m) (hk : ¬ h 324 0 0 = 0) (f1 : ∀ r j, 320 ≤ r → r ≤ 330 → h2 r 0 j = h r 0 j) (f2 : ∀ r j, (r = 1 ∨ (3 ≤ r ∧ r ≤ 9) ∨ r = 12) → m2 r j = m r j) : ∃ h' m', F21 h2 = some h' ∧ F176 m2 = some m' ∧ TR h' m' ∧ tsC h2 h' ∧ (∀ r j, ¬ ((5 ≤ r ∧ r ≤ 9) ∨ r = 12) → m' r j = m2 r j) :=
  L21 (TR_keep hT f1 f2) (by rw [f1 324 0 (by decide) (by decide)]; exact hk)
theorem L_num {h : zHC} {m : zHM} {lo hi : Int} (hT : TR h m) : (h 324 0 0 = 4 ∧ lo ≤ h 326 0 0 ∧ h 326 0 0 ≤ hi ∧ F33 lo hi h = some (1, h) ∧ ∀ h2 : zHC, (∀ r j, 320 ≤ r → r ≤ 330 → h2 r 0 j = h r 0 j) → ∃ h' m', F21 h2 = some h' ∧ F186 lo hi m = some (1, m') ∧ m' 13 0 = h 326 0 0 ∧ TR h' m' ∧ tsC h2 h' ∧ tsM m m') ∨ (∃ h' m', F33 lo hi h = some (0, h') ∧ F186 lo hi m = some (0, m') ∧ FT h' m' ∧ tfC h h' ∧ tfM m m') := by
  unfold F186
  rcases L33 (lo := lo) (hi := hi) hT with ⟨d1, d2, d3, d4, d5, d6⟩ | ⟨h', m', d1, d2, d3, d4, d5⟩
  · refine Or.inl ⟨d1, by omega, by omega, d5, fun h2 f => ?_⟩
    obtain ⟨h', m', a1, a2, a3, a4, a5⟩ := L21h (TR_told (x := m 8 0) hT) (by omega) f (fun _ _ _ => rfl)
    rw [d6, Option.bind_some, if_pos (show ¬ (1 : Int) = 0 by decide)]
    dsimp only
    rw [a2, Option.bind_some]
    exact ⟨h', m', a1, rfl, by rw [a5 13 0 (by omega), mset_eq]; exact d4.symm, a3, a4, fun r j hne => by rw [a5 r j (by omega), mset_ne (by omega)]⟩
  · refine Or.inr ⟨h', m', d1, ?_, d3, d4, d5⟩
    rw [d2, Option.bind_some, if_neg (show ¬ ¬ (0 : Int) = 0 by decide)]
/-- a cell -/
theorem L_cell {h : zHC} {m : zHM} (hT : TR h m) (e0 : h 576 1 0 = m 15 0) (e1 : h 577 1 0 = m 15 1) (g0 : 0 ≤ m 15 0) (g1 : m 15 0 ≤ 10) (g2 : 0 ≤ m 15 1) (g3 : m 15 1 ≤ 10) : (∃ x h' m', 0 ≤ x ∧ x < 100 ∧ F39 h = some (x, h') ∧ F193 m = some (1, m') ∧ m' 13 0 = x ∧ h' 324 0 0 = 4 ∧ TR h' m' ∧ tsC h h' ∧ tsM m m') ∨ (∃ h' m', F39 h = some (-1, h') ∧ F193 m = some (0, m') ∧ FT h' m' ∧ tfC h h' ∧ tfM m m') := by
  unfold F39 F193
  rw [e0, wsub_eq (by omega) (by omega)]
  rcases L_num (lo := 0) (hi := m 15 0 - 1) hT with ⟨a1, a2, a3, a4, a5⟩ | ⟨h', m', a1, a2, a3, a4, a5⟩
  · obtain ⟨h1, m1, b1, b2, b3, b4, b5, b6⟩ := a5 h (fun _ _ _ _ => rfl)
    rw [a4, b2, Option.bind_some, Option.bind_some, if_pos (show ¬ (1 : Int) = 0 by decide), if_pos (show ¬ (1 : Int) = 0 by decide)]
    dsimp only
    rw [b1, Option.bind_some, b5 577 1 0 (by omega), b6 15 1 (by omega), e1, wsub_eq (by omega) (by omega)]
    rcases L33 (lo := 0) (hi := m 15 1 - 1) b4 with ⟨d1, d2, d3, d4, d5, d6⟩ | ⟨h', m', d1, d2, d3, d4, d5⟩
    · rw [d5, d6, Option.bind_some, Option.bind_some, if_neg (show ¬ (1 : Int) = 0 by decide), if_pos (show ¬ (1 : Int) = 0 by decide)]
      dsimp only
      rw [mset_eq, b3, d4, wmul_eq (by omega) (by omega), wmul_eq (by omega) (by omega), wadd_eq (by omega) (by omega), wadd_eq (by omega) (by omega)]
      refine Or.inl ⟨m1 8 0 * 10 + h 326 0 0, h1, _, by omega, by omega, rfl, rfl, ?_, d1, TR_told (TR_told b4), b5, fun r j hne => ?_⟩
      · rw [mset_eq]; omega
      · rw [mset_ne (by omega), mset_ne (by omega), b6 r j hne]
    · rw [d1, d2, Option.bind_some, Option.bind_some, if_pos rfl, if_neg (show ¬ ¬ (0 : Int) = 0 by decide)]
      exact Or.inr ⟨h', m', rfl, rfl, d3, fun r n j hne => by rw [d4 r n j hne, b5 r n j (by omega)], fun r j hne => by rw [d5 r j hne, b6 r j (by omega)]⟩
  · rw [a1, a2, Option.bind_some, Option.bind_some, if_neg (show ¬ ¬ (0 : Int) = 0 by decide), if_neg (show ¬ ¬ (0 : Int) = 0 by decide)]
    exact Or.inr ⟨h', m', rfl, rfl, a3, a4, a5⟩
/-- names looked for -/
theorem L37r {h : zHC} {m : zHM} {v w w' : Int} (e2 : h 578 v 0 = m 15 2) (n0 : 0 ≤ m 15 2) (n1 : m 15 2 ≤ 6) (hQ : ∀ c, 0 ≤ c → c < m 15 2 → WR (h 583 v c) (m 20 c)) (hw : WR w w') : ∃ r, F37 v w h = some r ∧ F192 0 (m 15 2) w' m = some r := by
  have key : ∀ (n n' : Nat) (p : Int), 0 ≤ p → p ≤ m 15 2 → m 15 2 - p < n → m 15 2 - p < n' → ∃ r, F37_0 h n v w p = some r ∧ F192_0 m n' 0 (m 15 2) w' p = some r := by
    intro n
    induction n with
    | zero => intro n' p p0 p1 g1 g2; omega
    | succ n ih =>
      intro n' p p0 p1 g1 g2
      cases n' with
      | zero => omega
      | succ n' =>
        rw [F37_0, F192_0, e2]
        by_cases e : m 15 2 ≤ p
        · rw [if_pos e, if_pos e]
          exact ⟨-1, rfl, rfl⟩
        · have ep : wadd p 1 = p + 1 := wadd_eq (by omega) (by omega)
          rw [if_neg e, if_neg e, wadd_eq (x := 0) (by omega) (by omega), zG_t (by omega), zG_t (by omega), ep, show (0 : Int) + p = p by omega]
          have hi := WR_iff (hQ p p0 (by omega)) hw
          by_cases q : m 20 p = w'
          · rw [if_neg (fun z => z (qcmp_0.mpr (hi.mpr q))), if_neg (fun z => z (qcmp_0.mpr q))]
            exact ⟨p, rfl, rfl⟩
          · rw [if_pos (fun z => q (hi.mp (qcmp_0.mp z))), if_pos (fun z => q (qcmp_0.mp z))]
            exact ih n' (p + 1) (by omega) (by omega) (by omega) (by omega)
  have big := zFu_big
  exact key zFu zFu 0 (by decide) n0 (by omega) (by omega)
theorem L38r {h : zHC} {m : zHM} {v w w' : Int} (e3 : h 579 v 0 = m 15 3) (n0 : 0 ≤ m 15 3) (n1 : m 15 3 ≤ 6) (hQ : ∀ p, 0 ≤ p → p < m 15 3 → WR (h 587 v p) (m 20 (6 + p))) (hw : WR w w') : ∃ r, F38 v w h = some r ∧ F192 6 (m 15 3) w' m = some r ∧ (r = -1 ∨ 0 ≤ r ∧ r < m 15 3) := by
  have key : ∀ (n n' : Nat) (p : Int), 0 ≤ p → p ≤ m 15 3 → m 15 3 - p < n → m 15 3 - p < n' → ∃ r, F38_0 h n v w p = some r ∧ F192_0 m n' 6 (m 15 3) w' p = some r ∧ (r = -1 ∨ 0 ≤ r ∧ r < m 15 3) := by
    intro n
    induction n with
    | zero => intro n' p p0 p1 g1 g2; omega
    | succ n ih =>
      intro n' p p0 p1 g1 g2
      cases n' with
      | zero => omega
      | succ n' =>
        rw [F38_0, F192_0, e3]
        by_cases e : m 15 3 ≤ p
        · rw [if_pos e, if_pos e]
          exact ⟨-1, rfl, rfl, Or.inl rfl⟩
        · have ep : wadd p 1 = p + 1 := wadd_eq (by omega) (by omega)
          rw [if_neg e, if_neg e, wadd_eq (x := 6) (by omega) (by omega), zG_t (by omega), zG_t (by omega), ep]
          have hi := WR_iff (hQ p p0 (by omega)) hw
          by_cases q : m 20 (6 + p) = w'
          · rw [if_neg (fun z => z (qcmp_0.mpr (hi.mpr q))), if_neg (fun z => z (qcmp_0.mpr q))]
            exact ⟨p, rfl, rfl, Or.inr ⟨p0, by omega⟩⟩
          · rw [if_pos (fun z => q (hi.mp (qcmp_0.mp z))), if_pos (fun z => q (qcmp_0.mp z))]
            exact ih n' (p + 1) (by omega) (by omega) (by omega) (by omega)
  have big := zFu_big
  exact key zFu zFu 0 (by decide) n0 (by omega) (by omega)
/-- a new name -/
theorem L_new {h : zHC} {m : zHM} {s : Int} (hT : TR h m) (hV : VR h 1 (m 15) (m 20)) (s0 : 0 ≤ s) (s1 : s < 12) : (∃ h' m', F35 h = some (1, h) ∧ F21 h = some h' ∧ F190 s m = some (1, m') ∧ TR h' m' ∧ WR (h 327 0 0) (m' 20 s) ∧ tsC h h' ∧ (∀ r j, ¬ ((5 ≤ r ∧ r ≤ 9) ∨ r = 12 ∨ (r = 20 ∧ j = s)) → m' r j = m r j)) ∨ (∃ h' m', F35 h = some (0, h') ∧ F190 s m = some (0, m') ∧ FT h' m' ∧ tfC h h' ∧ tfM m m') := by
  have w6 := hV.2.2.2.2.2.2.2.1
  unfold WN at w6
  unfold F35 F190
  rw [E191 hT, Option.bind_some]
  by_cases u : h 324 0 0 = 2
  · have hwr := TR_name hT u
    obtain ⟨r1, b1, b2⟩ := L37r (h := h) (m := m) (v := 1) hV.1.2.2.1 (by omega) (by omega) hV.2.2.2.2.2.2.1.1 hwr
    obtain ⟨r2, b3, b4, -⟩ := L38r (h := h) (m := m) (v := 1) hV.1.2.2.2.1 (by omega) (by omega) hV.2.2.2.2.2.2.1.2 hwr
    rw [if_pos u, if_pos u, if_pos (show ¬ (1 : Int) = 0 by decide)]
    unfold F36
    rw [b1, b2, b3, Option.bind_some, Option.bind_some, Option.bind_some]
    have fail : ∃ h' m', (F31 3 h).bind (fun r2 => if r2.1 = 0 then some (0, r2.2) else F35_0 r2.2) = some (0, h') ∧ F190_0 m = some (0, m') ∧ FT h' m' ∧ tfC h h' ∧ tfM m m' := by
      obtain ⟨h', m', a1, a2, a3, a4, a5⟩ := L31 (k := 3) hT (Or.inr (TR_at hT (by omega) (by omega)))
      refine ⟨h', m', ?_, ?_, a3, a4, a5⟩
      · rw [a1, Option.bind_some, if_pos rfl]
      · unfold F190_0
        rw [a2, Option.bind_some, zG_t (Or.inl rfl)]
    by_cases v : r1 = -1
    · rw [if_neg (show ¬ ¬ r1 = -1 from fun z => z v), if_neg (show ¬ ¬ r1 = -1 from fun z => z v), b4, Option.bind_some]
      by_cases v2 : r2 = -1
      · rw [if_pos v2, if_pos v2, Option.bind_some, if_pos rfl, zG_t ⟨s0, s1⟩]
        obtain ⟨h', m', a1, a2, a3, a4, a5⟩ := L21h (h2 := h) (m2 := mset m 20 s (m 12 0)) hT (by omega) (fun _ _ _ _ => rfl) (fun r j g => mset_ne (by omega))
        rw [a2, Option.bind_some]
        unfold F35_0
        refine Or.inl ⟨h', m', rfl, a1, rfl, a3, ?_, a4, fun r j hne => by rw [a5 r j (by omega), mset_ne (by omega)]⟩
        rw [a5 20 s (by omega), mset_eq]
        exact hwr
      · rw [if_neg v2, if_neg v2]
        unfold F36_0
        rw [Option.bind_some, if_neg (show ¬ (1 : Int) = 0 by decide)]
        exact Or.inr fail
    · rw [if_pos v, if_pos v]
      unfold F36_0
      rw [Option.bind_some, if_neg (show ¬ (1 : Int) = 0 by decide)]
      exact Or.inr fail
  · rw [if_neg u, if_neg u, if_neg (show ¬ ¬ (0 : Int) = 0 by decide)]
    obtain ⟨h', m', a1, a2, a3, a4, a5⟩ := L31 (k := 1) hT (Or.inl rfl)
    refine Or.inr ⟨h', m', ?_, ?_, a3, a4, a5⟩
    · rw [a1, Option.bind_some, zG_t (Or.inl rfl)]
    · rw [a2, Option.bind_some, zG_t (Or.inl rfl)]
/-- a person -/
theorem L_one {h : zHC} {m : zHM} (hT : TR h m) (hV : VR h 1 (m 15) (m 20)) : (∃ p, 0 ≤ p ∧ p < m 15 3 ∧ h 324 0 0 = 2 ∧ F43 1 h = some (p, h) ∧ F197 m = some (1, mset m 13 0 p)) ∨ (∃ h' m', F43 1 h = some (-1, h') ∧ F197 m = some (0, m') ∧ FT h' m' ∧ tfC h h' ∧ tfM m m') := by
  have w6 := hV.2.2.2.2.2.2.2.1
  unfold WN at w6
  unfold F43 F197
  rw [E191 hT, Option.bind_some]
  by_cases u : h 324 0 0 = 2
  · have hwr := TR_name hT u
    obtain ⟨p, b3, b4, b5⟩ := L38r (h := h) (m := m) (v := 1) hV.1.2.2.2.1 (by omega) (by omega) hV.2.2.2.2.2.2.1.2 hwr
    rw [if_pos u, if_pos u, if_pos (show ¬ (1 : Int) = 0 by decide), b3, b4, Option.bind_some, Option.bind_some]
    by_cases v : p = -1
    · obtain ⟨h', m', a1, a2, a3, a4, a5⟩ := L31 (k := 3) (TR_told (x := p) hT) (Or.inr (by rw [mset_ne (by omega)]; exact TR_at hT (by omega) (by omega)))
      rw [if_neg (fun z => z v), if_neg (fun z => z v), a1, a2, Option.bind_some, Option.bind_some, if_pos rfl]
      subst v
      exact Or.inr ⟨h', m', rfl, rfl, a3, a4, fun r j hne => by rw [a5 r j hne, mset_ne (by omega)]⟩
    · rw [if_pos v, if_pos v]
      exact Or.inl ⟨p, by omega, by omega, u, rfl, rfl⟩
  · rw [if_neg u, if_neg u, if_neg (show ¬ ¬ (0 : Int) = 0 by decide)]
    obtain ⟨h', m', a1, a2, a3, a4, a5⟩ := L31 (k := 1) hT (Or.inl rfl)
    refine Or.inr ⟨h', m', ?_, ?_, a3, a4, a5⟩
    · rw [a1, Option.bind_some]
    · rw [a2, Option.bind_some, zG_t (Or.inl rfl)]
