section
/-! The whole relation between class and model. -/
def kwl : List (List Int) := [[4, 14, 1, 12], [6, 6, 9, 12, 3], [14, 15, 19, 18, 5, 16], [5, 22, 15, 13], [16, 13, 1, 3], [20, 12, 5, 6], [23, 15, 14, 19], [19, 14, 23, 15], [4, 9, 1, 19], [4, 18, 1, 5, 8], [18, 15], [4, 14, 1], [20, 15, 14], [20, 19, 15, 12], [20, 14, 9, 15, 10], [6, 15], [25, 2], [8, 20, 18, 15, 23], [4, 21, 15, 12], [18, 21, 15, 8], [19, 5, 15, 8, 3, 5]]
def kw (j : Int) : List Int := kwl.getD j.toNat []
/-- a sentence as steps -/
def zEx1 (f : Int → Int → Int → Bool) (t : Int × Int × Int) (stk : List Bool) : List Bool :=
  if t.1 = 12 then (match stk with
    | b :: r => (!b) :: r
    | [] => [f t.1 t.2.1 t.2.2])
  else if t.1 = 11 then (match stk with
    | b :: c :: r => (c && b) :: r
    | s => f t.1 t.2.1 t.2.2 :: s)
  else if t.1 = 10 then (match stk with
    | b :: c :: r => (c || b) :: r
    | s => f t.1 t.2.1 t.2.2 :: s)
  else f t.1 t.2.1 t.2.2 :: stk
def zEx (f : Int → Int → Int → Bool) (P : List (Int × Int × Int)) (stk : List Bool) : List Bool := P.foldl (fun s t => zEx1 f t s) stk
def zCl (c : Int → Int) : Nat → List (Int × Int × Int)
  | 0 => []
  | n + 1 => zCl c n ++ [(c (n * 3), c (n * 3 + 1), c (n * 3 + 2))]
/-- a sentence as a tree of nodes -/
def zEv (nd : Int → Int) (f : Int → Int → Int → Bool) : Nat → Int → Option Bool
  | 0, _ => none
  | n + 1, k => if 0 ≤ k ∧ k < 60 then (if nd (4 * k) = 1 then (zEv nd f n (nd (4 * k + 1))).bind fun b => some (!b) else if nd (4 * k) = 2 then (zEv nd f n (nd (4 * k + 1))).bind fun b => (zEv nd f n (nd (4 * k + 2))).bind fun c => some (b && c) else if nd (4 * k) = 3 then (zEv nd f n (nd (4 * k + 1))).bind fun b => (zEv nd f n (nd (4 * k + 2))).bind fun c => some (b || c) else if 63 ≤ nd (4 * k) ∧ nd (4 * k) ≤ 70 ∧ (nd (4 * k) ≤ 66 → nd (4 * k + 2) = 0) ∧ (67 ≤ nd (4 * k) → nd (4 * k + 1) = 0 ∧ 60 ≤ nd (4 * k + 3) ∧ nd (4 * k + 3) ≤ 62) then some (f (nd (4 * k) - 50) (nd (4 * k + 3)) (nd (4 * k + 1) + nd (4 * k + 2))) else none) else none
def RSn (h : zHC) (i : Int) (a : Int → Int) : Prop := 0 ≤ h 384 i 0 ∧ (h 384 i 0 = 0 ↔ a 1898 = 0) ∧ 0 ≤ h 385 i 0 ∧ h 385 i 0 ≤ 40 ∧ (¬ h 384 i 0 = 0 → ∀ f, ∃ b, zEx f (zCl (h 386 i) (h 385 i 0).toNat) [] = [b] ∧ zEv (fun k => a (1900 + k)) f 64 (a 1899) = some b)
theorem zCl_cong {c c' : Int → Int} {n : Nat} (h : ∀ j : Int, 0 ≤ j → j < 3 * n → c' j = c j) : zCl c' n = zCl c n := by
  induction n with
  | zero => rfl
  | succ n ih =>
    unfold zCl
    rw [ih (fun j h0 h1 => h j h0 (by omega)), h (n * 3) (by omega) (by omega), h (n * 3 + 1) (by omega) (by omega), h (n * 3 + 2) (by omega) (by omega)]
theorem zEv_cong {nd nd' : Int → Int} {f : Int → Int → Int → Bool} (h : ∀ j, 0 ≤ j → j < 240 → nd' j = nd j) : ∀ (n : Nat) (k : Int), zEv nd' f n k = zEv nd f n k := by
  intro n
  induction n with
  | zero => intro k; rfl
  | succ n ih =>
    intro k
    rw [zEv, zEv]
    by_cases q : 0 ≤ k ∧ k < 60
    · rw [if_pos q, if_pos q, h (4 * k) (by omega) (by omega), h (4 * k + 1) (by omega) (by omega), h (4 * k + 2) (by omega) (by omega), h (4 * k + 3) (by omega) (by omega), ih, ih]
    · rw [if_neg q, if_neg q]
theorem RSn_cong {h h' : zHC} {i i' : Int} {a a' : Int → Int} (h0 : h' 384 i' 0 = h 384 i 0) (h1 : h' 385 i' 0 = h 385 i 0) (h2 : ∀ j, 0 ≤ j → j < 3 * h 385 i 0 → h' 386 i' j = h 386 i j) (ha : ∀ j, 1898 ≤ j → j < 2140 → a' j = a j) (hR : RSn h i a) : RSn h' i' a' := by
  obtain ⟨r1, r2, r3, r4, r5⟩ := hR
  unfold RSn
  rw [h0, h1, ha 1898 (by decide) (by decide), ha 1899 (by decide) (by decide)]
  refine ⟨r1, r2, r3, r4, fun q f => ?_⟩
  obtain ⟨b, e1, e2⟩ := r5 q f
  refine ⟨b, ?_, ?_⟩
  · rw [zCl_cong (c := h 386 i) (fun j j0 j1 => h2 j j0 (by omega))]
    exact e1
  · rw [zEv_cong (nd := fun k => a (1900 + k)) (fun j j0 j1 => ha _ (by omega) (by omega))]
    exact e2
def RTp (hc : zHC) (hm : zHM) : Prop := hc 321 0 0 = hm 2 0 ∧ 0 ≤ hm 2 0 ∧ hm 2 0 ≤ 940 ∧ (∀ i, 0 ≤ i → i < 940 → hc 320 0 i = hm 1 i ∧ 0 ≤ hm 1 i ∧ hm 1 i ≤ 255) ∧ hc 322 0 0 = hm 10 0
def zSnap (m : zHM) (j : Int) : Int → Int := fun k => if k < 209 then m 14 k else m 17 (1689 * j + k - 209)
def RUn (hc : zHC) (hm : zHM) : Prop := hc 512 0 0 = hm 23 0 ∧ 0 ≤ hm 23 0 ∧ hm 23 0 ≤ 8 ∧ 0 ≤ hc 513 0 0 ∧ hc 513 0 0 < 8 ∧ ∀ j, 0 ≤ j → j < hm 23 0 → CR hc (2 + (hc 513 0 0 + j) % 8) (zSnap hm j)
def RIm (hc : zHC) (hm : zHM) : Prop := ∀ k, 0 ≤ k → k < 2 → hc 192 k 0 = hm 22 k ∧ (hm 22 k = 0 ∨ hm 22 k = 1) ∧ (hm 22 k = 1 → VR hc (2 + k) (fun j => hm 16 (2140 * k + j)) (fun j => hm 21 (12 * k + j)) ∧ CR hc (10 + k) (fun j => hm 16 (2140 * k + j)) ∧ RSn hc (2 + k) (fun j => hm 16 (2140 * k + j)))
def RPc (hc : zHC) (hm : zHM) : Prop := 0 ≤ hc 256 0 0 ∧ hc 256 0 0 < 1000000 ∧ hm 35 0 = (if hc 256 0 0 < 50 then hc 256 0 0 else 50) ∧ ∀ j, 0 ≤ j → j < hm 35 0 → hc 257 0 j = hm 29 j
def RSt (hc : zHC) (hm : zHM) : Prop := hc 719 0 0 = hm 41 0 ∧ hc 720 0 0 = hm 41 1
def RWr (hc : zHC) (hm : zHM) : Prop := hc 718 0 0 = hm 44 0 ∧ 0 ≤ hm 44 0 ∧ hm 44 0 ≤ 96 ∧ ∀ j, 0 ≤ j → j < hm 44 0 → hc 717 0 j = hm 42 j
def RKw (hc : zHC) : Prop := ∀ j, 0 ≤ j → j < 21 → hc 330 0 j = zPk 32 (kw j)
def RVC (hc : zHC) (hm : zHM) : Prop := VR hc 0 (hm 14) (hm 19) ∧ CR hc 0 (hm 14)
def RG (hc : zHC) (hm : zHM) : Prop := RTp hc hm ∧ RVC hc hm ∧ RUn hc hm ∧ RIm hc hm ∧ RSn hc 0 (hm 14) ∧ RPc hc hm ∧ RSt hc hm ∧ RWr hc hm ∧ RKw hc
/-! what each part looks at -/
theorem RTp_keep {hc hc' : zHC} {hm hm' : zHM} (h1 : ∀ r j, 320 ≤ r → r ≤ 322 → hc' r 0 j = hc r 0 j) (h2 : ∀ r j, (r = 1 ∨ r = 2 ∨ r = 10) → hm' r j = hm r j) (h : RTp hc hm) : RTp hc' hm' := by
  obtain ⟨a1, a2, a3, a4, a5⟩ := h
  unfold RTp
  rw [h1 321 0 (by decide) (by decide), h1 322 0 (by decide) (by decide), h2 2 0 (by decide), h2 10 0 (by decide)]
  refine ⟨a1, a2, a3, fun i i0 i1 => ?_, a5⟩
  rw [h1 320 i (by decide) (by decide), h2 1 i (by decide)]
  exact a4 i i0 i1
theorem VR_n {h : zHC} {i : Int} {a nm : Int → Int} (h : VR h i a nm) : a 3 ≤ 6 := by
  have := h.2.2.2.2.2.2.2.1
  unfold WN at this
  omega
theorem RVC_keep {hc hc' : zHC} {hm hm' : zHM} (h1 : ∀ r j, ((64 ≤ r ∧ r ≤ 72) ∨ (576 ≤ r ∧ r ≤ 595)) → hc' r 0 j = hc r 0 j) (h2 : ∀ j, 0 ≤ j → j < 1898 → hm' 14 j = hm 14 j) (h3 : ∀ j, hm' 19 j = hm 19 j) (h : RVC hc hm) : RVC hc' hm' := by
  obtain ⟨a1, a2⟩ := h
  exact ⟨VR_keep (fun r j g0 g1 => h1 r j (by omega)) (fun k g0 g1 => h2 k g0 (by omega)) (fun k _ _ => h3 k) a1, CR_keep (fun r j g0 g1 => h1 r j (by omega)) (fun j g0 g1 => h2 j (by omega) g1) (h2 2 (by decide) (by decide)) (h2 3 (by decide) (by decide)) (VR_n a1) a2⟩
theorem RUn_keep {hc hc' : zHC} {hm hm' : zHM} (h1 : ∀ r n j, ((64 ≤ r ∧ r ≤ 72 ∧ 2 ≤ n ∧ n ≤ 9) ∨ r = 512 ∨ r = 513) → hc' r n j = hc r n j) (h2 : ∀ j, 0 ≤ j → j < 209 → hm' 14 j = hm 14 j) (h3 : ∀ r j, (r = 17 ∨ r = 23) → hm' r j = hm r j) (h6 : hm 14 3 ≤ 6) (h : RUn hc hm) : RUn hc' hm' := by
  obtain ⟨a1, a2, a3, a4, a5, a6⟩ := h
  unfold RUn
  rw [h1 512 0 0 (by omega), h1 513 0 0 (by omega), h3 23 0 (by decide)]
  refine ⟨a1, a2, a3, a4, a5, fun j j0 j1 => ?_⟩
  refine CR_keep (a := zSnap hm j) (fun r q g0 g1 => h1 r _ q (by omega)) (fun q g0 g1 => ?_) ?_ ?_ h6 (a6 j j0 j1)
  · show (if q < 209 then _ else _) = (if q < 209 then _ else _)
    rw [if_neg (by omega), if_neg (by omega), h3 17 _ (by decide)]
  · exact h2 2 (by decide) (by decide)
  · exact h2 3 (by decide) (by decide)
theorem RIm_keep {hc hc' : zHC} {hm hm' : zHM} (h1 : ∀ r n j, ((64 ≤ r ∧ r ≤ 72 ∧ 10 ≤ n ∧ n ≤ 11) ∨ (r = 192 ∧ 0 ≤ n ∧ n ≤ 1) ∨ (576 ≤ r ∧ r ≤ 595 ∧ 2 ≤ n ∧ n ≤ 3) ∨ (384 ≤ r ∧ r ≤ 386 ∧ 2 ≤ n ∧ n ≤ 3)) → hc' r n j = hc r n j) (h2 : ∀ r j, (r = 16 ∨ r = 21 ∨ r = 22) → hm' r j = hm r j) (h : RIm hc hm) : RIm hc' hm' := by
  intro k k0 k1
  obtain ⟨a1, a2, a3⟩ := h k k0 k1
  rw [h1 192 k 0 (by omega), h2 22 k (by decide)]
  refine ⟨a1, a2, fun q => ?_⟩
  obtain ⟨b1, b2, b3⟩ := a3 q
  exact ⟨VR_keep (fun r j g0 g1 => h1 r _ j (by omega)) (fun j _ _ => h2 16 _ (by decide)) (fun j _ _ => h2 21 _ (by decide)) b1, CR_keep (fun r j g0 g1 => h1 r _ j (by omega)) (fun j _ _ => h2 16 _ (by decide)) (h2 16 _ (by decide)) (h2 16 _ (by decide)) (VR_n b1) b2, RSn_cong (h1 384 _ 0 (by omega)) (h1 385 _ 0 (by omega)) (fun j _ _ => h1 386 _ j (by omega)) (fun j _ _ => h2 16 _ (by decide)) b3⟩
theorem RPc_keep {hc hc' : zHC} {hm hm' : zHM} (h1 : ∀ r j, (r = 256 ∨ r = 257) → hc' r 0 j = hc r 0 j) (h2 : ∀ r j, (r = 29 ∨ r = 35) → hm' r j = hm r j) (h : RPc hc hm) : RPc hc' hm' := by
  obtain ⟨a1, a2, a3, a4⟩ := h
  unfold RPc
  rw [h1 256 0 (by decide), h2 35 0 (by decide)]
  refine ⟨a1, a2, a3, fun j j0 j1 => ?_⟩
  rw [h1 257 j (by decide), h2 29 j (by decide)]
  exact a4 j j0 j1
theorem RSt_keep {hc hc' : zHC} {hm hm' : zHM} (h1 : ∀ r j, (r = 719 ∨ r = 720) → hc' r 0 j = hc r 0 j) (h2 : ∀ j, hm' 41 j = hm 41 j) (h : RSt hc hm) : RSt hc' hm' := by
  unfold RSt
  rw [h1 719 0 (by decide), h1 720 0 (by decide), h2 0, h2 1]
  exact h
theorem RWr_keep {hc hc' : zHC} {hm hm' : zHM} (h1 : ∀ r j, (r = 717 ∨ r = 718) → hc' r 0 j = hc r 0 j) (h2 : ∀ r j, (r = 42 ∨ r = 44) → hm' r j = hm r j) (h : RWr hc hm) : RWr hc' hm' := by
  obtain ⟨a1, a2, a3, a4⟩ := h
  unfold RWr
  rw [h1 718 0 (by decide), h2 44 0 (by decide)]
  refine ⟨a1, a2, a3, fun j j0 j1 => ?_⟩
  rw [h1 717 j (by decide), h2 42 j (by decide)]
  exact a4 j j0 j1
theorem RKw_keep {hc hc' : zHC} (h1 : ∀ j, hc' 330 0 j = hc 330 0 j) (h : RKw hc) : RKw hc' := by
  intro j j0 j1
  rw [h1]
  exact h j j0 j1
/-- what a call may leave changed that tells no more than itself -/
def scC (h h' : zHC) : Prop := ∀ r n j, ¬ ((64 ≤ r ∧ r ≤ 72 ∧ n = 1) ∨ (128 ≤ r ∧ r ≤ 130) ∨ r = 387 ∨ r = 716 ∨ (258 ≤ r ∧ r ≤ 261) ∨ (323 ≤ r ∧ r ≤ 329) ∨ (576 ≤ r ∧ r ≤ 595 ∧ n = 1) ∨ (384 ≤ r ∧ r ≤ 386 ∧ n = 1) ∨ r = 0 ∨ r = 641) → h' r n j = h r n j
def scM (m m' : zHM) : Prop := ∀ r j, ¬ (r = 0 ∨ (3 ≤ r ∧ r ≤ 9) ∨ (11 ≤ r ∧ r ≤ 13) ∨ r = 15 ∨ r = 18 ∨ r = 20 ∨ (24 ≤ r ∧ r ≤ 28) ∨ (30 ≤ r ∧ r ≤ 34) ∨ (36 ≤ r ∧ r ≤ 40) ∨ r = 43 ∨ (45 ≤ r ∧ r ≤ 49)) → m' r j = m r j
theorem scC_refl {h : zHC} : scC h h := fun _ _ _ _ => rfl
theorem scM_refl {m : zHM} : scM m m := fun _ _ _ => rfl
theorem scC_trans {h h' h'' : zHC} (a : scC h h') (b : scC h' h'') : scC h h'' := fun r n j hne => by rw [b r n j hne, a r n j hne]
theorem scM_trans {m m' m'' : zHM} (a : scM m m') (b : scM m' m'') : scM m m'' := fun r j hne => by rw [b r j hne, a r j hne]
theorem RG_sc {hc hc' : zHC} {hm hm' : zHM} (h : RG hc hm) (h1 : scC hc hc') (h2 : scM hm hm') : RG hc' hm' := by
  obtain ⟨a1, a2, a3, a4, a5, a6, a7, a8, a9⟩ := h
  exact ⟨RTp_keep (fun r j g0 g1 => h1 r 0 j (by omega)) (fun r j g => h2 r j (by omega)) a1, RVC_keep (fun r j g => h1 r 0 j (by omega)) (fun j _ _ => h2 14 j (by omega)) (fun j => h2 19 j (by omega)) a2, RUn_keep (fun r n j g => h1 r n j (by omega)) (fun j _ _ => h2 14 j (by omega)) (fun r j g => h2 r j (by omega)) (VR_n a2.1) a3, RIm_keep (fun r n j g => h1 r n j (by omega)) (fun r j g => h2 r j (by omega)) a4, RSn_cong (h1 384 0 0 (by omega)) (h1 385 0 0 (by omega)) (fun j _ _ => h1 386 0 j (by omega)) (fun j _ _ => h2 14 j (by omega)) a5, RPc_keep (fun r j g => h1 r 0 j (by omega)) (fun r j g => h2 r j (by omega)) a6, RSt_keep (fun r j g => h1 r 0 j (by omega)) (fun j => h2 41 j (by omega)) a7, RWr_keep (fun r j g => h1 r 0 j (by omega)) (fun r j g => h2 r j (by omega)) a8, RKw_keep (fun j => h1 330 0 j (by omega)) a9⟩
theorem RG_0 {hc : zHC} {hm : zHM} {x : Int} (h : RG hc hm) : RG hc (mset hm 0 0 x) := RG_sc h scC_refl (fun r j hne => mset_ne (by omega))
/-- a change of the present course, with acts kept -/
theorem RG_crs {hc hc' : zHC} {hm hm' : zHM} (h : RG hc hm) (h1 : ∀ r n j, ¬ ((64 ≤ r ∧ r ≤ 72 ∧ 0 ≤ n ∧ n ≤ 9) ∨ (128 ≤ r ∧ r ≤ 130) ∨ r = 512 ∨ r = 513) → hc' r n j = hc r n j) (h2 : ∀ r j, ¬ (r = 0 ∨ (r = 14 ∧ 209 ≤ j ∧ j < 1898) ∨ r = 17 ∨ r = 18 ∨ r = 23 ∨ (38 ≤ r ∧ r ≤ 40)) → hm' r j = hm r j) (hV : RVC hc' hm') (hU : RUn hc' hm') : RG hc' hm' := by
  obtain ⟨a1, a2, a3, a4, a5, a6, a7, a8, a9⟩ := h
  exact ⟨RTp_keep (fun r j g0 g1 => h1 r 0 j (by omega)) (fun r j g => h2 r j (by omega)) a1, hV, hU, RIm_keep (fun r n j g => h1 r n j (by omega)) (fun r j g => h2 r j (by omega)) a4, RSn_cong (h1 384 0 0 (by omega)) (h1 385 0 0 (by omega)) (fun j _ _ => h1 386 0 j (by omega)) (fun j _ _ => h2 14 j (by omega)) a5, RPc_keep (fun r j g => h1 r 0 j (by omega)) (fun r j g => h2 r j (by omega)) a6, RSt_keep (fun r j g => h1 r 0 j (by omega)) (fun j => h2 41 j (by omega)) a7, RWr_keep (fun r j g => h1 r 0 j (by omega)) (fun r j g => h2 r j (by omega)) a8, RKw_keep (fun j => h1 330 0 j (by omega)) a9⟩
/-! acts kept and taken back -/
theorem F225_2s {K : Int} : ∀ (n : Nat) (q : Int) (m0 m : zHM), 0 ≤ K → K < 8 → 0 ≤ q → q ≤ 1689 → 1689 - q < n → m 23 0 = K → (∀ j, 0 ≤ j → j < q → m 17 (1689 * K + j) = m0 14 (209 + j)) → (∀ r j, ¬ (r = 17 ∧ 1689 * K ≤ j ∧ j < 1689 * K + 1689) → m r j = m0 r j) → ∃ m', F225_2 n q m = some m' ∧ m' 23 0 = K + 1 ∧ (∀ j, 0 ≤ j → j < 1689 → m' 17 (1689 * K + j) = m0 14 (209 + j)) ∧ (∀ r j, ¬ ((r = 17 ∧ 1689 * K ≤ j ∧ j < 1689 * K + 1689) ∨ (r = 23 ∧ j = 0)) → m' r j = m0 r j) := by
  intro n
  induction n with
  | zero => intro q m0 m K0 K1 q0 q1 g; omega
  | succ n ih =>
    intro q m0 m K0 K1 q0 q1 g e1 e2 e3
    rw [F225_2]
    by_cases e : q = 1689
    · subst e
      rw [if_pos (by omega), e1, wadd_eq (by omega) (by omega)]
      refine ⟨_, rfl, mset_eq, fun j j0 j1 => ?_, fun r j hne => ?_⟩
      · rw [mset_ne (by omega)]
        exact e2 j j0 j1
      · rw [mset_ne (by omega)]
        exact e3 r j (by omega)
    · rw [if_neg (by omega), e1, wadd_eq (x := 209) (by omega) (by omega), wmul_eq (by omega) (by omega), wadd_eq (x := 1689 * K) (by omega) (by omega), zG_t (by omega), zG_t (by omega), wadd_eq (by omega) (by omega)]
      refine ih (q + 1) m0 _ K0 K1 (by omega) (by omega) (by omega) (by rw [mset_ne (by omega)]; exact e1) (fun j j0 j1 => ?_) (fun r j hne => ?_)
      · by_cases u : j = q
        · subst u
          rw [mset_eq]
          exact e3 14 _ (by omega)
        · rw [mset_ne (by omega)]
          exact e2 j j0 (by omega)
      · rw [mset_ne (by omega)]
        exact e3 r j hne
theorem F225_1s : ∀ (n : Nat) (q : Int) (m0 m : zHM), 1689 ≤ q → q ≤ 13512 → 13512 - q < n → m0 23 0 = 8 → (∀ j, 0 ≤ j → j < q - 1689 → m 17 j = m0 17 (j + 1689)) → (∀ j, q - 1689 ≤ j → m 17 j = m0 17 j) → (∀ r j, ¬ (r = 17) → m r j = m0 r j) → ∃ m1, F225_1 n q m = F225_0 m1 ∧ m1 23 0 = 7 ∧ (∀ j, 0 ≤ j → j < 11823 → m1 17 j = m0 17 (j + 1689)) ∧ (∀ r j, ¬ (r = 17 ∨ (r = 23 ∧ j = 0)) → m1 r j = m0 r j) := by
  intro n
  induction n with
  | zero => intro q m0 m q0 q1 g; omega
  | succ n ih =>
    intro q m0 m q0 q1 g e1 e2 e3 e4
    rw [F225_1]
    by_cases e : q = 13512
    · subst e
      rw [if_pos (by omega), e4 23 0 (by decide), e1, wsub_eq (by omega) (by omega)]
      refine ⟨_, rfl, mset_eq, fun j j0 j1 => ?_, fun r j hne => ?_⟩
      · rw [mset_ne (by omega)]
        exact e2 j j0 (by omega)
      · rw [mset_ne (by omega)]
        exact e4 r j (by omega)
    · rw [if_neg (by omega), wsub_eq (by omega) (by omega), zG_t (by omega), zG_t (by omega), wadd_eq (by omega) (by omega)]
      refine ih (q + 1) m0 _ (by omega) (by omega) (by omega) e1 (fun j j0 j1 => ?_) (fun j j0 => ?_) (fun r j hne => ?_)
      · by_cases u : j = q - 1689
        · subst u
          rw [mset_eq, e3 q (by omega), show q - 1689 + 1689 = q by omega]
        · rw [mset_ne (by omega)]
          exact e2 j j0 (by omega)
      · rw [mset_ne (by omega)]
        exact e3 j (by omega)
      · rw [mset_ne (by omega)]
        exact e4 r j hne
theorem P_keep {hc : zHC} {hm : zHM} (hV : RVC hc hm) (hU : RUn hc hm) : ∃ hc' hm', F70 0 hc = some hc' ∧ F225 hm = some hm' ∧ RVC hc' hm' ∧ RUn hc' hm' ∧ (∀ r n j, ¬ ((64 ≤ r ∧ r ≤ 72 ∧ 2 ≤ n ∧ n ≤ 9) ∨ r = 512 ∨ r = 513) → hc' r n j = hc r n j) ∧ (∀ r j, ¬ (r = 17 ∨ r = 23) → hm' r j = hm r j) := by
  have big := zFu_big
  have key : ∀ (h : zHC) (m : zHM) (O K : Int), RVC h m → RUn h m → h 513 0 0 = O → m 23 0 = K → K < 8 → ∃ hc' hm', F70_0 0 h = some hc' ∧ F225_0 m = some hm' ∧ RVC hc' hm' ∧ RUn hc' hm' ∧ (∀ r n j, ¬ ((64 ≤ r ∧ r ≤ 72 ∧ 2 ≤ n ∧ n ≤ 9) ∨ r = 512 ∨ r = 513) → hc' r n j = h r n j) ∧ (∀ r j, ¬ (r = 17 ∨ r = 23) → hm' r j = m r j) := by
    intro h m O K gV gU eO eK K8
    obtain ⟨a1, a2, a3, a4, a5, a6⟩ := gU
    rw [eO] at a4 a5 a6
    rw [eK] at a1 a2 a3 a6
    obtain ⟨m1, m2, m3, m4, m5⟩ := F225_2s (K := K) zFu 0 m m a2 K8 (by decide) (by decide) (by omega) eK (fun j j0 j1 => by omega) (fun _ _ _ => rfl)
    obtain ⟨h1, h2, h3, h4⟩ := L71 (h := h) (i := 2 + (O + K) % 8) (j := 0) (a := m 14) (by omega) gV.2 (VR_n gV.1)
    have fC : ∀ r n q, ¬ ((64 ≤ r ∧ r ≤ 72 ∧ n = 2 + (O + K) % 8) ∨ r = 512) → (hset h1 512 0 0 (K + 1)) r n q = h r n q := by
      intro r n q hne
      rw [hset_ne (by omega)]
      exact h4 r n q (by omega)
    refine ⟨hset h1 512 0 0 (K + 1), m1, ?_, m2, ?_, ?_, fun r n j hne => fC r n j (by omega), fun r j hne => m5 r j (by omega)⟩
    · unfold F70_0
      rw [eO, a1, wadd_eq (x := O) (by omega) (by omega), wrem_eq (by omega) (by omega) (by decide) (by decide), zG_t (by omega), h2]
      show some (hset h1 512 0 0 (wadd (h1 512 0 0) 1)) = _
      rw [h4 512 0 0 (by omega), a1, wadd_eq (x := K) (by omega) (by omega)]
    · exact RVC_keep (fun r j g => fC r 0 j (by omega)) (fun j g0 g1 => m5 14 j (by omega)) (fun j => m5 19 j (by omega)) gV
    · have e513 : (hset h1 512 0 0 (K + 1)) 513 0 0 = O := by rw [fC _ _ _ (by omega)]; exact eO
      refine ⟨by rw [hset_eq, m3], by omega, by omega, by rw [e513]; exact a4, by rw [e513]; exact a5, fun j j0 j1 => ?_⟩
      rw [e513]
      rw [m3] at j1
      have s2 : m1 14 2 = m 14 2 := m5 14 2 (by omega)
      have s3 : m1 14 3 = m 14 3 := m5 14 3 (by omega)
      by_cases u : j = K
      · subst u
        refine CR_keep (h := h1) (a := m 14) (fun r q g0 g1 => hset_ne (by omega)) (fun q g0 g1 => ?_) s2 s3 (VR_n gV.1) h3
        show (if q < 209 then _ else m1 17 (1689 * j + q - 209)) = _
        rw [if_neg (by omega), show 1689 * j + q - 209 = 1689 * j + (q - 209) by omega, m4 (q - 209) (by omega) (by omega), show 209 + (q - 209) = q by omega]
      · refine CR_keep (a := zSnap m j) (fun r q g0 g1 => fC r _ q (by omega)) (fun q g0 g1 => ?_) s2 s3 (show m 14 3 ≤ 6 from VR_n gV.1) (a6 j j0 (by omega))
        show (if q < 209 then _ else m1 17 (1689 * j + q - 209)) = (if q < 209 then _ else m 17 (1689 * j + q - 209))
        rw [if_neg (by omega), if_neg (by omega), m5 17 _ (by omega)]
  obtain ⟨a1, a2, a3, a4, a5, a6⟩ := id hU
  by_cases q : hm 23 0 = 8
  · unfold F70 F225
    rw [if_neg (show ¬ ¬ hc 512 0 0 = 8 by omega), if_neg (show ¬ ¬ hm 23 0 = 8 by omega), wadd_eq (x := hc 513 0 0) (by omega) (by omega), wrem_eq (by omega) (by omega) (by decide) (by decide), wsub_eq (x := hc 512 0 0) (by omega) (by omega)]
    obtain ⟨m1, z1, z2, z3, z4⟩ := F225_1s zFu 1689 hm hm (by decide) (by decide) (by omega) q (fun j j0 j1 => by omega) (fun _ _ => rfl) (fun _ _ _ => rfl)
    rw [z1]
    have gV : RVC (hset (hset hc 513 0 0 ((hc 513 0 0 + 1) % 8)) 512 0 0 (hc 512 0 0 - 1)) m1 := RVC_keep (fun r j g => by rw [hset_ne (by omega), hset_ne (by omega)]) (fun j g0 g1 => z4 14 j (by omega)) (fun j => z4 19 j (by omega)) hV
    have e512 : (hset (hset hc 513 0 0 ((hc 513 0 0 + 1) % 8)) 512 0 0 (hc 512 0 0 - 1)) 512 0 0 = hc 512 0 0 - 1 := hset_eq
    have e513 : (hset (hset hc 513 0 0 ((hc 513 0 0 + 1) % 8)) 512 0 0 (hc 512 0 0 - 1)) 513 0 0 = (hc 513 0 0 + 1) % 8 := by rw [hset_ne (by omega), hset_eq]
    have gU : RUn (hset (hset hc 513 0 0 ((hc 513 0 0 + 1) % 8)) 512 0 0 (hc 512 0 0 - 1)) m1 := by
      refine ⟨by rw [e512, z2]; omega, by omega, by omega, by rw [e513]; omega, by rw [e513]; omega, fun j j0 j1 => ?_⟩
      rw [z2] at j1
      rw [e513, show ((hc 513 0 0 + 1) % 8 + j) % 8 = (hc 513 0 0 + (j + 1)) % 8 by omega]
      refine CR_keep (a := zSnap hm (j + 1)) (fun r q g0 g1 => by rw [hset_ne (by omega), hset_ne (by omega)]) (fun q g0 g1 => ?_) (z4 14 2 (by omega)) (z4 14 3 (by omega)) (show hm 14 3 ≤ 6 from VR_n hV.1) (a6 (j + 1) (by omega) (by omega))
      show (if q < 209 then _ else m1 17 (1689 * j + q - 209)) = (if q < 209 then _ else hm 17 (1689 * (j + 1) + q - 209))
      rw [if_neg (by omega), if_neg (by omega), z3 _ (by omega) (by omega), show 1689 * j + q - 209 + 1689 = 1689 * (j + 1) + q - 209 by omega]
    obtain ⟨h', m', y1, y2, y3, y4, y5, y6⟩ := key _ m1 _ 7 gV gU e513 z2 (by decide)
    exact ⟨h', m', y1, y2, y3, y4, fun r n j hne => by rw [y5 r n j hne, hset_ne (by omega), hset_ne (by omega)], fun r j hne => by rw [y6 r j hne, z4 r j (by omega)]⟩
  · unfold F70 F225
    rw [if_pos (show ¬ hc 512 0 0 = 8 by omega), if_pos (show ¬ hm 23 0 = 8 by omega)]
    exact key hc hm _ _ hV hU rfl rfl (by omega)
theorem F222_0s {K : Int} : ∀ (n : Nat) (q : Int) (m0 m : zHM), 0 ≤ K → K < 8 → 0 ≤ q → q ≤ 1689 → 1689 - q < n → m0 23 0 = K → (∀ j, 0 ≤ j → j < q → m 14 (209 + j) = m0 17 (1689 * K + j)) → (∀ r j, ¬ (r = 14 ∧ 209 ≤ j ∧ j < 1898) → m r j = m0 r j) → ∃ m', F222_0 n q m = some (K, m') ∧ (∀ j, 0 ≤ j → j < 1689 → m' 14 (209 + j) = m0 17 (1689 * K + j)) ∧ (∀ r j, ¬ (r = 14 ∧ 209 ≤ j ∧ j < 1898) → m' r j = m0 r j) := by
  intro n
  induction n with
  | zero => intro q m0 m K0 K1 q0 q1 g; omega
  | succ n ih =>
    intro q m0 m K0 K1 q0 q1 g e1 e2 e3
    rw [F222_0, e3 23 0 (by omega), e1]
    by_cases e : q = 1689
    · subst e
      rw [if_pos (by omega)]
      exact ⟨m, rfl, e2, e3⟩
    · rw [if_neg (by omega), wmul_eq (by omega) (by omega), wadd_eq (x := 1689 * K) (by omega) (by omega), wadd_eq (x := 209) (by omega) (by omega), zG_t (by omega), zG_t (by omega), wadd_eq (by omega) (by omega)]
      refine ih (q + 1) m0 _ K0 K1 (by omega) (by omega) (by omega) e1 (fun j j0 j1 => ?_) (fun r j hne => ?_)
      · by_cases u : j = q
        · subst u
          rw [mset_eq]
          exact e3 17 _ (by omega)
        · rw [mset_ne (by omega)]
          exact e2 j j0 (by omega)
      · rw [mset_ne (by omega)]
        exact e3 r j hne
theorem C_undo {hc : zHC} {hm : zHM} (h : RG hc hm) : ∃ r hc' hm', F96 hc = some (r, hc') ∧ F222 hm = some (r, hm') ∧ RG hc' hm' := by
  have big := zFu_big
  obtain ⟨-, hV, hU, -⟩ := id h
  obtain ⟨a1, a2, a3, a4, a5, a6⟩ := id hU
  unfold F96 F97 F222
  by_cases q : hm 23 0 = 0
  · rw [if_neg (show ¬ ¬ hc 512 0 0 = 0 by omega), if_neg (show ¬ ¬ hm 23 0 = 0 by omega)]
    exact ⟨-1, hc, _, rfl, rfl, RG_0 h⟩
  · rw [if_pos (show ¬ hc 512 0 0 = 0 by omega), if_pos (show ¬ hm 23 0 = 0 by omega), a1, wsub_eq (by omega) (by omega), wadd_eq (by omega) (by omega), wrem_eq (by omega) (by omega) (by decide) (by decide), zG_t (by omega)]
    have e1 : ∀ r j, ¬ (r = 0 ∨ (r = 23 ∧ j = 0)) → (mset (mset hm 0 0 0) 23 0 (hm 23 0 - 1)) r j = hm r j := fun r j hne => by rw [mset_ne (by omega), mset_ne (by omega)]
    have e2 : (mset (mset hm 0 0 0) 23 0 (hm 23 0 - 1)) 23 0 = hm 23 0 - 1 := mset_eq
    obtain ⟨m', z1, z2, z3⟩ := F222_0s (K := hm 23 0 - 1) zFu 0 _ (mset (mset hm 0 0 0) 23 0 (hm 23 0 - 1)) (by omega) (by omega) (by decide) (by decide) (by omega) e2 (fun j j0 j1 => by omega) (fun _ _ _ => rfl)
    have hR := a6 (hm 23 0 - 1) (by omega) (by omega)
    have hR1 : CR (hset hc 512 0 0 (hm 23 0 - 1)) (2 + (hc 513 0 0 + (hm 23 0 - 1)) % 8) (zSnap hm (hm 23 0 - 1)) := CR_keep (a := zSnap hm (hm 23 0 - 1)) (fun r q g0 g1 => hset_ne (by omega)) (fun _ _ _ => rfl) rfl rfl (show hm 14 3 ≤ 6 from VR_n hV.1) hR
    obtain ⟨h1, y1, y2, y3⟩ := L71 (h := hset hc 512 0 0 (hm 23 0 - 1)) (i := 0) (j := 2 + (hc 513 0 0 + (hm 23 0 - 1)) % 8) (by omega) hR1 (show hm 14 3 ≤ 6 from VR_n hV.1)
    rw [y1, z1]
    have fM : ∀ r j, ¬ (r = 0 ∨ (r = 23 ∧ j = 0) ∨ (r = 14 ∧ 209 ≤ j ∧ j < 1898)) → m' r j = hm r j := fun r j hne => by rw [z3 r j (by omega), e1 r j (by omega)]
    have fC : ∀ r n q, ¬ ((64 ≤ r ∧ r ≤ 72 ∧ n = 0) ∨ (r = 512 ∧ n = 0 ∧ q = 0)) → h1 r n q = hc r n q := fun r n q hne => by rw [y3 r n q (by omega), hset_ne (by omega)]
    have c512 : h1 512 0 0 = hm 23 0 - 1 := by rw [y3 _ _ _ (by omega), hset_eq]
    have m23 : m' 23 0 = hm 23 0 - 1 := by rw [z3 _ _ (by omega), e2]
    have hV' : RVC h1 m' := by
      refine ⟨VR_keep (fun r j g0 g1 => fC r 0 j (by omega)) (fun k g0 g1 => fM 14 k (by omega)) (fun k _ _ => fM 19 k (by omega)) hV.1, CR_keep (a := zSnap hm (hm 23 0 - 1)) (fun _ _ _ _ => rfl) (fun q g0 g1 => ?_) (fM 14 2 (by omega)) (fM 14 3 (by omega)) (show hm 14 3 ≤ 6 from VR_n hV.1) y2⟩
      show _ = (if q < 209 then _ else hm 17 (1689 * (hm 23 0 - 1) + q - 209))
      rw [if_neg (by omega), show q = 209 + (q - 209) by omega, z2 (q - 209) (by omega) (by omega), e1 17 _ (by omega), show 1689 * (hm 23 0 - 1) + (209 + (q - 209)) - 209 = 1689 * (hm 23 0 - 1) + (q - 209) by omega]
    have hU' : RUn h1 m' := by
      have c513 : h1 513 0 0 = hc 513 0 0 := fC _ _ _ (by omega)
      refine ⟨by omega, by omega, by omega, by omega, by omega, fun j j0 j1 => ?_⟩
      rw [c513]
      refine CR_keep (a := zSnap hm j) (fun r q g0 g1 => fC r _ q (by omega)) (fun q g0 g1 => ?_) (fM 14 2 (by omega)) (fM 14 3 (by omega)) (show hm 14 3 ≤ 6 from VR_n hV.1) (a6 j j0 (by omega))
      show (if q < 209 then _ else m' 17 (1689 * j + q - 209)) = (if q < 209 then _ else hm 17 (1689 * j + q - 209))
      rw [if_neg (by omega), if_neg (by omega), fM 17 _ (by omega)]
    refine ⟨hm 23 0 - 1, h1, m', ?_, rfl, RG_crs h (fun r n j hne => fC r n j (by omega)) (fun r j hne => fM r j (by omega)) hV' hU'⟩
    simp only [Option.bind_some]
    rw [if_neg (by decide), c512]
end
section
/-! Calls. -/
theorem z10 {α : Type} {a b : α} : (if (1 : Int) = 0 then a else b) = b := if_neg (by decide)
theorem z00 {α : Type} {a b : α} : (if (0 : Int) = 0 then a else b) = a := if_pos rfl
theorem zn10 {α : Type} {a b : α} : (if ¬ (1 : Int) = 0 then a else b) = a := if_pos (by decide)
theorem zn00 {α : Type} {a b : α} : (if ¬ (0 : Int) = 0 then a else b) = b := if_neg (by decide)
theorem E188 {v a b : Int} : F188 v a b = some (if a ≤ v ∧ v ≤ b then 1 else 0) := by
  unfold F188
  by_cases q : v < a
  · rw [if_pos q, if_neg (by omega)]
  · by_cases q2 : b < v
    · rw [if_neg q, if_pos q2, if_neg (by omega)]
    · rw [if_neg q, if_neg q2, if_pos (by omega)]
theorem E242 {v : Int} : F242 v = some (if 1 ≤ v ∧ v ≤ 60 then 1 else 0) := by
  unfold F242
  rw [E188]
  by_cases q : 1 ≤ v ∧ v ≤ 60
  · rw [if_pos q]; rfl
  · rw [if_neg q]; rfl
theorem E99 {v : Int} : F99 v = some (if 1 ≤ v ∧ v ≤ 60 then 1 else 0) := by
  unfold F99
  by_cases q : v < 1
  · rw [if_pos q, if_neg (by omega)]
  · by_cases q2 : 60 < v
    · rw [if_neg q, if_pos q2, if_neg (by omega)]
    · rw [if_neg q, if_neg q2, if_pos (by omega)]
theorem E74 {v : Int} : F74 v = some (if 1 ≤ v ∧ v ≤ 9 then 1 else 0) := by
  unfold F74
  by_cases q : v < 1
  · rw [if_pos q, if_neg (by omega)]
  · by_cases q2 : 9 < v
    · rw [if_neg q, if_pos q2, if_neg (by omega)]
    · rw [if_neg q, if_neg q2, if_pos (by omega)]
theorem Erng {v b : Int} : (if v < 0 then some (0 : Int) else if b ≤ v then some 0 else some 1) = some (if 0 ≤ v ∧ v < b then 1 else 0) := by
  by_cases q : v < 0
  · rw [if_pos q, if_neg (by omega)]
  · by_cases q2 : b ≤ v
    · rw [if_neg q, if_pos q2, if_neg (by omega)]
    · rw [if_neg q, if_neg q2, if_pos (by omega)]
theorem E61 {v b : Int} {h : zHC} (e : h 579 0 0 = b) : F61 v h = some (if 0 ≤ v ∧ v < b then 1 else 0) := by
  unfold F61; rw [e]; exact Erng
theorem E210 {v b : Int} {m : zHM} (e : m 14 3 = b) : F210 v m = some (if 0 ≤ v ∧ v < b then 1 else 0) := by
  unfold F210; rw [e]; exact Erng
theorem E58 {v b : Int} {h : zHC} (e : h 65 0 0 = b) : F58 v h = some (if 0 ≤ v ∧ v < b then 1 else 0) := by
  unfold F58; rw [e]; exact Erng
theorem E217 {v b : Int} {m : zHM} (e : m 14 216 = b) : F217 v m = some (if 0 ≤ v ∧ v < b then 1 else 0) := by
  unfold F217; rw [e]; exact Erng
theorem E59 {v b : Int} {h : zHC} (e : h 578 0 0 = b) : F59 v h = some (if 0 ≤ v ∧ v < b then 1 else 0) := by
  unfold F59; rw [e]; exact Erng
theorem E205 {v b : Int} {m : zHM} (e : m 14 2 = b) : F205 v m = some (if 0 ≤ v ∧ v < b then 1 else 0) := by
  unfold F205; rw [e]; exact Erng
abbrev zCell (a : Int → Int) (x : Int) : Prop := 0 ≤ x ∧ wrem x 10 < a 0 ∧ wdiv x 10 < a 1
theorem zCell_lt {a : Int → Int} {x : Int} (h : zCell a x) (hx : x < 2147483648) (w : a 1 ≤ 10) : x < 100 := by
  obtain ⟨h0, h1, h2⟩ := h
  rw [wdiv_eq h0 hx (by decide) (by decide)] at h2
  omega
theorem E69 {x : Int} {h : zHC} {v : Int} {a : Int → Int} (hN : VN h v a) : F69 v x h = some (if zCell a x then 1 else 0) := by
  unfold F69
  rw [hN.1, hN.2.1]
  by_cases q : x < 0
  · rw [if_pos q, if_neg (fun w => by have := w.1; omega)]
  · rw [if_neg q]
    by_cases q2 : a 1 ≤ wdiv x 10
    · rw [if_pos q2, if_neg (fun w => by have := w.2.2; omega)]
    · rw [if_neg q2]
      by_cases q3 : a 0 ≤ wrem x 10
      · rw [if_pos q3, if_neg (fun w => by have := w.2.1; omega)]
      · rw [if_neg q3, if_pos ⟨by omega, by omega, by omega⟩]
theorem E224 {x : Int} {m : zHM} {a : Int → Int} (e0 : m 14 0 = a 0) (e1 : m 14 1 = a 1) : F224 x m = some (if zCell a x then 1 else 0) := by
  unfold F224
  rw [e0, e1]
  by_cases q : x < 0
  · rw [if_pos q, if_neg (fun w => by have := w.1; omega)]
  · rw [if_neg q]
    by_cases q3 : a 0 ≤ wrem x 10
    · rw [if_pos q3, if_neg (fun w => by have := w.2.1; omega)]
    · rw [if_neg q3]
      by_cases q2 : a 1 ≤ wdiv x 10
      · rw [if_pos q2, if_neg (fun w => by have := w.2.2; omega)]
      · rw [if_neg q2, if_pos ⟨by omega, by omega, by omega⟩]
theorem m0_ne {m : zHM} {x : Int} {r : Nat} {j : Int} (h : r ≠ 0) : (mset m 0 0 x) r j = m r j := mset_ne (fun w => h w.1)
theorem RG_VN {hc : zHC} {hm : zHM} (h : RG hc hm) : VN hc 0 (hm 14) := h.2.1.1.1
theorem RG_WN {hc : zHC} {hm : zHM} (h : RG hc hm) : WN (hm 14) := h.2.1.1.2.2.2.2.2.2.2.1
theorem C_fault {hc : zHC} {hm : zHM} (h : RG hc hm) : ∃ r hm', F56 hc = some r ∧ F203 hm = some (r, hm') ∧ RG hc hm' := by
  unfold F56 F203
  rw [h.1.2.2.2.2]
  exact ⟨_, _, rfl, rfl, RG_0 h⟩
theorem C_storms {hc : zHC} {hm : zHM} {w : Int} (h : RG hc hm) : ∃ r hm', F137 w hc = some r ∧ F273 w hm = some (r, hm') ∧ RG hc hm' := by
  obtain ⟨s1, s2⟩ := h.2.2.2.2.2.2.1
  unfold F137 F273
  rw [E188, s1, s2]
  simp only [Option.bind_some]
  by_cases q0 : w = 0
  · subst q0
    rw [if_pos rfl, if_pos (show (0 : Int) ≤ 0 ∧ (0 : Int) ≤ 1 by decide), z10, zG_t (by omega)]
    exact ⟨_, _, rfl, rfl, RG_0 h⟩
  · rw [if_neg q0]
    by_cases q1 : w = 1
    · subst q1
      rw [if_pos rfl, if_pos (show (0 : Int) ≤ 1 ∧ (1 : Int) ≤ 1 by decide), z10, zG_t (by omega)]
      exact ⟨_, _, rfl, rfl, RG_0 h⟩
    · rw [if_neg q1, if_neg (show ¬ (0 ≤ w ∧ w ≤ 1) by omega), z00]
      exact ⟨_, _, rfl, rfl, RG_0 h⟩
theorem C_piece {hc : zHC} {hm : zHM} {k : Int} (h : RG hc hm) : ∃ r hm', F128 k hc = some r ∧ F267 k hm = some (r, hm') ∧ RG hc hm' := by
  obtain ⟨s0, s1, s2, s3⟩ := h.2.2.2.2.2.1
  have bd : hm 35 0 ≤ hc 256 0 0 ∧ hm 35 0 ≤ 50 ∧ (hm 35 0 = hc 256 0 0 ∨ hm 35 0 = 50) := by
    rw [s2]
    split <;> omega
  unfold F128 F267
  by_cases q0 : k < 0
  · rw [if_pos q0, if_pos q0]
    exact ⟨_, _, rfl, rfl, RG_0 h⟩
  · rw [if_neg q0, if_neg q0]
    by_cases q1 : hm 35 0 ≤ k
    · rw [if_pos q1]
      refine ⟨-1, _, ?_, rfl, RG_0 h⟩
      by_cases q2 : hc 256 0 0 ≤ k
      · rw [if_pos q2]
      · rw [if_neg q2, if_neg (by omega)]
    · rw [if_neg q1, if_neg (by omega), if_pos (by omega), zG_t (by omega), zG_t (by omega), s3 k (by omega) (by omega)]
      exact ⟨_, _, rfl, rfl, RG_0 h⟩
theorem C_byteAt {hc : zHC} {hm : zHM} {k : Int} (h : RG hc hm) : ∃ r hm', F146 k hc = some r ∧ F279 k hm = some (r, hm') ∧ RG hc hm' := by
  obtain ⟨s1, s2, s3, s4⟩ := h.2.2.2.2.2.2.2.1
  unfold F146 F279
  rw [s1]
  by_cases q0 : k < 0
  · rw [if_pos q0, if_pos q0]
    exact ⟨_, _, rfl, rfl, RG_0 h⟩
  · rw [if_neg q0, if_neg q0]
    by_cases q1 : hm 44 0 ≤ k
    · rw [if_pos q1, if_pos q1]
      exact ⟨_, _, rfl, rfl, RG_0 h⟩
    · rw [if_neg q1, if_neg q1, zG_t (by omega), zG_t (by omega), s4 k (by omega) (by omega)]
      exact ⟨_, _, rfl, rfl, RG_0 h⟩
theorem C_end {hc : zHC} {hm : zHM} {n : Int} (h : RG hc hm) : ∃ r hc' hm', F16 n hc = some (r, hc') ∧ F172 n hm = some (r, hm') ∧ RG hc' hm' := by
  obtain ⟨a1, a2, a3, a4, a5⟩ := h.1
  unfold F16 F172
  rw [a1]
  by_cases q0 : n < 0
  · rw [if_pos q0, if_pos q0]
    exact ⟨_, _, _, rfl, rfl, RG_0 h⟩
  · rw [if_neg q0, if_neg q0]
    by_cases q1 : n ≤ hm 2 0
    · rw [if_pos q1, if_pos q1]
      refine ⟨_, _, _, rfl, rfl, ?_⟩
      obtain ⟨b1, b2, b3, b4, b5, b6, b7, b8, b9⟩ := h
      refine ⟨⟨by rw [hset_eq, mset_eq], by rw [mset_eq]; omega, by rw [mset_eq]; omega, fun i i0 i1 => ?_, ?_⟩, RVC_keep (fun r j g => hset_ne (by omega)) (fun j _ _ => by rw [mset_ne (by omega), mset_ne (by omega)]) (fun j => by rw [mset_ne (by omega), mset_ne (by omega)]) b2, RUn_keep (fun r n j g => hset_ne (by omega)) (fun j _ _ => by rw [mset_ne (by omega), mset_ne (by omega)]) (fun r j g => by rw [mset_ne (by omega), mset_ne (by omega)]) (VR_n b2.1) b3, RIm_keep (fun r n j g => hset_ne (by omega)) (fun r j g => by rw [mset_ne (by omega), mset_ne (by omega)]) b4, RSn_cong (hset_ne (by omega)) (hset_ne (by omega)) (fun j _ _ => hset_ne (by omega)) (fun j _ _ => by rw [mset_ne (by omega), mset_ne (by omega)]) b5, RPc_keep (fun r j g => hset_ne (by omega)) (fun r j g => by rw [mset_ne (by omega), mset_ne (by omega)]) b6, RSt_keep (fun r j g => hset_ne (by omega)) (fun j => by rw [mset_ne (by omega), mset_ne (by omega)]) b7, RWr_keep (fun r j g => hset_ne (by omega)) (fun r j g => by rw [mset_ne (by omega), mset_ne (by omega)]) b8, RKw_keep (fun j => hset_ne (by omega)) b9⟩
      · rw [hset_ne (by omega), mset_ne (by omega), mset_ne (by omega)]
        exact a4 i i0 i1
      · rw [hset_ne (by omega), mset_ne (by omega), mset_ne (by omega)]
        exact a5
    · rw [if_neg q1, if_neg q1]
      exact ⟨_, _, _, rfl, rfl, RG_0 h⟩
theorem C_count {hc : zHC} {hm : zHM} {w : Int} (h : RG hc hm) : ∃ r hm', F162 w hc = some r ∧ F294 w hm = some (r, hm') ∧ RG hc hm' := by
  obtain ⟨n0, n1, n2, n3, n4, n5, n6⟩ := RG_VN h
  obtain ⟨r1, r2, r3, r4, r5, r6, r7⟩ := h.2.1.2.1
  have l1 := h.2.1.2.2.1.1
  have w6 := RG_WN h
  unfold WN at w6
  obtain ⟨sn, e1, e2, e3, e4⟩ := L91 (h := hc) (m := mset hm 0 0 0) (v := 0) (H := hm 14 209) (by rw [m0_ne (by decide)]; exact n6) (by rw [m0_ne (by decide)]; omega) (by rw [m0_ne (by decide)]; omega) h.2.1.1.2.2.2.2.2.1 h.2.1.1.2.2.2.2.2.2.2.2.2.2.2
  unfold F162 F294
  rw [n0, n1, n2, n3, r1, show hc 65 0 0 = hm 14 216 by omega, l1, h.1.1, e1, e2]
  simp only [Option.bind_some]
  by_cases q0 : w = 0
  · rw [if_pos q0, if_pos q0]; exact ⟨_, _, rfl, rfl, RG_0 h⟩
  rw [if_neg q0, if_neg q0]
  by_cases q1 : w = 1
  · rw [if_pos q1, if_pos q1]; exact ⟨_, _, rfl, rfl, RG_0 h⟩
  rw [if_neg q1, if_neg q1]
  by_cases q2 : w = 2
  · rw [if_pos q2, if_pos q2]; exact ⟨_, _, rfl, rfl, RG_0 h⟩
  rw [if_neg q2, if_neg q2]
  by_cases q3 : w = 3
  · rw [if_pos q3, if_pos q3]; exact ⟨_, _, rfl, rfl, RG_0 h⟩
  rw [if_neg q3, if_neg q3]
  by_cases q4 : w = 4
  · rw [if_pos q4, if_pos q4]; exact ⟨_, _, rfl, rfl, RG_0 h⟩
  rw [if_neg q4, if_neg q4]
  by_cases q5 : w = 5
  · rw [if_pos q5, if_pos q5]; exact ⟨_, _, rfl, rfl, RG_0 h⟩
  rw [if_neg q5, if_neg q5]
  by_cases q6 : w = 6
  · rw [if_pos q6, if_pos q6]; exact ⟨_, _, rfl, rfl, RG_0 h⟩
  rw [if_neg q6, if_neg q6]
  by_cases q7 : w = 7
  · rw [if_pos q7, if_pos q7]; exact ⟨_, _, rfl, rfl, RG_0 h⟩
  rw [if_neg q7, if_neg q7]
  by_cases q8 : w = 8
  · rw [if_pos q8, if_pos q8]; exact ⟨_, _, rfl, rfl, RG_0 h⟩
  rw [if_neg q8, if_neg q8, zG_t (by omega), zG_t (by omega)]
  exact ⟨_, _, rfl, rfl, RG_0 h⟩
theorem C_share {hc : zHC} {hm : zHM} {p s : Int} (h : RG hc hm) : ∃ r hm', F60 p s hc = some r ∧ F220 p s hm = some (r, hm') ∧ RG hc hm' := by
  have w6 := RG_WN h
  unfold WN at w6
  obtain ⟨⟨r1, r2, r3, r4, r5, r6, r7⟩, hL, hW⟩ := h.2.1.2
  obtain ⟨⟨c1, c2⟩, ⟨c3, c4⟩, c5, -⟩ := hW
  unfold F60 F220
  rw [E61 (RG_VN h).2.2.2.1, E210 (m := mset hm 0 0 0) (b := hm 14 3) (m0_ne (by decide)), E58 (show hc 65 0 0 = hm 14 216 by omega), E217 (m := mset hm 0 0 0) (b := hm 14 216) (m0_ne (by decide))]
  simp only [Option.bind_some]
  by_cases q1 : 0 ≤ p ∧ p < hm 14 3
  · by_cases q2 : 0 ≤ s ∧ s < hm 14 216
    · simp only [if_pos q1, if_pos q2, z10]
      obtain ⟨t1, t2, t3⟩ := r7 s q2.1 (by omega)
      rw [show (0 : Int) + s = s by omega] at t1
      obtain ⟨r, e1, e2, e3, e4⟩ := L62 (h := hc) (m := mset hm 0 0 0) (i := 0) (k := s) (s := s) (p := p) q2.1 (by omega) q2.1 (by omega) q1.1 (by omega) t1 (c5 s q2.1 q2.2).2
      rw [e1, e2]
      exact ⟨_, _, rfl, rfl, RG_0 h⟩
    · simp only [if_pos q1, if_neg q2, z10, z00]
      exact ⟨_, _, rfl, rfl, RG_0 h⟩
  · simp only [if_neg q1, z00]
    exact ⟨_, _, rfl, rfl, RG_0 h⟩
theorem C_sounded {hc : zHC} {hm : zHM} {k w : Int} (h : RG hc hm) : ∃ r hm', F66 k w hc = some r ∧ F221 k w hm = some (r, hm') ∧ RG hc hm' := by
  obtain ⟨l1, l2⟩ := h.2.1.2.2.1
  obtain ⟨n0, n1, hq⟩ := CW_n h.2.1.2.2.2
  unfold F66 F221
  rw [E188, l1]
  simp only [Option.bind_some]
  by_cases q0 : k < 0
  · rw [if_pos q0, if_pos q0]; exact ⟨_, _, rfl, rfl, RG_0 h⟩
  rw [if_neg q0, if_neg q0]
  by_cases q1 : hm 14 997 ≤ k
  · rw [if_pos q1, if_pos q1]; exact ⟨_, _, rfl, rfl, RG_0 h⟩
  rw [if_neg q1, if_neg q1]
  by_cases q2 : 0 ≤ w ∧ w ≤ 4
  · rw [if_pos q2, z10, if_neg (by omega), if_pos (by omega)]
    unfold F67
    rw [wmul_eq (by omega) (by omega), wadd_eq (x := k * 5) (by omega) (by omega), zG_t (by omega), wmul_eq (by omega) (by omega), wadd_eq (x := 998) (by omega) (by omega), wadd_eq (by omega) (by omega), zG_t (by omega), l2 k (by omega) (by omega) w (by omega) (by omega)]
    exact ⟨_, _, rfl, rfl, RG_0 h⟩
  · rw [if_neg q2, z00]
    refine ⟨-1, _, ?_, rfl, RG_0 h⟩
    by_cases q3 : w < 0
    · rw [if_pos q3]
    · rw [if_neg q3, if_neg (by omega)]
theorem F219_s {m : zHM} {s c w : Int} (s0 : 0 ≤ s) (s1 : s < 30) (c0 : 0 ≤ c) (c1 : c < 6) (w0 : 0 ≤ w) (w1 : w < 3) : F219 s c w m = some (m 14 (457 + 18 * s + 3 * c + w)) := by
  unfold F219
  rw [wmul_eq (x := 18) (by omega) (by omega), wadd_eq (x := 457) (by omega) (by omega), wmul_eq (x := 3) (by omega) (by omega), wadd_eq (x := 457 + 18 * s) (by omega) (by omega), wadd_eq (by omega) (by omega), zG_t (by omega)]
theorem C_comes {hc : zHC} {hm : zHM} {s c w : Int} (h : RG hc hm) : ∃ r hm', F57 s c w hc = some r ∧ F218 s c w hm = some (r, hm') ∧ RG hc hm' := by
  have w6 := RG_WN h
  unfold WN at w6
  obtain ⟨⟨r1, r2, r3, r4, r5, r6, r7⟩, hL, hW⟩ := h.2.1.2
  obtain ⟨⟨c1, c2⟩, ⟨c3, c4⟩, c5, -⟩ := hW
  unfold F57 F218
  rw [E59 (RG_VN h).2.2.1, E205 (m := mset hm 0 0 0) (b := hm 14 2) (m0_ne (by decide)), E58 (show hc 65 0 0 = hm 14 216 by omega), E217 (m := mset hm 0 0 0) (b := hm 14 216) (m0_ne (by decide)), E188]
  simp only [Option.bind_some]
  by_cases q1 : 0 ≤ s ∧ s < hm 14 216
  · by_cases q2 : 0 ≤ c ∧ c < hm 14 2
    · simp only [if_pos q1, if_pos q2, z10, zn10]
      obtain ⟨t1, t2, t3⟩ := r7 s q1.1 (by omega)
      rw [show (0 : Int) + s = s by omega] at t2
      obtain ⟨d1, d2⟩ := t2 c q2.1 (by omega)
      obtain ⟨u1, u2, u3, u4, u5⟩ := (c5 s q1.1 q1.2).1 c q2.1 (by omega)
      rw [wmul_eq (x := s) (by omega) (by omega), wadd_eq (x := s * 6) (by omega) (by omega), F219_s q1.1 (by omega) q2.1 (by omega) (by decide) (by decide), m0_ne (by decide), Int.add_zero, d1]
      simp only [Option.bind_some]
      by_cases q3 : w = 0
      · subst q3
        rw [if_pos rfl, if_pos (show (0 : Int) ≤ 0 ∧ (0 : Int) ≤ 1 by decide), z10, zG_t (by omega), F219_s q1.1 (by omega) q2.1 (by omega) (by decide) (by decide), m0_ne (by decide), Int.add_zero]
        by_cases q4 : hm 14 (457 + 18 * s + 3 * c) = 0
        · rw [if_pos q4, if_pos (by omega)]
          exact ⟨_, _, rfl, rfl, RG_0 h⟩
        · rw [if_neg q4, if_neg (by omega)]
          exact ⟨_, _, rfl, rfl, RG_0 h⟩
      · rw [if_neg q3]
        by_cases q5 : w = 1
        · subst q5
          rw [if_pos rfl, if_pos (show (0 : Int) ≤ 1 ∧ (1 : Int) ≤ 1 by decide), z10, zG_t (by omega), zG_t (by omega), F219_s q1.1 (by omega) q2.1 (by omega) (by decide) (by decide), m0_ne (by decide)]
          by_cases q4 : hm 14 (457 + 18 * s + 3 * c) = 0
          · rw [if_pos q4, if_neg (by omega), if_pos (by omega)]
            exact ⟨_, _, rfl, rfl, RG_0 h⟩
          · rw [if_neg q4, if_pos (by omega), if_neg (by omega), d2 q4]
            exact ⟨_, _, rfl, rfl, RG_0 h⟩
        · rw [if_neg q5, if_neg (show ¬ (0 ≤ w ∧ w ≤ 1) by omega), z00]
          exact ⟨_, _, rfl, rfl, RG_0 h⟩
    · simp only [if_pos q1, if_neg q2, z10, z00, zn00]
      exact ⟨_, _, rfl, rfl, RG_0 h⟩
  · simp only [if_neg q1, z00]
    exact ⟨_, _, rfl, rfl, RG_0 h⟩
theorem C_hears {hc : zHC} {hm : zHM} {c f : Int} (h : RG hc hm) : ∃ r hm', F141 c f hc = some r ∧ F261 c f hm = some (r, hm') ∧ RG hc hm' := by
  have w6 := RG_WN h
  unfold WN at w6
  have big := zFu_big
  unfold F141 F261
  rw [E59 (RG_VN h).2.2.1, E205 (m := mset hm 0 0 0) (b := hm 14 2) (m0_ne (by decide)), E74, E188]
  simp only [Option.bind_some]
  by_cases q1 : 0 ≤ c ∧ c < hm 14 2
  · by_cases q2 : 1 ≤ f ∧ f ≤ 9
    · simp only [if_pos q1, if_pos q2, z10]
      obtain ⟨x1, x2, -⟩ := h.2.1.1.2.2.2.2.2.2.2.2.1 c q1.1 q1.2
      obtain ⟨r, e1, e2, e3, e4⟩ := L93 (h := hc) (m := mset hm 0 0 0) (v := 0) (i := 0) (c := c) (f := f) (RG_VN h).2.2.2.1 (by rw [m0_ne (by decide)]; omega) (by rw [m0_ne (by decide)]; omega) q1.1 (by omega) (h.2.1.1.2.1 c q1.1 q1.2).1 x1 x2 h.2.1.2.1.2.2.2.2.2.1 zFu zFu 0 0 (by decide) (by rw [m0_ne (by decide)]; omega) (by rw [m0_ne (by decide)]; omega) (by rw [m0_ne (by decide)]; omega) (by decide) (by decide)
      unfold F93 F240
      rw [e1, e2]
      exact ⟨_, _, rfl, rfl, RG_0 h⟩
    · simp only [if_pos q1, if_neg q2, z10, z00]
      exact ⟨_, _, rfl, rfl, RG_0 h⟩
  · simp only [if_neg q1, z00]
    exact ⟨_, _, rfl, rfl, RG_0 h⟩
end
section
/-! Acts. -/
theorem CI_place {h : zHC} {m : zHM} {i v σ p x : Int} {nm : Int → Int} (hI : CI h m i v σ nm) (p0 : 0 ≤ p) (p1 : p < 6) (x0 : 0 ≤ x) (x1 : x < 100) : CI (hset h 67 i p x) (mset m 14 (210 + p) x) i v σ nm := by
  obtain ⟨hV, ⟨r1, r2, r3, r4, r5, r6, r7⟩, hE, hL, hW⟩ := hI
  obtain ⟨n0, n1, hq⟩ := CW_n hW
  obtain ⟨⟨c1, c2⟩, ⟨c3, c4⟩, c5, c6, c7⟩ := hW
  have fm : ∀ r j, ¬ (r = 14 ∧ j = 210 + p) → (mset m 14 (210 + p) x) r j = m r j := fun r j hne => mset_ne (by omega)
  have fc : ∀ r n j, ¬ (r = 67 ∧ n = i) → (hset h 67 i p x) r n j = h r n j := fun r n j hne => hset_ne (by omega)
  have e3 := fm 14 3 (by omega)
  have e209 := fm 14 209 (by omega)
  have e216 := fm 14 216 (by omega)
  have e997 := fm 14 997 (by omega)
  have e2 := fm 14 2 (by omega)
  refine ⟨VR_keep (fun r j g0 g1 => fc r v j (by omega)) (fun k g0 g1 => fm _ _ (by omega)) (fun _ _ _ => rfl) hV, ⟨by rw [fc _ _ _ (by omega), e209]; exact r1, by rw [fc _ _ _ (by omega), e216]; exact r2, r3, by rw [fc _ _ _ (by omega)]; exact r4, by rw [fc _ _ _ (by omega)]; exact r5, ?_, ?_⟩, by rw [fc _ _ _ (by omega), e997]; exact hE, fun s0 => ?_, ⟨by rw [e209]; exact ⟨c1, c2⟩, by rw [e216]; exact ⟨c3, c4⟩, ?_, ?_⟩⟩
  · intro q g0 g1
    rw [e3] at g1
    by_cases u : q = p
    · subst u
      rw [hset_eq, mset_eq]
      exact ⟨rfl, x0, x1⟩
    · rw [hset_ne (by omega), mset_ne (by omega)]
      exact r6 q g0 g1
  · intro k g0 g1
    rw [fc _ _ _ (by omega)] at g1
    obtain ⟨t1, t2, t3⟩ := r7 k g0 g1
    rw [e209]
    refine ⟨?_, ?_, ?_⟩
    · intro w w0 w1
      rw [fc _ _ _ (by omega), fm _ _ (by omega)]
      exact t1 w w0 w1
    · intro c q0 q1
      rw [fc _ _ _ (by omega), fc _ _ _ (by omega), fm _ _ (by omega), fm _ _ (by omega)]
      exact t2 c q0 q1
    · refine ⟨fun c q0 q1 => ?_, ?_⟩
      · rw [fc _ _ _ (by omega), fc _ _ _ (by omega)]
        exact t3.1 c q0 q1
      · rw [fc 72 _ _ (by omega)]
        rcases t3.2 with y | ⟨c, y1, y2, y3, y4⟩
        · exact Or.inl y
        · exact Or.inr ⟨c, y1, y2, by rw [fc _ _ _ (by omega)]; exact y3, y4⟩
  · obtain ⟨y1, y2⟩ := hL s0
    refine ⟨by rw [fc _ _ _ (by omega), e997]; exact y1, fun j j0 j1 w w0 w1 => ?_⟩
    rw [e997] at j1
    rw [fc _ _ _ (by omega), fm _ _ (by omega)]
    exact y2 j j0 j1 w w0 w1
  · intro s g0 g1
    rw [e216] at g1
    rw [e209]
    obtain ⟨t1, t2⟩ := c5 s g0 g1
    refine ⟨?_, ?_⟩
    · intro c q0 q1
      rw [fm _ (457 + 18 * s + 3 * c) (by omega), fm _ (457 + 18 * s + 3 * c + 1) (by omega), fm _ (457 + 18 * s + 3 * c + 2) (by omega), e2]
      exact t1 c q0 q1
    · unfold SF at *
      rw [fm _ (217 + 8 * s) (by omega), fm _ (217 + 8 * s + 1) (by omega), fm _ (217 + 8 * s + 2) (by omega), fm _ (217 + 8 * s + 3) (by omega), fm _ (217 + 8 * s + 4) (by omega), fm _ (217 + 8 * s + 5) (by omega), fm _ (217 + 8 * s + 6) (by omega), fm _ (217 + 8 * s + 7) (by omega), fm _ (457 + 18 * s + 3 * 0 + 2) (by omega), fm _ (457 + 18 * s + 3 * 1 + 2) (by omega), fm _ (457 + 18 * s + 3 * 2 + 2) (by omega), fm _ (457 + 18 * s + 3 * 3 + 2) (by omega), fm _ (457 + 18 * s + 3 * 4 + 2) (by omega), fm _ (457 + 18 * s + 3 * 5 + 2) (by omega)]
      exact t2
  · have := EQ_cong (a := m 14) (a' := (mset m 14 (210 + p) x) 14) e216 e2 e997 (fun s g0 g1 => fm _ _ (by omega)) (fun j g0 g1 => fm _ _ (by omega)) hq
    exact ⟨this.1, this.2.1⟩
/-- the present course after an act, and all else -/
theorem RG_act {hc h1 hc' : zHC} {hm m1 hm' : zHM} (h : RG hc hm) (hU : RUn h1 m1) (f1 : ∀ r n j, ¬ ((64 ≤ r ∧ r ≤ 72 ∧ 2 ≤ n ∧ n ≤ 9) ∨ r = 512 ∨ r = 513) → h1 r n j = hc r n j) (f2 : ∀ r j, ¬ (r = 0 ∨ r = 17 ∨ r = 23) → m1 r j = hm r j) (hI : CI hc' hm' 0 0 0 (hm 19)) (f3 : ∀ r n j, ¬ ((n = 0 ∧ 64 ≤ r ∧ r ≤ 72) ∨ (128 ≤ r ∧ r ≤ 130)) → hc' r n j = h1 r n j) (f4 : ∀ r j, ¬ ((r = 14 ∧ 209 ≤ j ∧ j < 1898) ∨ (38 ≤ r ∧ r ≤ 40)) → hm' r j = m1 r j) : RG hc' hm' := by
  have e19 : ∀ k, hm' 19 k = hm 19 k := fun k => by rw [f4 _ _ (by omega), f2 _ _ (by omega)]
  have hV : RVC hc' hm' := ⟨VR_keep (fun _ _ _ _ => rfl) (fun _ _ _ => rfl) (fun k _ _ => e19 k) hI.1, CI_CR hI⟩
  have e3 : m1 14 3 ≤ 6 := by rw [f2 _ _ (by omega)]; exact VR_n h.2.1.1
  exact RG_crs h (fun r n j hne => by rw [f3 r n j (by omega), f1 r n j (by omega)]) (fun r j hne => by rw [f4 r j (by omega), f2 r j (by omega)]) hV (RUn_keep (fun r n j g => f3 r n j (by omega)) (fun j g0 g1 => f4 14 j (by omega)) (fun r j g => f4 r j (by omega)) e3 hU)
theorem RVC_CI {hc : zHC} {hm : zHM} (h : RVC hc hm) : CI hc hm 0 0 0 (hm 19) := CR_CI h.1 h.2
theorem C_goes {hc : zHC} {hm : zHM} {p x : Int} (h : RG hc hm) (hx : zR32 x) : ∃ r hc' hm', F68 p x hc = some (r, hc') ∧ F223 p x hm = some (r, hm') ∧ RG hc' hm' := by
  have w6 := RG_WN h
  unfold WN at w6
  have h0 := RG_0 (x := 0) h
  unfold F68 F223
  rw [E61 (RG_VN h).2.2.2.1, E210 (m := mset hm 0 0 0) (b := hm 14 3) (m0_ne (by decide)), E69 (RG_VN h), E224 (m := mset hm 0 0 0) (a := hm 14) (m0_ne (by decide)) (m0_ne (by decide))]
  simp only [Option.bind_some]
  by_cases q1 : 0 ≤ p ∧ p < hm 14 3
  · by_cases q2 : zCell (hm 14) x
    · simp only [if_pos q1, if_pos q2, z10, zn10]
      obtain ⟨h1, m1, z1, z2, z3, z4, z5, z6⟩ := P_keep h0.2.1 h0.2.2.1
      rw [z1, z2]
      simp only [Option.bind_some]
      rw [zG_t (by omega), wadd_eq (by omega) (by omega), zG_t (by omega)]
      have hI := CI_place (p := p) (x := x) (RVC_CI z3) q1.1 (by omega) q2.1 (zCell_lt q2 hx.2 (by omega))
      have e19 : m1 19 = hm 19 := by funext k; rw [z6 _ _ (by omega), m0_ne (by decide)]
      rw [e19] at hI
      refine ⟨_, _, _, rfl, rfl, RG_act h z4 z5 (fun r j hne => by rw [z6 r j (by omega), mset_ne (by omega)]) hI (fun r n j hne => hset_ne (by omega)) (fun r j hne => mset_ne (by omega))⟩
    · simp only [if_pos q1, if_neg q2, z10, z00, zn00]
      exact ⟨_, _, _, rfl, rfl, h0⟩
  · simp only [if_neg q1, z00]
    exact ⟨_, _, _, rfl, rfl, h0⟩
theorem C_says {hc : zHC} {hm : zHM} {p w l : Int} (h : RG hc hm) : ∃ r hc' hm', F73 p w l hc = some (r, hc') ∧ F226 p w l hm = some (r, hm') ∧ RG hc' hm' := by
  have w6 := RG_WN h
  unfold WN at w6
  have h0 := RG_0 (x := 0) h
  have e65 : hc 65 0 0 = hm 14 216 := by have := h.2.1.2.1.2.1; omega
  have c34 := h.2.1.2.2.2.2.1
  unfold F73 F226
  rw [E61 (RG_VN h).2.2.2.1, E210 (m := mset hm 0 0 0) (b := hm 14 3) (m0_ne (by decide)), E74, E188, E188]
  simp only [Option.bind_some]
  by_cases q1 : 0 ≤ p ∧ p < hm 14 3
  · simp only [if_pos q1, z10]
    by_cases q2 : 1 ≤ l ∧ l ≤ 9
    · simp only [if_pos q2, z10]
      by_cases q3 : 1 ≤ w ∧ w ≤ 99
      · rw [if_neg (show ¬ w < 1 by omega), if_neg (show ¬ 99 < w by omega)]
        simp only [if_pos q3, z10]
        unfold F75
        rw [e65]
        by_cases q4 : hm 14 216 < 30
        · rw [if_pos q4, if_pos (show ¬ hm 14 216 = 30 by omega)]
          simp only [Option.bind_some, z00]
          obtain ⟨h1, m1, z1, z2, z3, z4, z5, z6⟩ := P_keep h0.2.1 h0.2.2.1
          rw [z1, z2]
          simp only [Option.bind_some]
          have e216 : m1 14 216 = hm 14 216 := by rw [z6 _ _ (by omega), m0_ne (by decide)]
          obtain ⟨h2, m2, y1, y2, y3, y4, y5, y6, y7, y8⟩ := P_says (p := p) (w := w) (l := l) (RVC_CI z3) (by omega) q1.1 (by rw [z6 _ _ (by omega), m0_ne (by decide)]; exact q1.2) q3.1 q3.2 q2.1 q2.2
          have e19 : m1 19 = hm 19 := by funext k; rw [z6 _ _ (by omega), m0_ne (by decide)]
          rw [e19] at y3
          rw [y1, y2]
          have e1 : h1 65 0 0 = m1 14 216 := by have := z3.2.1.2.1; omega
          refine ⟨m1 14 216, h2, m2, by rw [← e1]; rfl, rfl, RG_act h z4 z5 (fun r j hne => by rw [z6 r j (by omega), mset_ne (by omega)]) y3 (fun r n j hne => y7 r n j (by omega)) (fun r j hne => y8 r j (by omega))⟩
        · rw [if_neg q4, if_neg (show ¬ ¬ hm 14 216 = 30 by omega)]
          simp only [Option.bind_some, z10]
          exact ⟨_, _, _, rfl, rfl, h0⟩
      · simp only [if_neg q3, z00]
        refine ⟨-1, _, _, ?_, rfl, h0⟩
        by_cases u : w < 1
        · rw [if_pos u]
        · rw [if_neg u, if_pos (by omega)]
    · simp only [if_neg q2, z00]
      refine ⟨-1, _, mset hm 0 0 0, rfl, ?_, h0⟩
      split <;> rfl
  · simp only [if_neg q1, z00]
    exact ⟨_, _, _, rfl, rfl, h0⟩
theorem C_on {hc : zHC} {hm : zHM} {n : Int} (h : RG hc hm) : ∃ r hc' hm', F87 n hc = some (r, hc') ∧ F234 n hm = some (r, hm') ∧ RG hc' hm' := by
  have h0 := RG_0 (x := 0) h
  have e64 := h.2.1.2.1.1
  have c12 := h.2.1.2.2.2.1
  unfold F87 F234
  rw [E188, e64]
  simp only [Option.bind_some]
  by_cases q1 : 1 ≤ n ∧ n ≤ 100
  · rw [if_neg (show ¬ n < 1 by omega), if_pos (show n ≤ 100 by omega)]
    simp only [if_pos q1, zn10]
    by_cases q4 : hm 14 209 < 400
    · rw [if_pos q4, if_pos (show ¬ hm 14 209 = 400 by omega)]
      obtain ⟨h1, m1, z1, z2, z3, z4, z5, z6⟩ := P_keep h0.2.1 h0.2.2.1
      rw [z1, z2]
      simp only [Option.bind_some]
      obtain ⟨r, h2, m2, y1, y2, y3, y4, y5⟩ := P_hours' (n := n) (by omega) (RVC_CI z3)
      have e19 : m1 19 = hm 19 := by funext k; rw [z6 _ _ (by omega), m0_ne (by decide)]
      rw [e19] at y3
      rw [y1, y2]
      exact ⟨r, h2, m2, rfl, rfl, RG_act h z4 z5 (fun r j hne => by rw [z6 r j (by omega), mset_ne (by omega)]) y3 (fun r n j hne => y4.2.2 r n j (by omega)) (fun r j hne => y5.2.2 r j (by omega))⟩
    · rw [if_neg q4, if_neg (show ¬ ¬ hm 14 209 = 400 by omega)]
      exact ⟨_, _, _, rfl, rfl, h0⟩
  · simp only [if_neg q1, zn00]
    refine ⟨-1, hc, mset hm 0 0 0, ?_, rfl, h0⟩
    by_cases u : n < 1
    · rw [if_pos u]
    · rw [if_neg u, if_neg (by omega)]
theorem C_poorest {hc : zHC} {hm : zHM} {w : Int} (h : RG hc hm) : ∃ r hm', F139 w hc = some r ∧ F275 w hm = some (r, hm') ∧ RG hc hm' := by
  have w6 := RG_WN h
  unfold WN at w6
  have h0 := RG_0 (x := 0) h
  have big := zFu_big
  have hR : CR hc 0 ((mset hm 0 0 0) 14) := h0.2.1.2
  have e3 : hc 579 0 0 = hm 14 3 := (RG_VN h).2.2.2.1
  have key : ∀ (sg : Int), (sg = 1 ∧ ¬ w = 1 ∨ sg = -1 ∧ w = 1) → ∀ (n n' : Nat) (p best le : Int), 0 ≤ p → p ≤ hm 14 3 → hm 14 3 - p < n → hm 14 3 - p < n' → (best = -1 ∨ (0 ≤ best ∧ best < p ∧ ∃ v, F211 best (mset hm 0 0 0) = some v ∧ le = sg * v ∧ 0 ≤ v ∧ v ≤ 3000)) → ∃ r, F139_1 hc n sg best le p = some r ∧ F275_0 n' w best p (mset hm 0 0 0) = some (r, mset hm 0 0 0) := by
    intro sg hsg n
    induction n with
    | zero => intro n' p best le p0 p1 g1 g2; omega
    | succ n ih =>
      intro n' p best le p0 p1 g1 g2 hb
      cases n' with
      | zero => omega
      | succ n' =>
        rw [F139_1, F275_0, e3, m0_ne (show (14 : Nat) ≠ 0 by decide)]
        by_cases e : p = hm 14 3
        · rw [if_pos (by omega), if_pos (by omega)]
          exact ⟨best, rfl, rfl⟩
        · have hp : ¬ hm 14 3 ≤ p := by omega
          obtain ⟨v, a1, a2, a3, a4⟩ := L101 (h := hc) (m := mset hm 0 0 0) (i := 0) (p := p) p0 (by omega) hR
          have es : wmul sg v = sg * v := by
            rcases hsg with ⟨u, -⟩ | ⟨u, -⟩ <;> subst u <;> exact wmul_eq (by omega) (by omega)
          have ep : wadd p 1 = p + 1 := wadd_eq (by omega) (by omega)
          rw [if_neg hp, if_neg hp, a1]
          simp only [Option.bind_some]
          rw [es]
          have next : ∀ b l, (b = -1 ∨ (0 ≤ b ∧ b < p + 1 ∧ ∃ v, F211 b (mset hm 0 0 0) = some v ∧ l = sg * v ∧ 0 ≤ v ∧ v ≤ 3000)) → ∃ r, F139_1 hc n sg b l (p + 1) = some r ∧ F275_0 n' w b (p + 1) (mset hm 0 0 0) = some (r, mset hm 0 0 0) := fun b l hb => ih n' (p + 1) b l (by omega) (by omega) (by omega) (by omega) hb
          have nw := next p (sg * v) (Or.inr ⟨p0, by omega, v, a2, rfl, a3, a4⟩)
          by_cases q1 : best = -1
          · rw [if_pos q1, if_pos q1]
            unfold F139_2 F139_3 F275_1 F275_2
            rw [ep]
            exact nw
          · rw [if_neg q1, if_neg q1]
            rcases hb with hb | ⟨b0, b1, v', b2, b3, b4, b5⟩
            · exact absurd hb q1
            · have st := next best le (Or.inr ⟨b0, by omega, v', b2, b3, b4, b5⟩)
              rw [a2, b2]
              simp only [Option.bind_some]
              unfold F139_2 F139_3 F275_1 F275_2
              rw [ep]
              rcases hsg with ⟨u, u2⟩ | ⟨u, u2⟩
              · subst u
                rw [if_pos (show ¬ w = 1 from u2)]
                by_cases q2 : v' ≤ v
                · rw [if_pos (by omega), if_pos q2]
                  exact st
                · rw [if_neg (by omega), if_neg q2]
                  exact nw
              · subst u
                rw [if_neg (show ¬ ¬ w = 1 from fun x => x u2)]
                by_cases q2 : v ≤ v'
                · rw [if_pos (by omega), if_pos q2]
                  exact st
                · rw [if_neg (by omega), if_neg q2]
                  exact nw
  unfold F139 F275 F139_0
  rw [E188]
  simp only [Option.bind_some]
  by_cases q1 : 0 ≤ w ∧ w ≤ 1
  · rw [if_neg (show ¬ w < 0 by omega), if_pos (show w ≤ 1 by omega)]
    simp only [if_pos q1, zn10]
    by_cases q2 : w = 1
    · rw [if_neg (fun x => x q2)]
      obtain ⟨r, e1, e2⟩ := key (-1) (Or.inr ⟨rfl, q2⟩) zFu zFu 0 (-1) 0 (by decide) (by omega) (by omega) (by omega) (Or.inl rfl)
      exact ⟨r, _, e1, e2, h0⟩
    · rw [if_pos q2]
      obtain ⟨r, e1, e2⟩ := key 1 (Or.inl ⟨rfl, q2⟩) zFu zFu 0 (-1) 0 (by decide) (by omega) (by omega) (by omega) (Or.inl rfl)
      exact ⟨r, _, e1, e2, h0⟩
  · simp only [if_neg q1, zn00]
    refine ⟨-1, _, ?_, rfl, h0⟩
    by_cases u : w < 0
    · rw [if_pos u]
    · rw [if_neg u, if_neg (by omega)]
theorem F259_s {m : zHM} {c x l : Int} (hW : WC (m 14)) (h6 : m 14 2 ≤ 6) (c0 : 0 ≤ c) (c1 : c < m 14 2) (x0 : 0 ≤ x) (x1 : x < 100) (l0 : 0 ≤ l) (l1 : l ≤ 9) : F259 c x l m = some (zDir (m 14) c x l) := by
  obtain ⟨w1, w2, -⟩ := hW c c0 c1
  have zr := zD_rng w1 w2 x0 x1
  unfold F259 zDir
  by_cases q : l ≤ 0
  · rw [if_pos q, if_pos (by omega)]
  · rw [if_neg q, if_neg (by omega), F229_s c0 (by omega)]
    simp only [Option.bind_some]
    rw [F230_s x0 x1 w1 w2]
    simp only [Option.bind_some]
    rw [zD_comm (a := x), wdiv_eq (by omega) (by omega) (by decide) (by decide), wsub_eq (by omega) (by omega)]
    split <;> rfl
theorem C_reach {hc : zHC} {hm : zHM} {x l : Int} (h : RG hc hm) (hx : zR32 x) : ∃ r hm', F140 x l hc = some r ∧ F260 x l hm = some (r, hm') ∧ RG hc hm' := by
  have w6 := RG_WN h
  unfold WN at w6
  have h0 := RG_0 (x := 0) h
  have big := zFu_big
  obtain ⟨hN, hC, hP, hM, hF, hS, hQ, hVW⟩ := id h0.2.1.1
  unfold F140 F260
  rw [E69 (RG_VN h), E224 (m := mset hm 0 0 0) (a := hm 14) (m0_ne (by decide)) (m0_ne (by decide)), E74, E188]
  simp only [Option.bind_some]
  by_cases q1 : zCell (hm 14) x
  · by_cases q2 : 1 ≤ l ∧ l ≤ 9
    · simp only [if_pos q1, if_pos q2, z10, zn10]
      have x0 := q1.1
      have x1 := zCell_lt q1 hx.2 (by omega)
      rw [F77_s h0.2.1.1 x0 x1 (by omega) q2.2]
      simp only [Option.bind_some]
      have lr := zLoud_rng (f := (mset hm 0 0 0) 14 (97 + x)) (l := l) (by omega) q2.2
      have e2 : (mset hm 0 0 0) 14 2 = hm 14 2 := m0_ne (by decide)
      have key : ∀ (n n' : Nat) (c acc : Int), 0 ≤ c → c ≤ hm 14 2 → hm 14 2 - c < n → hm 14 2 - c < n' → ∃ r, F140_0 hc n x (zLoud ((mset hm 0 0 0) 14 (97 + x)) l) acc c = some r ∧ F260_0 n' x l acc c (mset hm 0 0 0) = some (r, mset hm 0 0 0) := by
        intro n
        induction n with
        | zero => intro n' c acc c0 c1 g1 g2; omega
        | succ n ih =>
          intro n' c acc c0 c1 g1 g2
          cases n' with
          | zero => omega
          | succ n' =>
            rw [F140_0, F260_0, (RG_VN h).2.2.1, e2]
            by_cases e : c = hm 14 2
            · rw [if_pos (by omega), if_pos (by omega)]
              exact ⟨acc, rfl, rfl⟩
            · have hcc : ¬ hm 14 2 ≤ c := by omega
              have ec : wadd c 1 = c + 1 := wadd_eq (by omega) (by omega)
              rw [if_neg hcc, if_neg hcc, F82_s hC hVW.2.1 (by omega) c0 (by omega) x0 x1 lr.1 lr.2, F228_s x0 x1 (by omega) q2.2]
              simp only [Option.bind_some]
              rw [F259_s hVW.2.1 (by omega) c0 (by omega) x0 x1 lr.1 lr.2]
              simp only [Option.bind_some]
              unfold F140_1 F260_1
              rw [ec]
              split
              · exact ih n' (c + 1) acc (by omega) (by omega) (by omega) (by omega)
              · exact ih n' (c + 1) _ (by omega) (by omega) (by omega) (by omega)
      obtain ⟨r, e1, e2⟩ := key zFu zFu 0 0 (by decide) (by omega) (by omega) (by omega)
      exact ⟨r, _, e1, e2, h0⟩
    · simp only [if_pos q1, if_neg q2, z10, z00, zn00]
      exact ⟨_, _, rfl, rfl, h0⟩
  · simp only [if_neg q1, z00]
    exact ⟨_, _, rfl, rfl, h0⟩
theorem F77_e {h : zHC} {v x l : Int} {a nm : Int → Int} (hV : VR h v a nm) (x0 : 0 ≤ x) (x1 : x < 100) : ∃ r, F77 v x l h = some r := by
  obtain ⟨hN, hC, hP, hM, hF, hS, hQ, hW⟩ := hV
  have w6 := hW.1
  unfold WN at w6
  unfold F77
  rw [F47_s hN.2.2.2.2.2.1 (by omega) (by omega) hF x0 x1]
  simp only [Option.bind_some]
  generalize (if 0 < a (97 + x) then (1 : Int) else 0) = q
  by_cases e : q = 0
  · rw [if_pos e]
    exact ⟨_, rfl⟩
  · rw [if_neg e]
    exact ⟨_, rfl⟩
theorem F82_e {h : zHC} {v c x l : Int} {a : Int → Int} (hC : VC h v a) (hW : WC a) (h6 : a 2 ≤ 6) (c0 : 0 ≤ c) (c1 : c < a 2) (x0 : 0 ≤ x) (x1 : x < 100) : ∃ r, F82 v c x l h = some r := by
  obtain ⟨w1, w2, -⟩ := hW c c0 c1
  unfold F82
  rw [zG_t (by omega), (hC c c0 c1).1, F83_s w1 w2 x0 x1]
  simp only [Option.bind_some]
  by_cases u : l < 1
  · rw [if_pos u]
    exact ⟨_, rfl⟩
  · rw [if_neg u]
    by_cases u2 : l < zD (a (7 + 3 * c)) x
    · rw [if_pos u2]
      exact ⟨_, rfl⟩
    · rw [if_neg u2]
      exact ⟨_, rfl⟩
/-- nearest's loop ends, whatever the LOUD -/
theorem F117_e {hc : zHC} {hm : zHM} {x : Int} (h : RG hc hm) (x0 : 0 ≤ x) (x1 : x < 100) : ∀ (n : Nat) (L c best most : Int), 0 ≤ c → c ≤ hm 14 2 → hm 14 2 - c < n → ∃ r, F117_0 hc n x L best most c = some r ∧ (hm 14 2 = c → r = best) := by
  have w6 := RG_WN h
  unfold WN at w6
  obtain ⟨hN, hC, hP, hM, hF, hS, hQ, hVW⟩ := id h.2.1.1
  intro n
  induction n with
  | zero => intro L c best most c0 c1 g; omega
  | succ n ih =>
    intro L c best most c0 c1 g
    rw [F117_0, (RG_VN h).2.2.1]
    by_cases e : c = hm 14 2
    · rw [if_pos (by omega)]
      exact ⟨_, rfl, fun _ => rfl⟩
    · have hcc : ¬ hm 14 2 ≤ c := by omega
      have ec : wadd c 1 = c + 1 := wadd_eq (by omega) (by omega)
      obtain ⟨d, hd⟩ := F82_e (l := L) hC hVW.2.1 (by omega) c0 (by omega) x0 x1
      rw [if_neg hcc, hd]
      simp only [Option.bind_some]
      rw [zG_t (by omega)]
      unfold F117_1
      rw [ec]
      generalize (if hc 586 0 c < d then hc 586 0 c else d) = w
      by_cases q : w ≤ most
      · rw [if_pos q]
        obtain ⟨r, hr, -⟩ := ih L (c + 1) best most (by omega) (by omega) (by omega)
        exact ⟨r, hr, fun z => absurd z.symm e⟩
      · rw [if_neg q]
        obtain ⟨r, hr, -⟩ := ih L (c + 1) c w (by omega) (by omega) (by omega)
        exact ⟨r, hr, fun z => absurd z.symm e⟩
theorem C_nearest {hc : zHC} {hm : zHM} {x l : Int} (h : RG hc hm) (hx : zR32 x) : ∃ r r2 hm', F117 x l hc = some r ∧ F258 x l hm = some (r2, hm') ∧ RG hc hm' ∧ (((1 ≤ l ∧ l ≤ 9) ∨ hm 14 2 = 0) → r = r2) := by
  have w6 := RG_WN h
  unfold WN at w6
  have h0 := RG_0 (x := 0) h
  have big := zFu_big
  obtain ⟨hN, hC, hP, hM, hF, hS, hQ, hVW⟩ := id h0.2.1.1
  unfold F117 F258
  rw [E69 (RG_VN h), E224 (m := mset hm 0 0 0) (a := hm 14) (m0_ne (by decide)) (m0_ne (by decide)), E188]
  simp only [Option.bind_some]
  by_cases q1 : zCell (hm 14) x
  · have x0 := q1.1
    have x1 := zCell_lt q1 hx.2 (by omega)
    by_cases q2 : 1 ≤ l ∧ l ≤ 9
    · simp only [if_pos q1, if_pos q2, z10, zn10, if_pos (show 0 < l by omega)]
      rw [F77_s h0.2.1.1 x0 x1 (by omega) q2.2]
      simp only [Option.bind_some]
      have lr := zLoud_rng (f := (mset hm 0 0 0) 14 (97 + x)) (l := l) (by omega) q2.2
      have e2 : (mset hm 0 0 0) 14 2 = hm 14 2 := m0_ne (by decide)
      have key : ∀ (n n' : Nat) (c best most : Int), 0 ≤ c → c ≤ hm 14 2 → hm 14 2 - c < n → hm 14 2 - c < n' → ∃ r, F117_0 hc n x (zLoud ((mset hm 0 0 0) 14 (97 + x)) l) best most c = some r ∧ F258_0 n' x l best most c (mset hm 0 0 0) = some (r, mset hm 0 0 0) := by
        intro n
        induction n with
        | zero => intro n' c best most c0 c1 g1 g2; omega
        | succ n ih =>
          intro n' c best most c0 c1 g1 g2
          cases n' with
          | zero => omega
          | succ n' =>
            rw [F117_0, F258_0, (RG_VN h).2.2.1, e2]
            by_cases e : c = hm 14 2
            · rw [if_pos (by omega), if_pos (by omega)]
              exact ⟨best, rfl, rfl⟩
            · have hcc : ¬ hm 14 2 ≤ c := by omega
              have ec : wadd c 1 = c + 1 := wadd_eq (by omega) (by omega)
              have es := (h.2.1.1.2.1 c c0 (by omega)).2.2
              rw [if_neg hcc, if_neg hcc, F82_s hC hVW.2.1 (by omega) c0 (by omega) x0 x1 lr.1 lr.2, F228_s x0 x1 (by omega) q2.2]
              simp only [Option.bind_some]
              rw [F259_s hVW.2.1 (by omega) c0 (by omega) x0 x1 lr.1 lr.2, zG_t (by omega), es]
              simp only [Option.bind_some]
              rw [F207_s c0 (by omega), m0_ne (r := 14) (j := 7 + 3 * c + 2) (by decide)]
              simp only [Option.bind_some]
              unfold F238
              generalize zDir _ c x _ = D
              by_cases q3 : hm 14 (7 + 3 * c + 2) ≤ D
              · rw [if_pos q3]
                simp only [Option.bind_some]
                have e4 : (if hm 14 (7 + 3 * c + 2) < D then hm 14 (7 + 3 * c + 2) else D) = hm 14 (7 + 3 * c + 2) := by split <;> omega
                rw [e4]
                unfold F117_1 F258_1
                rw [ec]
                by_cases q4 : hm 14 (7 + 3 * c + 2) ≤ most
                · rw [if_pos q4, if_neg (show ¬ most < hm 14 (7 + 3 * c + 2) by omega)]
                  exact ih n' (c + 1) _ _ (by omega) (by omega) (by omega) (by omega)
                · rw [if_neg q4, if_pos (show most < hm 14 (7 + 3 * c + 2) by omega)]
                  exact ih n' (c + 1) _ _ (by omega) (by omega) (by omega) (by omega)
              · rw [if_neg q3]
                simp only [Option.bind_some]
                have e4 : (if hm 14 (7 + 3 * c + 2) < D then hm 14 (7 + 3 * c + 2) else D) = D := by rw [if_neg (by omega)]
                rw [e4]
                unfold F117_1 F258_1
                rw [ec]
                by_cases q4 : D ≤ most
                · rw [if_pos q4, if_neg (show ¬ most < D by omega)]
                  exact ih n' (c + 1) _ _ (by omega) (by omega) (by omega) (by omega)
                · rw [if_neg q4, if_pos (show most < D by omega)]
                  exact ih n' (c + 1) _ _ (by omega) (by omega) (by omega) (by omega)
      obtain ⟨r, e1, e2⟩ := key zFu zFu 0 (-1) 0 (by decide) (by omega) (by omega) (by omega)
      exact ⟨r, r, _, e1, e2, h0, fun _ => rfl⟩
    · simp only [if_pos q1, if_neg q2, z10, zn10, zn00]
      obtain ⟨L, hL⟩ := F77_e (l := if 0 < l then l else 0) h.2.1.1 x0 x1
      rw [hL]
      simp only [Option.bind_some]
      obtain ⟨r, e1, e2⟩ := F117_e h x0 x1 zFu L 0 (-1) 0 (by decide) (by omega) (by omega)
      exact ⟨r, -1, _, e1, rfl, h0, fun z => z.elim (fun z => absurd z q2) (fun z => e2 z)⟩
  · simp only [if_neg q1, z00, zn00]
    exact ⟨_, _, _, rfl, rfl, h0, fun _ => rfl⟩
end
section
/-! Runs aside. -/
theorem L244 {m : zHM} : ∃ m', F244 m = some m' ∧ (∀ j, 0 ≤ j → j < 1689 → m' 18 j = m 14 (209 + j)) ∧ ∀ r j, r ≠ 18 → m' r j = m r j := by
  have key : ∀ (n : Nat) (q : Int) (m1 : zHM), 0 ≤ q → q ≤ 1689 → 1689 - q < n → (∀ j, 0 ≤ j → j < q → m1 18 j = m 14 (209 + j)) → (∀ r j, r ≠ 18 → m1 r j = m r j) → ∃ m', F244_0 n q m1 = some m' ∧ (∀ j, 0 ≤ j → j < 1689 → m' 18 j = m 14 (209 + j)) ∧ ∀ r j, r ≠ 18 → m' r j = m r j := by
    intro n
    induction n with
    | zero => intro q m1 q0 q1 g; omega
    | succ n ih =>
      intro q m1 q0 q1 g e1 e2
      rw [F244_0]
      by_cases e : q = 1689
      · subst e
        rw [if_pos (by omega)]
        exact ⟨m1, rfl, e1, e2⟩
      · rw [if_neg (by omega), wadd_eq (x := 209) (by omega) (by omega), zG_t (by omega), zG_t (by omega), wadd_eq (by omega) (by omega)]
        refine ih (q + 1) _ (by omega) (by omega) (by omega) (fun j j0 j1 => ?_) (fun r j hne => ?_)
        · by_cases u : j = q
          · subst u
            rw [mset_eq]
            exact e2 14 _ (by decide)
          · rw [mset_ne (by omega)]
            exact e1 j j0 (by omega)
        · rw [mset_ne (by omega)]
          exact e2 r j hne
  have big := zFu_big
  exact key zFu 0 m (by decide) (by decide) (by omega) (fun j j0 j1 => by omega) (fun _ _ _ => rfl)
def mA (m m2 : zHM) : Prop := (∀ j, 0 ≤ j → j < 1689 → m2 18 j = m 14 (209 + j)) ∧ ∀ r j, ¬ ((r = 14 ∧ 209 ≤ j ∧ j < 1898) ∨ (r = 0 ∨ (3 ≤ r ∧ r ≤ 9) ∨ (11 ≤ r ∧ r ≤ 13) ∨ r = 15 ∨ r = 18 ∨ r = 20 ∨ (24 ≤ r ∧ r ≤ 28) ∨ (30 ≤ r ∧ r ≤ 34) ∨ (36 ≤ r ∧ r ≤ 40) ∨ r = 43 ∨ (45 ≤ r ∧ r ≤ 49))) → m2 r j = m r j
def mfN (m m' : zHM) : Prop := ∀ r j, ¬ ((r = 14 ∧ 209 ≤ j ∧ j < 1898) ∨ (38 ≤ r ∧ r ≤ 40) ∨ r = 25) → m' r j = m r j
theorem mfD_N {m m' : zHM} (h : mfD m m') : mfN m m' := fun r j hne => h.2.2 r j (by omega)
theorem mfE_N {m m' : zHM} (h : mfE m m') : mfN m m' := fun r j hne => h r j (by omega)
theorem mA_N {m m1 m2 : zHM} (h : mA m m1) (h2 : mfN m1 m2) : mA m m2 :=
  ⟨fun j j0 j1 => by rw [h2 18 j (by omega)]; exact h.1 j j0 j1, fun r j hne => by rw [h2 r j (by omega)]; exact h.2 r j hne⟩
theorem A_end {m m2 : zHM} (h : mA m m2) : ∃ m3, F245 m2 = some m3 ∧ scM m m3 ∧ ∀ r j, r ≠ 14 → m3 r j = m2 r j := by
  obtain ⟨a1, a2⟩ := h
  have key : ∀ (n : Nat) (q : Int) (m1 : zHM), 0 ≤ q → q ≤ 1689 → 1689 - q < n → (∀ j, 209 ≤ j → j < 209 + q → m1 14 j = m 14 j) → (∀ r j, ¬ (r = 14 ∧ 209 ≤ j ∧ j < 209 + q) → m1 r j = m2 r j) → ∃ m3, F245_0 n q m1 = some m3 ∧ scM m m3 ∧ ∀ r j, r ≠ 14 → m3 r j = m2 r j := by
    intro n
    induction n with
    | zero => intro q m1 q0 q1 g; omega
    | succ n ih =>
      intro q m1 q0 q1 g e1 e2
      rw [F245_0]
      by_cases e : q = 1689
      · subst e
        rw [if_pos (by omega)]
        refine ⟨m1, rfl, fun r j hne => ?_, fun r j hne => e2 r j (fun w => hne w.1)⟩
        by_cases u : r = 14 ∧ 209 ≤ j ∧ j < 1898
        · obtain ⟨u1, u2, u3⟩ := u
          subst u1
          exact e1 j u2 (by omega)
        · rw [e2 r j (by omega)]
          exact a2 r j (by omega)
      · rw [if_neg (by omega), wadd_eq (x := 209) (by omega) (by omega), zG_t (by omega), zG_t (by omega), wadd_eq (by omega) (by omega)]
        refine ih (q + 1) _ (by omega) (by omega) (by omega) (fun j j0 j1 => ?_) (fun r j hne => ?_)
        · by_cases u : j = 209 + q
          · subst u
            rw [mset_eq, e2 18 q (by omega)]
            exact a1 q q0 (by omega)
          · rw [mset_ne (by omega)]
            exact e1 j j0 (by omega)
        · rw [mset_ne (by omega)]
          exact e2 r j (by omega)
  have big := zFu_big
  exact key zFu 0 m2 (by decide) (by decide) (by omega) (fun j j0 j1 => by omega) (fun _ _ _ => rfl)
theorem A_beg {hc : zHC} {hm : zHM} (h : RG hc hm) : ∃ h1 m1, F71 1 0 hc = some h1 ∧ F244 hm = some m1 ∧ CI h1 m1 1 0 0 (hm 19) ∧ (∀ r n j, ¬ (64 ≤ r ∧ r ≤ 72 ∧ n = 1) → h1 r n j = hc r n j) ∧ mA hm m1 ∧ (∀ j, m1 14 j = hm 14 j) := by
  obtain ⟨hV, hR⟩ := h.2.1
  obtain ⟨h1, a1, a2, a3⟩ := L71 (h := hc) (i := 1) (j := 0) (a := hm 14) (by decide) hR (VR_n hV)
  obtain ⟨m1, b1, b2, b3⟩ := L244 (m := hm)
  have e14 : m1 14 = hm 14 := by funext j; exact b3 14 j (by decide)
  refine ⟨h1, m1, a1, b1, CR_CI ?_ ?_, a3, ⟨b2, fun r j hne => b3 r j (by omega)⟩, fun j => b3 14 j (by decide)⟩
  · rw [e14]
    exact VR_keep (fun r j g0 g1 => a3 r 0 j (by omega)) (fun _ _ _ => rfl) (fun _ _ _ => rfl) hV
  · rw [e14]
    exact a2
/-- with nothing said -/
theorem A_beg0 {hc : zHC} {hm : zHM} (h : RG hc hm) : ∃ h1 m1, F72 1 0 hc = some h1 ∧ F244 hm = some m1 ∧ CI h1 m1 1 0 (hm 14 216) (hm 19) ∧ h1 65 1 0 = 0 ∧ (∀ r n j, ¬ (64 ≤ r ∧ r ≤ 72 ∧ n = 1) → h1 r n j = hc r n j) ∧ mA hm m1 ∧ (∀ j, m1 14 j = hm 14 j) := by
  obtain ⟨hV, hR⟩ := h.2.1
  obtain ⟨h1, a1, a2, a3, a4, a5, a6⟩ := L72 (h := hc) (i := 1) (j := 0) (by decide) hV hR
  obtain ⟨m1, b1, b2, b3⟩ := L244 (m := hm)
  have e14 : m1 14 = hm 14 := by funext j; exact b3 14 j (by decide)
  obtain ⟨n0, n1, hq⟩ := CW_n hR.2.2
  refine ⟨h1, m1, a1, b1, ⟨by rw [e14]; exact a2, by rw [e14]; exact a3, by rw [a5, e14]; exact n0, fun s0 => ?_, by rw [e14]; exact hR.2.2⟩, a4, a6, ⟨b2, fun r j hne => b3 r j (by omega)⟩, fun j => b3 14 j (by decide)⟩
  have z : hm 14 997 = 0 := by
    rw [hq.1.2, s0]
    rfl
  refine ⟨by rw [a5, e14, z], fun j j0 j1 => ?_⟩
  rw [e14, z] at j1
  omega
theorem scC_1 {hc h1 h2 : zHC} (f1 : ∀ r n j, ¬ (64 ≤ r ∧ r ≤ 72 ∧ n = 1) → h1 r n j = hc r n j) (f2 : ∀ r n j, ¬ (64 ≤ r ∧ r ≤ 72 ∧ n = 1) → h2 r n j = h1 r n j) : scC hc h2 := fun r n j hne => by rw [f2 r n j (by omega), f1 r n j (by omega)]
theorem cfC_1 {h h' : zHC} (hc : cfC 1 h h') : ∀ r n j, ¬ (64 ≤ r ∧ r ≤ 72 ∧ n = 1) → h' r n j = h r n j := fun r n j hne => hc.2.2 r n j (by omega)
theorem P_camp {hc : zHC} {hm : zHM} {p x n : Int} (h : RG hc hm) (p0 : 0 ≤ p) (p1 : p < hm 14 3) (x0 : 0 ≤ x) (x1 : x < 100) (n1 : n ≤ 1000) : ∃ r hc' hm', F100 p x n hc = some (r, hc') ∧ F243 p x n hm = some (r, hm') ∧ scC hc hc' ∧ scM hm hm' ∧ 0 ≤ r := by
  have w6 := RG_WN h
  unfold WN at w6
  obtain ⟨h1, m1, a1, a2, a3, a4, a5, a6⟩ := A_beg h
  unfold F100 F243
  rw [a1, a2]
  simp only [Option.bind_some]
  rw [zG_t (by omega), wadd_eq (by omega) (by omega), zG_t (by omega)]
  have hI := CI_place (p := p) (x := x) a3 p0 (by omega) x0 x1
  obtain ⟨r, h2, m2, b1, b2, b3, b4, b5⟩ := P_hours' n1 hI
  rw [b1, b2]
  simp only [Option.bind_some]
  obtain ⟨q, c1, c2, c3, c4⟩ := L101 (p := p) p0 (by omega) (CI_CR b3)
  obtain ⟨m3, d1, d2, d3⟩ := A_end (mA_N a5 (m2 := m2) (fun r j hne => by rw [mfD_N b5 r j hne, mset_ne (by omega)]))
  rw [c1, c2, d1]
  exact ⟨q, h2, m3, rfl, rfl, scC_1 a4 (fun r n j hne => by rw [cfC_1 b4 r n j hne, hset_ne (by omega)]), d2, c3⟩
theorem C_camping {hc : zHC} {hm : zHM} {p x n : Int} (h : RG hc hm) (hx : zR32 x) : ∃ r hc' hm', F102 p x n hc = some (r, hc') ∧ F246 p x n hm = some (r, hm') ∧ RG hc' hm' := by
  have w6 := RG_WN h
  unfold WN at w6
  have h0 := RG_0 (x := 0) h
  unfold F102 F246
  rw [E61 (RG_VN h).2.2.2.1, E210 (m := mset hm 0 0 0) (b := hm 14 3) (m0_ne (by decide)), E69 (RG_VN h), E224 (m := mset hm 0 0 0) (a := hm 14) (m0_ne (by decide)) (m0_ne (by decide)), E99, E242]
  simp only [Option.bind_some]
  by_cases q1 : 0 ≤ p ∧ p < hm 14 3
  · by_cases q2 : zCell (hm 14) x
    · by_cases q3 : 1 ≤ n ∧ n ≤ 60
      · simp only [if_pos q1, if_pos q2, if_pos q3, z10, zn10]
        obtain ⟨r, h', m', e1, e2, e3, e4, e5⟩ := P_camp (p := p) (x := x) (n := n) h0 q1.1 (by rw [m0_ne (by decide)]; exact q1.2) q2.1 (zCell_lt q2 hx.2 (by omega)) (by omega)
        rw [e1, e2]
        exact ⟨r, h', m', rfl, rfl, RG_sc h0 e3 e4⟩
      · simp only [if_pos q1, if_pos q2, if_neg q3, z10, z00, zn00]
        exact ⟨_, _, _, rfl, rfl, h0⟩
    · simp only [if_pos q1, if_neg q2, z10, z00]
      exact ⟨_, _, _, rfl, rfl, h0⟩
  · simp only [if_neg q1, z00]
    exact ⟨_, _, _, rfl, rfl, h0⟩
theorem C_camp {hc : zHC} {hm : zHM} {p n : Int} (h : RG hc hm) : ∃ r hc' hm', F98 p n hc = some (r, hc') ∧ F241 p n hm = some (r, hm') ∧ RG hc' hm' := by
  have w6 := RG_WN h
  unfold WN at w6
  have h0 := RG_0 (x := 0) h
  have big := zFu_big
  unfold F98 F241
  rw [E61 (RG_VN h).2.2.2.1, E210 (m := mset hm 0 0 0) (b := hm 14 3) (m0_ne (by decide)), E99, E242]
  simp only [Option.bind_some]
  by_cases q1 : 0 ≤ p ∧ p < hm 14 3
  · by_cases q3 : 1 ≤ n ∧ n ≤ 60
    · simp only [if_pos q1, if_pos q3, z10, zn10]
      have key : ∀ (k k' : Nat) (best most x : Int) (h1 : zHC) (m1 : zHM), RG h1 m1 → (∀ j, m1 14 j = hm 14 j) → 0 ≤ x → x ≤ 100 → 100 - x < k → 100 - x < k' → ∃ r hc' hm', F98_0 k p n best most x h1 = some (r, hc') ∧ F241_0 k' p n best most x m1 = some (r, hm') ∧ RG hc' hm' := by
        intro k
        induction k with
        | zero => intro k' best most x h1 m1 g e x0 x1 g1 g2; omega
        | succ k ih =>
          intro k' best most x h1 m1 g e x0 x1 g1 g2
          cases k' with
          | zero => omega
          | succ k' =>
            rw [F98_0, F241_0]
            by_cases u : 100 ≤ x
            · rw [if_pos u, if_pos u]
              exact ⟨_, _, _, rfl, rfl, g⟩
            · have ex : wadd x 1 = x + 1 := wadd_eq (by omega) (by omega)
              rw [if_neg u, if_neg u, E69 (RG_VN g), E224 (m := m1) (a := m1 14) rfl rfl]
              simp only [Option.bind_some]
              unfold F98_1 F98_2 F241_1 F241_2
              rw [ex]
              by_cases q2 : zCell (m1 14) x
              · simp only [if_pos q2, z10]
                obtain ⟨r, h', m', e1, e2, e3, e4, e5⟩ := P_camp (p := p) (x := x) (n := n) g q1.1 (by rw [e]; exact q1.2) x0 (by omega) (by omega)
                rw [e1, e2]
                simp only [Option.bind_some]
                have g' := RG_sc g e3 e4
                have e' : ∀ j, m' 14 j = hm 14 j := fun j => by rw [e4 14 j (by omega)]; exact e j
                by_cases q4 : r ≤ most
                · rw [if_pos q4, if_neg (show ¬ most < r by omega)]
                  exact ih k' _ _ (x + 1) h' m' g' e' (by omega) (by omega) (by omega) (by omega)
                · rw [if_neg q4, if_pos (show most < r by omega)]
                  exact ih k' _ _ (x + 1) h' m' g' e' (by omega) (by omega) (by omega) (by omega)
              · simp only [if_neg q2, z00]
                by_cases q4 : -1 ≤ most
                · rw [if_pos q4, if_neg (show ¬ most < -1 by omega)]
                  exact ih k' _ _ (x + 1) h1 m1 g e (by omega) (by omega) (by omega) (by omega)
                · rw [if_neg q4, if_pos (show most < -1 by omega)]
                  exact ih k' _ _ (x + 1) h1 m1 g e (by omega) (by omega) (by omega) (by omega)
      exact key zFu zFu (-1) (-1) 0 hc _ h0 (fun j => m0_ne (by decide)) (by decide) (by decide) (by omega) (by omega)
    · simp only [if_pos q1, if_neg q3, z10, z00, zn00]
      exact ⟨_, _, _, rfl, rfl, h0⟩
  · simp only [if_neg q1, z00]
    exact ⟨_, _, _, rfl, rfl, h0⟩
theorem C_heirs {hc : zHC} {hm : zHM} {s n : Int} (h : RG hc hm) : ∃ r hc' hm', F114 s n hc = some (r, hc') ∧ F255 s n hm = some (r, hm') ∧ RG hc' hm' := by
  have h0 := RG_0 (x := 0) h
  have e65 : hc 65 0 0 = hm 14 216 := by have := h.2.1.2.1.2.1; omega
  have c34 := h.2.1.2.2.2.2.1
  unfold F114 F255
  rw [E58 e65, E217 (m := mset hm 0 0 0) (b := hm 14 216) (m0_ne (by decide)), E99, E242]
  simp only [Option.bind_some]
  by_cases q1 : 0 ≤ s ∧ s < hm 14 216
  · by_cases q3 : 1 ≤ n ∧ n ≤ 60
    · simp only [if_pos q1, if_pos q3, z10, zn10]
      obtain ⟨h1, m1, a1, a2, a3, a4, a5, a6⟩ := A_beg h0
      rw [a1, a2]
      simp only [Option.bind_some]
      obtain ⟨r, h2, m2, b1, b2, b3, b4, b5⟩ := P_hours' (n := n) (by omega) a3
      rw [b1, b2]
      simp only [Option.bind_some]
      have e2 : m2 14 216 = hm 14 216 := by rw [b5.2.1, a6, m0_ne (by decide)]
      have t1 := (b3.2.1.2.2.2.2.2.2 s q1.1 (by have := b3.2.1.2.1; omega)).1 5 (by decide) (by decide)
      rw [show (0 : Int) + s = s by omega] at t1
      obtain ⟨m3, d1, d2, d3⟩ := A_end (mA_N a5 (mfD_N b5))
      rw [F63_s q1.1 (by omega) (by decide) (by decide), F213_s q1.1 (by omega) (by decide) (by decide), t1, d1]
      exact ⟨_, _, _, rfl, rfl, RG_sc h0 (scC_1 a4 (cfC_1 b4)) d2⟩
    · simp only [if_pos q1, if_neg q3, z10, z00, zn00]
      exact ⟨_, _, _, rfl, rfl, h0⟩
  · simp only [if_neg q1, z00]
    exact ⟨_, _, _, rfl, rfl, h0⟩
theorem C_next {hc : zHC} {hm : zHM} {n : Int} (h : RG hc hm) : ∃ r hc' hm', F113 n hc = some (r, hc') ∧ F254 n hm = some (r, hm') ∧ RG hc' hm' := by
  have h0 := RG_0 (x := 0) h
  have big := zFu_big
  unfold F113 F254
  rw [E188]
  simp only [Option.bind_some]
  by_cases q1 : 1 ≤ n ∧ n ≤ 100
  · rw [if_neg (show ¬ n < 1 by omega), if_pos (show n ≤ 100 by omega)]
    simp only [if_pos q1, zn10]
    obtain ⟨h1, m1, a1, a2, a3, a4, a5, a6⟩ := A_beg h0
    rw [a1, a2]
    simp only [Option.bind_some]
    have hN := CW_n a3.2.2.2.2
    have e0 : h1 66 0 0 = m1 14 997 := by rw [a4 _ _ _ (by omega), a6]; exact h0.2.1.2.2.1.1
    have key : ∀ (k k' : Nat) (p : Int) (h2 : zHC) (m2 : zHM), CI h2 m2 1 0 0 (hm 19) → h2 66 0 0 = m1 14 997 → m2 14 997 = m1 14 997 → (∀ r n j, ¬ (64 ≤ r ∧ r ≤ 72 ∧ n = 1) → h2 r n j = h1 r n j) → mfN m1 m2 → 0 ≤ p → n - p < k → n - p < k' → 0 < k → 0 < k' → ∃ r q hc' m3, F113_0 k n p h2 = some (r, hc') ∧ F235_0 k' n p m2 = some (q, m3) ∧ ((r = -1 ∧ m3 14 997 = m1 14 997) ∨ (m1 14 997 < m3 14 997 ∧ r = m3 14 (998 + 5 * m1 14 997 + 2))) ∧ (∀ r n j, ¬ (64 ≤ r ∧ r ≤ 72 ∧ n = 1) → hc' r n j = h1 r n j) ∧ mfN m1 m3 := by
      intro k
      induction k with
      | zero => intro k' p h2 m2 i1 i2 i3 i4 i5 p0 g1 g2 g3 g4; omega
      | succ k ih =>
        intro k' p h2 m2 i1 i2 i3 i4 i5 p0 g1 g2 g3 g4
        cases k' with
        | zero => omega
        | succ k' =>
          obtain ⟨j1, j2, j3, j4, j5⟩ := id i1
          rw [F113_0, F235_0, j2.1]
          by_cases e : n ≤ p
          · rw [if_pos e, if_pos e]
            exact ⟨_, _, _, _, rfl, rfl, Or.inl ⟨rfl, i3⟩, i4, i5⟩
          · rw [if_neg e, if_neg e]
            by_cases e2 : 400 ≤ m2 14 209
            · rw [if_pos e2, if_pos e2]
              exact ⟨_, _, _, _, rfl, rfl, Or.inl ⟨rfl, i3⟩, i4, i5⟩
            · rw [if_neg e2, if_neg e2]
              obtain ⟨h3, m3, b1, b2, b3, b4, b5, b6, b7, b8, b9, b10⟩ := P_pass (st := 0) j1 j2 j3 j4 j5 (by omega) (by decide) (by decide)
              rw [b1, b2]
              simp only [Option.bind_some]
              have ep : wadd p 1 = p + 1 := wadd_eq (by omega) (by omega)
              have e66 : h3 66 1 0 = m3 14 997 := (b6 rfl).1
              have e660 : h3 66 0 0 = m1 14 997 := by rw [cfC_1 b9 _ _ _ (by omega)]; exact i2
              have f3 : ∀ r n j, ¬ (64 ≤ r ∧ r ≤ 72 ∧ n = 1) → h3 r n j = h1 r n j := fun r n j hne => by rw [cfC_1 b9 r n j hne]; exact i4 r n j hne
              have n3 : mfN m1 m3 := fun r j hne => by rw [b10.2.2.2 r j (by omega)]; exact i5 r j hne
              rw [e66, e660, ep]
              by_cases e3 : m3 14 997 ≤ m1 14 997
              · rw [if_pos e3]
                exact ih k' (p + 1) h3 m3 ⟨b3, b4, b5, b6, b7⟩ e660 (by have := b10.1; omega) f3 n3 (by omega) (by omega) (by omega) (by omega) (by omega)
              · rw [if_neg e3]
                obtain ⟨q, h4, m4, c1, c2, c3, c4, c5⟩ := P_hours (i := 1) (v := 0) (σ := 0) (n := n) (by omega) k k' (p + 1) h3 m3 ⟨b3, b4, b5, b6, b7⟩ (by omega) (by omega) (by omega) (by omega) (by omega)
                refine ⟨_, q, h3, m4, rfl, c2, Or.inr ⟨by have := c5.1; omega, ?_⟩, f3, fun r j hne => by rw [mfD_N c5 r j hne]; exact n3 r j hne⟩
                rw [c5.2.2 14 _ (by omega), b10.2.1 (m1 14 997) hN.1 (by omega) (by omega)]
                exact b4.1
    obtain ⟨r, q, h2, m2, b1, b2, b3, b4, b5⟩ := key zFu zFu 0 h1 m1 a3 e0 rfl (fun _ _ _ _ => rfl) (fun _ _ _ => rfl) (by decide) (by omega) (by omega) (by omega) (by omega)
    unfold F235
    rw [b1, b2]
    simp only [Option.bind_some]
    obtain ⟨m3, d1, d2, d3⟩ := A_end (mA_N a5 b5)
    unfold F254_0
    rw [d1, wmul_eq (by omega) (by omega), wadd_eq (x := 998) (by omega) (by omega), wadd_eq (y := 2) (by omega) (by omega)]
    refine ⟨r, h2, m3, rfl, ?_, RG_sc h0 (scC_1 a4 b4) d2⟩
    rcases b3 with ⟨u1, u2⟩ | ⟨u1, u2⟩
    · rw [if_pos (by omega), u1]
      rfl
    · rw [if_neg (by omega), zG_t (by omega), u2]
      rfl
  · simp only [if_neg q1, zn00]
    refine ⟨-1, hc, _, ?_, rfl, h0⟩
    by_cases u : n < 1
    · rw [if_pos u]
    · rw [if_neg u, if_neg (by omega)]
end
