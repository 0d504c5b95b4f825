/-! The whole relation between class and model. -/
def kwl : List (List Int) := [[4, 14, 1, 12], [6, 6, 9, 12, 3], [14, 15, 19, 18, 5, 16], [5, 22, 15, 13], [16, 13, 1, 3], [20, 12, 5, 6], [23, 15, 14, 19], [19, 14, 23, 15], [4, 9, 1, 19], [4, 18, 1, 5, 8], [18, 15], [4, 14, 1], [20, 15, 14], [20, 19, 15, 12], [20, 14, 9, 15, 10], [6, 15], [25, 2], [8, 20, 18, 15, 23], [4, 21, 15, 12], [18, 21, 15, 8], [19, 5, 15, 8, 3, 5]]
def kw (j : Int) : List Int := kwl.getD j.toNat []
/-- a sentence as steps -/
def zEx1 (f : Int → Int → Int → Bool) (t : Int × Int × Int) (stk : List Bool) : List Bool :=
  if t.1 = 12 then (match stk with
    | b :: r => (!b) :: r
    | [] => [f t.1 t.2.1 t.2.2])
  else if t.1 = 11 then (match stk with
    | b :: c :: r => (c && b) :: r
    | s => f t.1 t.2.1 t.2.2 :: s)
  else if t.1 = 10 then (match stk with
    | b :: c :: r => (c || b) :: r
    | s => f t.1 t.2.1 t.2.2 :: s)
  else f t.1 t.2.1 t.2.2 :: stk
def zEx (f : Int → Int → Int → Bool) (P : List (Int × Int × Int)) (stk : List Bool) : List Bool := P.foldl (fun s t => zEx1 f t s) stk
def zCl (c : Int → Int) : Nat → List (Int × Int × Int)
  | 0 => []
  | n + 1 => zCl c n ++ [(c (n * 3), c (n * 3 + 1), c (n * 3 + 2))]
/-- a sentence as a tree of nodes -/
def zEv (nd : Int → Int) (f : Int → Int → Int → Bool) : Nat → Int → Option Bool
  | 0, _ => none
  | n + 1, k => if 0 ≤ k ∧ k < 60 then (if nd (4 * k) = 1 then (zEv nd f n (nd (4 * k + 1))).bind fun b => some (!b) else if nd (4 * k) = 2 then (zEv nd f n (nd (4 * k + 1))).bind fun b => (zEv nd f n (nd (4 * k + 2))).bind fun c => some (b && c) else if nd (4 * k) = 3 then (zEv nd f n (nd (4 * k + 1))).bind fun b => (zEv nd f n (nd (4 * k + 2))).bind fun c => some (b || c) else if 63 ≤ nd (4 * k) ∧ nd (4 * k) ≤ 70 ∧ (nd (4 * k) ≤ 66 → nd (4 * k + 2) = 0) ∧ (67 ≤ nd (4 * k) → nd (4 * k + 1) = 0 ∧ 60 ≤ nd (4 * k + 3) ∧ nd (4 * k + 3) ≤ 62) then some (f (nd (4 * k) - 50) (nd (4 * k + 3)) (nd (4 * k + 1) + nd (4 * k + 2))) else none) else none
def RSn (h : zHC) (i : Int) (a : Int → Int) : Prop := 0 ≤ h 384 i 0 ∧ (h 384 i 0 = 0 ↔ a 1898 = 0) ∧ 0 ≤ h 385 i 0 ∧ h 385 i 0 ≤ 40 ∧ (¬ h 384 i 0 = 0 → ∀ f, ∃ b, zEx f (zCl (h 386 i) (h 385 i 0).toNat) [] = [b] ∧ zEv (fun k => a (1900 + k)) f 64 (a 1899) = some b)
theorem zCl_cong {c c' : Int → Int} {n : Nat} (h : ∀ j : Int, 0 ≤ j → j < 3 * n → c' j = c j) : zCl c' n = zCl c n := by
  induction n with
  | zero => rfl
  | succ n ih =>
    unfold zCl
    rw [ih (fun j h0 h1 => h j h0 (by omega)), h (n * 3) (by omega) (by omega), h (n * 3 + 1) (by omega) (by omega), h (n * 3 + 2) (by omega) (by omega)]
theorem zEv_cong {nd nd' : Int → Int} {f : Int → Int → Int → Bool} (h : ∀ j, 0 ≤ j → j < 240 → nd' j = nd j) : ∀ (n : Nat) (k : Int), zEv nd' f n k = zEv nd f n k := by
  intro n
  induction n with
  | zero => intro k; rfl
  | succ n ih =>
    intro k
    rw [zEv, zEv]
    by_cases q : 0 ≤ k ∧ k < 60
    · rw [if_pos q, if_pos q, h (4 * k) (by omega) (by omega), h (4 * k + 1) (by omega) (by omega), h (4 * k + 2) (by omega) (by omega), h (4 * k + 3) (by omega) (by omega), ih, ih]
    · rw [if_neg q, if_neg q]
theorem RSn_cong {h h' : zHC} {i i' : Int} {a a' : Int → Int} (h0 : h' 384 i' 0 = h 384 i 0) (h1 : h' 385 i' 0 = h 385 i 0) (h2 : ∀ j, 0 ≤ j → j < 3 * h 385 i 0 → h' 386 i' j = h 386 i j) (ha : ∀ j, 1898 ≤ j → j < 2140 → a' j = a j) (hR : RSn h i a) : RSn h' i' a' := by
  obtain ⟨r1, r2, r3, r4, r5⟩ := hR
  unfold RSn
  rw [h0, h1, ha 1898 (by decide) (by decide), ha 1899 (by decide) (by decide)]
  refine ⟨r1, r2, r3, r4, fun q f => ?_⟩
  obtain ⟨b, e1, e2⟩ := r5 q f
  refine ⟨b, ?_, ?_⟩
  · rw [zCl_cong (c := h 386 i) (fun j j0 j1 => h2 j j0 (by omega))]
    exact e1
  · rw [zEv_cong (nd := fun k => a (1900 + k)) (fun j j0 j1 => ha _ (by omega) (by omega))]
    exact e2
def RTp (hc : zHC) (hm : zHM) : Prop := hc 321 0 0 = hm 2 0 ∧ 0 ≤ hm 2 0 ∧ hm 2 0 ≤ 940 ∧ (∀ i, 0 ≤ i → i < 940 → hc 320 0 i = hm 1 i ∧ 0 ≤ hm 1 i ∧ hm 1 i ≤ 255) ∧ hc 322 0 0 = hm 10 0
def zSnap (m : zHM) (j : Int) : Int → Int := fun k => if k < 209 then m 14 k else m 17 (1689 * j + k - 209)
def RUn (hc : zHC) (hm : zHM) : Prop := hc 512 0 0 = hm 23 0 ∧ 0 ≤ hm 23 0 ∧ hm 23 0 ≤ 8 ∧ 0 ≤ hc 513 0 0 ∧ hc 513 0 0 < 8 ∧ ∀ j, 0 ≤ j → j < hm 23 0 → CR hc (2 + (hc 513 0 0 + j) % 8) (zSnap hm j)
def RIm (hc : zHC) (hm : zHM) : Prop := ∀ k, 0 ≤ k → k < 2 → hc 192 k 0 = hm 22 k ∧ (hm 22 k = 0 ∨ hm 22 k = 1) ∧ (hm 22 k = 1 → VR hc (2 + k) (fun j => hm 16 (2140 * k + j)) (fun j => hm 21 (12 * k + j)) ∧ CR hc (10 + k) (fun j => hm 16 (2140 * k + j)) ∧ RSn hc (2 + k) (fun j => hm 16 (2140 * k + j)))
def RPc (hc : zHC) (hm : zHM) : Prop := 0 ≤ hc 256 0 0 ∧ hc 256 0 0 < 1000000 ∧ hm 35 0 = (if hc 256 0 0 < 50 then hc 256 0 0 else 50) ∧ ∀ j, 0 ≤ j → j < hm 35 0 → hc 257 0 j = hm 29 j
def RSt (hc : zHC) (hm : zHM) : Prop := hc 719 0 0 = hm 41 0 ∧ hc 720 0 0 = hm 41 1
def RWr (hc : zHC) (hm : zHM) : Prop := hc 718 0 0 = hm 44 0 ∧ 0 ≤ hm 44 0 ∧ hm 44 0 ≤ 96 ∧ ∀ j, 0 ≤ j → j < hm 44 0 → hc 717 0 j = hm 42 j
def RKw (hc : zHC) : Prop := ∀ j, 0 ≤ j → j < 21 → hc 330 0 j = zPk 32 (kw j)
def RVC (hc : zHC) (hm : zHM) : Prop := VR hc 0 (hm 14) (hm 19) ∧ CR hc 0 (hm 14)
def RG (hc : zHC) (hm : zHM) : Prop := RTp hc hm ∧ RVC hc hm ∧ RUn hc hm ∧ RIm hc hm ∧ RSn hc 0 (hm 14) ∧ RPc hc hm ∧ RSt hc hm ∧ RWr hc hm ∧ RKw hc
/-! what each part looks at -/
theorem RTp_keep {hc hc' : zHC} {hm hm' : zHM} (h1 : ∀ r j, 320 ≤ r → r ≤ 322 → hc' r 0 j = hc r 0 j) (h2 : ∀ r j, (r = 1 ∨ r = 2 ∨ r = 10) → hm' r j = hm r j) (h : RTp hc hm) : RTp hc' hm' := by
  obtain ⟨a1, a2, a3, a4, a5⟩ := h
  unfold RTp
  rw [h1 321 0 (by decide) (by decide), h1 322 0 (by decide) (by decide), h2 2 0 (by decide), h2 10 0 (by decide)]
  refine ⟨a1, a2, a3, fun i i0 i1 => ?_, a5⟩
  rw [h1 320 i (by decide) (by decide), h2 1 i (by decide)]
  exact a4 i i0 i1
theorem VR_n {h : zHC} {i : Int} {a nm : Int → Int} (h : VR h i a nm) : a 3 ≤ 6 := by
  have := h.2.2.2.2.2.2.2.1
  unfold WN at this
  omega
theorem RVC_keep {hc hc' : zHC} {hm hm' : zHM} (h1 : ∀ r j, ((64 ≤ r ∧ r ≤ 72) ∨ (576 ≤ r ∧ r ≤ 595)) → hc' r 0 j = hc r 0 j) (h2 : ∀ j, 0 ≤ j → j < 1898 → hm' 14 j = hm 14 j) (h3 : ∀ j, hm' 19 j = hm 19 j) (h : RVC hc hm) : RVC hc' hm' := by
  obtain ⟨a1, a2⟩ := h
  exact ⟨VR_keep (fun r j g0 g1 => h1 r j (by omega)) (fun k g0 g1 => h2 k g0 (by omega)) (fun k _ _ => h3 k) a1, CR_keep (fun r j g0 g1 => h1 r j (by omega)) (fun j g0 g1 => h2 j (by omega) g1) (h2 2 (by decide) (by decide)) (h2 3 (by decide) (by decide)) (VR_n a1) a2⟩
theorem RUn_keep {hc hc' : zHC} {hm hm' : zHM} (h1 : ∀ r n j, ((64 ≤ r ∧ r ≤ 72 ∧ 2 ≤ n ∧ n ≤ 9) ∨ r = 512 ∨ r = 513) → hc' r n j = hc r n j) (h2 : ∀ j, 0 ≤ j → j < 209 → hm' 14 j = hm 14 j) (h3 : ∀ r j, (r = 17 ∨ r = 23) → hm' r j = hm r j) (h6 : hm 14 3 ≤ 6) (h : RUn hc hm) : RUn hc' hm' := by
  obtain ⟨a1, a2, a3, a4, a5, a6⟩ := h
  unfold RUn
  rw [h1 512 0 0 (by omega), h1 513 0 0 (by omega), h3 23 0 (by decide)]
  refine ⟨a1, a2, a3, a4, a5, fun j j0 j1 => ?_⟩
  refine CR_keep (a := zSnap hm j) (fun r q g0 g1 => h1 r _ q (by omega)) (fun q g0 g1 => ?_) ?_ ?_ h6 (a6 j j0 j1)
  · show (if q < 209 then _ else _) = (if q < 209 then _ else _)
    rw [if_neg (by omega), if_neg (by omega), h3 17 _ (by decide)]
  · exact h2 2 (by decide) (by decide)
  · exact h2 3 (by decide) (by decide)
theorem RIm_keep {hc hc' : zHC} {hm hm' : zHM} (h1 : ∀ r n j, ((64 ≤ r ∧ r ≤ 72 ∧ 10 ≤ n ∧ n ≤ 11) ∨ (r = 192 ∧ 0 ≤ n ∧ n ≤ 1) ∨ (576 ≤ r ∧ r ≤ 595 ∧ 2 ≤ n ∧ n ≤ 3) ∨ (384 ≤ r ∧ r ≤ 386 ∧ 2 ≤ n ∧ n ≤ 3)) → hc' r n j = hc r n j) (h2 : ∀ r j, (r = 16 ∨ r = 21 ∨ r = 22) → hm' r j = hm r j) (h : RIm hc hm) : RIm hc' hm' := by
  intro k k0 k1
  obtain ⟨a1, a2, a3⟩ := h k k0 k1
  rw [h1 192 k 0 (by omega), h2 22 k (by decide)]
  refine ⟨a1, a2, fun q => ?_⟩
  obtain ⟨b1, b2, b3⟩ := a3 q
  exact ⟨VR_keep (fun r j g0 g1 => h1 r _ j (by omega)) (fun j _ _ => h2 16 _ (by decide)) (fun j _ _ => h2 21 _ (by decide)) b1, CR_keep (fun r j g0 g1 => h1 r _ j (by omega)) (fun j _ _ => h2 16 _ (by decide)) (h2 16 _ (by decide)) (h2 16 _ (by decide)) (VR_n b1) b2, RSn_cong (h1 384 _ 0 (by omega)) (h1 385 _ 0 (by omega)) (fun j _ _ => h1 386 _ j (by omega)) (fun j _ _ => h2 16 _ (by decide)) b3⟩
theorem RPc_keep {hc hc' : zHC} {hm hm' : zHM} (h1 : ∀ r j, (r = 256 ∨ r = 257) → hc' r 0 j = hc r 0 j) (h2 : ∀ r j, (r = 29 ∨ r = 35) → hm' r j = hm r j) (h : RPc hc hm) : RPc hc' hm' := by
  obtain ⟨a1, a2, a3, a4⟩ := h
  unfold RPc
  rw [h1 256 0 (by decide), h2 35 0 (by decide)]
  refine ⟨a1, a2, a3, fun j j0 j1 => ?_⟩
  rw [h1 257 j (by decide), h2 29 j (by decide)]
  exact a4 j j0 j1
theorem RSt_keep {hc hc' : zHC} {hm hm' : zHM} (h1 : ∀ r j, (r = 719 ∨ r = 720) → hc' r 0 j = hc r 0 j) (h2 : ∀ j, hm' 41 j = hm 41 j) (h : RSt hc hm) : RSt hc' hm' := by
  unfold RSt
  rw [h1 719 0 (by decide), h1 720 0 (by decide), h2 0, h2 1]
  exact h
theorem RWr_keep {hc hc' : zHC} {hm hm' : zHM} (h1 : ∀ r j, (r = 717 ∨ r = 718) → hc' r 0 j = hc r 0 j) (h2 : ∀ r j, (r = 42 ∨ r = 44) → hm' r j = hm r j) (h : RWr hc hm) : RWr hc' hm' := by
  obtain ⟨a1, a2, a3, a4⟩ := h
  unfold RWr
  rw [h1 718 0 (by decide), h2 44 0 (by decide)]
  refine ⟨a1, a2, a3, fun j j0 j1 => ?_⟩
  rw [h1 717 j (by decide), h2 42 j (by decide)]
  exact a4 j j0 j1
theorem RKw_keep {hc hc' : zHC} (h1 : ∀ j, hc' 330 0 j = hc 330 0 j) (h : RKw hc) : RKw hc' := by
  intro j j0 j1
  rw [h1]
  exact h j j0 j1
/-- what a call may leave changed that tells no more than itself -/
def scC (h h' : zHC) : Prop := ∀ r n j, ¬ ((64 ≤ r ∧ r ≤ 72 ∧ n = 1) ∨ (128 ≤ r ∧ r ≤ 130) ∨ r = 387 ∨ r = 716 ∨ (258 ≤ r ∧ r ≤ 261) ∨ (323 ≤ r ∧ r ≤ 329) ∨ (576 ≤ r ∧ r ≤ 595 ∧ n = 1) ∨ (384 ≤ r ∧ r ≤ 386 ∧ n = 1) ∨ r = 0 ∨ r = 641) → h' r n j = h r n j
def scM (m m' : zHM) : Prop := ∀ r j, ¬ (r = 0 ∨ (3 ≤ r ∧ r ≤ 9) ∨ (11 ≤ r ∧ r ≤ 13) ∨ r = 15 ∨ r = 18 ∨ r = 20 ∨ (24 ≤ r ∧ r ≤ 28) ∨ (30 ≤ r ∧ r ≤ 34) ∨ (36 ≤ r ∧ r ≤ 40) ∨ r = 43 ∨ (45 ≤ r ∧ r ≤ 49)) → m' r j = m r j
theorem scC_refl {h : zHC} : scC h h := fun _ _ _ _ => rfl
theorem scM_refl {m : zHM} : scM m m := fun _ _ _ => rfl
theorem scC_trans {h h' h'' : zHC} (a : scC h h') (b : scC h' h'') : scC h h'' := fun r n j hne => by rw [b r n j hne, a r n j hne]
theorem scM_trans {m m' m'' : zHM} (a : scM m m') (b : scM m' m'') : scM m m'' := fun r j hne => by rw [b r j hne, a r j hne]
theorem RG_sc {hc hc' : zHC} {hm hm' : zHM} (h : RG hc hm) (h1 : scC hc hc') (h2 : scM hm hm') : RG hc' hm' := by
  obtain ⟨a1, a2, a3, a4, a5, a6, a7, a8, a9⟩ := h
  exact ⟨RTp_keep (fun r j g0 g1 => h1 r 0 j (by omega)) (fun r j g => h2 r j (by omega)) a1, RVC_keep (fun r j g => h1 r 0 j (by omega)) (fun j _ _ => h2 14 j (by omega)) (fun j => h2 19 j (by omega)) a2, RUn_keep (fun r n j g => h1 r n j (by omega)) (fun j _ _ => h2 14 j (by omega)) (fun r j g => h2 r j (by omega)) (VR_n a2.1) a3, RIm_keep (fun r n j g => h1 r n j (by omega)) (fun r j g => h2 r j (by omega)) a4, RSn_cong (h1 384 0 0 (by omega)) (h1 385 0 0 (by omega)) (fun j _ _ => h1 386 0 j (by omega)) (fun j _ _ => h2 14 j (by omega)) a5, RPc_keep (fun r j g => h1 r 0 j (by omega)) (fun r j g => h2 r j (by omega)) a6, RSt_keep (fun r j g => h1 r 0 j (by omega)) (fun j => h2 41 j (by omega)) a7, RWr_keep (fun r j g => h1 r 0 j (by omega)) (fun r j g => h2 r j (by omega)) a8, RKw_keep (fun j => h1 330 0 j (by omega)) a9⟩
theorem RG_0 {hc : zHC} {hm : zHM} {x : Int} (h : RG hc hm) : RG hc (mset hm 0 0 x) := RG_sc h scC_refl (fun r j hne => mset_ne (by omega))
/-- a change of the present course, with acts kept -/
theorem RG_crs {hc hc' : zHC} {hm hm' : zHM} (h : RG hc hm) (h1 : ∀ r n j, ¬ ((64 ≤ r ∧ r ≤ 72 ∧ 0 ≤ n ∧ n ≤ 9) ∨ (128 ≤ r ∧ r ≤ 130) ∨ r = 512 ∨ r = 513) → hc' r n j = hc r n j) (h2 : ∀ r j, ¬ (r = 0 ∨ (r = 14 ∧ 209 ≤ j ∧ j < 1898) ∨ r = 17 ∨ r = 18 ∨ r = 23 ∨ (38 ≤ r ∧ r ≤ 40)) → hm' r j = hm r j) (hV : RVC hc' hm') (hU : RUn hc' hm') : RG hc' hm' := by
  obtain ⟨a1, a2, a3, a4, a5, a6, a7, a8, a9⟩ := h
  exact ⟨RTp_keep (fun r j g0 g1 => h1 r 0 j (by omega)) (fun r j g => h2 r j (by omega)) a1, hV, hU, RIm_keep (fun r n j g => h1 r n j (by omega)) (fun r j g => h2 r j (by omega)) a4, RSn_cong (h1 384 0 0 (by omega)) (h1 385 0 0 (by omega)) (fun j _ _ => h1 386 0 j (by omega)) (fun j _ _ => h2 14 j (by omega)) a5, RPc_keep (fun r j g => h1 r 0 j (by omega)) (fun r j g => h2 r j (by omega)) a6, RSt_keep (fun r j g => h1 r 0 j (by omega)) (fun j => h2 41 j (by omega)) a7, RWr_keep (fun r j g => h1 r 0 j (by omega)) (fun r j g => h2 r j (by omega)) a8, RKw_keep (fun j => h1 330 0 j (by omega)) a9⟩
/-! acts kept and taken back -/
theorem F225_2s {K : Int} : ∀ (n : Nat) (q : Int) (m0 m : zHM), 0 ≤ K → K < 8 → 0 ≤ q → q ≤ 1689 → 1689 - q < n → m 23 0 = K → (∀ j, 0 ≤ j → j < q → m 17 (1689 * K + j) = m0 14 (209 + j)) → (∀ r j, ¬ (r = 17 ∧ 1689 * K ≤ j ∧ j < 1689 * K + 1689) → m r j = m0 r j) → ∃ m', F225_2 n q m = some m' ∧ m' 23 0 = K + 1 ∧ (∀ j, 0 ≤ j → j < 1689 → m' 17 (1689 * K + j) = m0 14 (209 + j)) ∧ (∀ r j, ¬ ((r = 17 ∧ 1689 * K ≤ j ∧ j < 1689 * K + 1689) ∨ (r = 23 ∧ j = 0)) → m' r j = m0 r j) := by
  intro n
  induction n with
  | zero => intro q m0 m K0 K1 q0 q1 g; omega
  | succ n ih =>
    intro q m0 m K0 K1 q0 q1 g e1 e2 e3
    rw [F225_2]
    by_cases e : q = 1689
    · subst e
      rw [if_pos (by omega), e1, wadd_eq (by omega) (by omega)]
      refine ⟨_, rfl, mset_eq, fun j j0 j1 => ?_, fun r j hne => ?_⟩
      · rw [mset_ne (by omega)]
        exact e2 j j0 j1
      · rw [mset_ne (by omega)]
        exact e3 r j (by omega)
    · rw [if_neg (by omega), e1, wadd_eq (x := 209) (by omega) (by omega), wmul_eq (by omega) (by omega), wadd_eq (x := 1689 * K) (by omega) (by omega), zG_t (by omega), zG_t (by omega), wadd_eq (by omega) (by omega)]
      refine ih (q + 1) m0 _ K0 K1 (by omega) (by omega) (by omega) (by rw [mset_ne (by omega)]; exact e1) (fun j j0 j1 => ?_) (fun r j hne => ?_)
      · by_cases u : j = q
        · subst u
          rw [mset_eq]
          exact e3 14 _ (by omega)
        · rw [mset_ne (by omega)]
          exact e2 j j0 (by omega)
      · rw [mset_ne (by omega)]
        exact e3 r j hne
theorem F225_1s : ∀ (n : Nat) (q : Int) (m0 m : zHM), 1689 ≤ q → q ≤ 13512 → 13512 - q < n → m0 23 0 = 8 → (∀ j, 0 ≤ j → j < q - 1689 → m 17 j = m0 17 (j + 1689)) → (∀ j, q - 1689 ≤ j → m 17 j = m0 17 j) → (∀ r j, ¬ (r = 17) → m r j = m0 r j) → ∃ m1, F225_1 n q m = F225_0 m1 ∧ m1 23 0 = 7 ∧ (∀ j, 0 ≤ j → j < 11823 → m1 17 j = m0 17 (j + 1689)) ∧ (∀ r j, ¬ (r = 17 ∨ (r = 23 ∧ j = 0)) → m1 r j = m0 r j) := by
  intro n
  induction n with
  | zero => intro q m0 m q0 q1 g; omega
  | succ n ih =>
    intro q m0 m q0 q1 g e1 e2 e3 e4
    rw [F225_1]
    by_cases e : q = 13512
    · subst e
      rw [if_pos (by omega), e4 23 0 (by decide), e1, wsub_eq (by omega) (by omega)]
      refine ⟨_, rfl, mset_eq, fun j j0 j1 => ?_, fun r j hne => ?_⟩
      · rw [mset_ne (by omega)]
        exact e2 j j0 (by omega)
      · rw [mset_ne (by omega)]
        exact e4 r j (by omega)
    · rw [if_neg (by omega), wsub_eq (by omega) (by omega), zG_t (by omega), zG_t (by omega), wadd_eq (by omega) (by omega)]
      refine ih (q + 1) m0 _ (by omega) (by omega) (by omega) e1 (fun j j0 j1 => ?_) (fun j j0 => ?_) (fun r j hne => ?_)
      · by_cases u : j = q - 1689
        · subst u
          rw [mset_eq, e3 q (by omega), show q - 1689 + 1689 = q by omega]
        · rw [mset_ne (by omega)]
          exact e2 j j0 (by omega)
      · rw [mset_ne (by omega)]
        exact e3 j (by omega)
      · rw [mset_ne (by omega)]
        exact e4 r j hne
theorem P_keep {hc : zHC} {hm : zHM} (hV : RVC hc hm) (hU : RUn hc hm) : ∃ hc' hm', F70 0 hc = some hc' ∧ F225 hm = some hm' ∧ RVC hc' hm' ∧ RUn hc' hm' ∧ (∀ r n j, ¬ ((64 ≤ r ∧ r ≤ 72 ∧ 2 ≤ n ∧ n ≤ 9) ∨ r = 512 ∨ r = 513) → hc' r n j = hc r n j) ∧ (∀ r j, ¬ (r = 17 ∨ r = 23) → hm' r j = hm r j) := by
  have big := zFu_big
  have key : ∀ (h : zHC) (m : zHM) (O K : Int), RVC h m → RUn h m → h 513 0 0 = O → m 23 0 = K → K < 8 → ∃ hc' hm', F70_0 0 h = some hc' ∧ F225_0 m = some hm' ∧ RVC hc' hm' ∧ RUn hc' hm' ∧ (∀ r n j, ¬ ((64 ≤ r ∧ r ≤ 72 ∧ 2 ≤ n ∧ n ≤ 9) ∨ r = 512 ∨ r = 513) → hc' r n j = h r n j) ∧ (∀ r j, ¬ (r = 17 ∨ r = 23) → hm' r j = m r j) := by
    intro h m O K gV gU eO eK K8
    obtain ⟨a1, a2, a3, a4, a5, a6⟩ := gU
    rw [eO] at a4 a5 a6
    rw [eK] at a1 a2 a3 a6
    obtain ⟨m1, m2, m3, m4, m5⟩ := F225_2s (K := K) zFu 0 m m a2 K8 (by decide) (by decide) (by omega) eK (fun j j0 j1 => by omega) (fun _ _ _ => rfl)
    obtain ⟨h1, h2, h3, h4⟩ := L71 (h := h) (i := 2 + (O + K) % 8) (j := 0) (a := m 14) (by omega) gV.2 (VR_n gV.1)
    have fC : ∀ r n q, ¬ ((64 ≤ r ∧ r ≤ 72 ∧ n = 2 + (O + K) % 8) ∨ r = 512) → (hset h1 512 0 0 (K + 1)) r n q = h r n q := by
      intro r n q hne
      rw [hset_ne (by omega)]
      exact h4 r n q (by omega)
    refine ⟨hset h1 512 0 0 (K + 1), m1, ?_, m2, ?_, ?_, fun r n j hne => fC r n j (by omega), fun r j hne => m5 r j (by omega)⟩
    · unfold F70_0
      rw [eO, a1, wadd_eq (x := O) (by omega) (by omega), wrem_eq (by omega) (by omega) (by decide) (by decide), zG_t (by omega), h2]
      show some (hset h1 512 0 0 (wadd (h1 512 0 0) 1)) = _
      rw [h4 512 0 0 (by omega), a1, wadd_eq (x := K) (by omega) (by omega)]
    · exact RVC_keep (fun r j g => fC r 0 j (by omega)) (fun j g0 g1 => m5 14 j (by omega)) (fun j => m5 19 j (by omega)) gV
    · have e513 : (hset h1 512 0 0 (K + 1)) 513 0 0 = O := by rw [fC _ _ _ (by omega)]; exact eO
      refine ⟨by rw [hset_eq, m3], by omega, by omega, by rw [e513]; exact a4, by rw [e513]; exact a5, fun j j0 j1 => ?_⟩
      rw [e513]
      rw [m3] at j1
      have s2 : m1 14 2 = m 14 2 := m5 14 2 (by omega)
      have s3 : m1 14 3 = m 14 3 := m5 14 3 (by omega)
      by_cases u : j = K
      · subst u
        refine CR_keep (h := h1) (a := m 14) (fun r q g0 g1 => hset_ne (by omega)) (fun q g0 g1 => ?_) s2 s3 (VR_n gV.1) h3
        show (if q < 209 then _ else m1 17 (1689 * j + q - 209)) = _
        rw [if_neg (by omega), show 1689 * j + q - 209 = 1689 * j + (q - 209) by omega, m4 (q - 209) (by omega) (by omega), show 209 + (q - 209) = q by omega]
      · refine CR_keep (a := zSnap m j) (fun r q g0 g1 => fC r _ q (by omega)) (fun q g0 g1 => ?_) s2 s3 (show m 14 3 ≤ 6 from VR_n gV.1) (a6 j j0 (by omega))
        show (if q < 209 then _ else m1 17 (1689 * j + q - 209)) = (if q < 209 then _ else m 17 (1689 * j + q - 209))
        rw [if_neg (by omega), if_neg (by omega), m5 17 _ (by omega)]
  obtain ⟨a1, a2, a3, a4, a5, a6⟩ := id hU
  by_cases q : hm 23 0 = 8
  · unfold F70 F225
    rw [if_neg (show ¬ ¬ hc 512 0 0 = 8 by omega), if_neg (show ¬ ¬ hm 23 0 = 8 by omega), wadd_eq (x := hc 513 0 0) (by omega) (by omega), wrem_eq (by omega) (by omega) (by decide) (by decide), wsub_eq (x := hc 512 0 0) (by omega) (by omega)]
    obtain ⟨m1, z1, z2, z3, z4⟩ := F225_1s zFu 1689 hm hm (by decide) (by decide) (by omega) q (fun j j0 j1 => by omega) (fun _ _ => rfl) (fun _ _ _ => rfl)
    rw [z1]
    have gV : RVC (hset (hset hc 513 0 0 ((hc 513 0 0 + 1) % 8)) 512 0 0 (hc 512 0 0 - 1)) m1 := RVC_keep (fun r j g => by rw [hset_ne (by omega), hset_ne (by omega)]) (fun j g0 g1 => z4 14 j (by omega)) (fun j => z4 19 j (by omega)) hV
    have e512 : (hset (hset hc 513 0 0 ((hc 513 0 0 + 1) % 8)) 512 0 0 (hc 512 0 0 - 1)) 512 0 0 = hc 512 0 0 - 1 := hset_eq
    have e513 : (hset (hset hc 513 0 0 ((hc 513 0 0 + 1) % 8)) 512 0 0 (hc 512 0 0 - 1)) 513 0 0 = (hc 513 0 0 + 1) % 8 := by rw [hset_ne (by omega), hset_eq]
    have gU : RUn (hset (hset hc 513 0 0 ((hc 513 0 0 + 1) % 8)) 512 0 0 (hc 512 0 0 - 1)) m1 := by
      refine ⟨by rw [e512, z2]; omega, by omega, by omega, by rw [e513]; omega, by rw [e513]; omega, fun j j0 j1 => ?_⟩
      rw [z2] at j1
      rw [e513, show ((hc 513 0 0 + 1) % 8 + j) % 8 = (hc 513 0 0 + (j + 1)) % 8 by omega]
      refine CR_keep (a := zSnap hm (j + 1)) (fun r q g0 g1 => by rw [hset_ne (by omega), hset_ne (by omega)]) (fun q g0 g1 => ?_) (z4 14 2 (by omega)) (z4 14 3 (by omega)) (show hm 14 3 ≤ 6 from VR_n hV.1) (a6 (j + 1) (by omega) (by omega))
      show (if q < 209 then _ else m1 17 (1689 * j + q - 209)) = (if q < 209 then _ else hm 17 (1689 * (j + 1) + q - 209))
      rw [if_neg (by omega), if_neg (by omega), z3 _ (by omega) (by omega), show 1689 * j + q - 209 + 1689 = 1689 * (j + 1) + q - 209 by omega]
    obtain ⟨h', m', y1, y2, y3, y4, y5, y6⟩ := key _ m1 _ 7 gV gU e513 z2 (by decide)
    exact ⟨h', m', y1, y2, y3, y4, fun r n j hne => by rw [y5 r n j hne, hset_ne (by omega), hset_ne (by omega)], fun r j hne => by rw [y6 r j hne, z4 r j (by omega)]⟩
  · unfold F70 F225
    rw [if_pos (show ¬ hc 512 0 0 = 8 by omega), if_pos (show ¬ hm 23 0 = 8 by omega)]
    exact key hc hm _ _ hV hU rfl rfl (by omega)
theorem F222_0s {K : Int} : ∀ (n : Nat) (q : Int) (m0 m : zHM), 0 ≤ K → K < 8 → 0 ≤ q → q ≤ 1689 → 1689 - q < n → m0 23 0 = K → (∀ j, 0 ≤ j → j < q → m 14 (209 + j) = m0 17 (1689 * K + j)) → (∀ r j, ¬ (r = 14 ∧ 209 ≤ j ∧ j < 1898) → m r j = m0 r j) → ∃ m', F222_0 n q m = some (K, m') ∧ (∀ j, 0 ≤ j → j < 1689 → m' 14 (209 + j) = m0 17 (1689 * K + j)) ∧ (∀ r j, ¬ (r = 14 ∧ 209 ≤ j ∧ j < 1898) → m' r j = m0 r j) := by
  intro n
  induction n with
  | zero => intro q m0 m K0 K1 q0 q1 g; omega
  | succ n ih =>
    intro q m0 m K0 K1 q0 q1 g e1 e2 e3
    rw [F222_0, e3 23 0 (by omega), e1]
    by_cases e : q = 1689
    · subst e
      rw [if_pos (by omega)]
      exact ⟨m, rfl, e2, e3⟩
    · rw [if_neg (by omega), wmul_eq (by omega) (by omega), wadd_eq (x := 1689 * K) (by omega) (by omega), wadd_eq (x := 209) (by omega) (by omega), zG_t (by omega), zG_t (by omega), wadd_eq (by omega) (by omega)]
      refine ih (q + 1) m0 _ K0 K1 (by omega) (by omega) (by omega) e1 (fun j j0 j1 => ?_) (fun r j hne => ?_)
      · by_cases u : j = q
        · subst u
          rw [mset_eq]
          exact e3 17 _ (by omega)
        · rw [mset_ne (by omega)]
          exact e2 j j0 (by omega)
      · rw [mset_ne (by omega)]
        exact e3 r j hne
theorem C_undo {hc : zHC} {hm : zHM} (h : RG hc hm) : ∃ r hc' hm', F96 hc = some (r, hc') ∧ F222 hm = some (r, hm') ∧ RG hc' hm' := by
  have big := zFu_big
  obtain ⟨-, hV, hU, -⟩ := id h
  obtain ⟨a1, a2, a3, a4, a5, a6⟩ := id hU
  unfold F96 F97 F222
  by_cases q : hm 23 0 = 0
  · rw [if_neg (show ¬ ¬ hc 512 0 0 = 0 by omega), if_neg (show ¬ ¬ hm 23 0 = 0 by omega)]
    exact ⟨-1, hc, _, rfl, rfl, RG_0 h⟩
  · rw [if_pos (show ¬ hc 512 0 0 = 0 by omega), if_pos (show ¬ hm 23 0 = 0 by omega), a1, wsub_eq (by omega) (by omega), wadd_eq (by omega) (by omega), wrem_eq (by omega) (by omega) (by decide) (by decide), zG_t (by omega)]
    have e1 : ∀ r j, ¬ (r = 0 ∨ (r = 23 ∧ j = 0)) → (mset (mset hm 0 0 0) 23 0 (hm 23 0 - 1)) r j = hm r j := fun r j hne => by rw [mset_ne (by omega), mset_ne (by omega)]
    have e2 : (mset (mset hm 0 0 0) 23 0 (hm 23 0 - 1)) 23 0 = hm 23 0 - 1 := mset_eq
    obtain ⟨m', z1, z2, z3⟩ := F222_0s (K := hm 23 0 - 1) zFu 0 _ (mset (mset hm 0 0 0) 23 0 (hm 23 0 - 1)) (by omega) (by omega) (by decide) (by decide) (by omega) e2 (fun j j0 j1 => by omega) (fun _ _ _ => rfl)
    have hR := a6 (hm 23 0 - 1) (by omega) (by omega)
    have hR1 : CR (hset hc 512 0 0 (hm 23 0 - 1)) (2 + (hc 513 0 0 + (hm 23 0 - 1)) % 8) (zSnap hm (hm 23 0 - 1)) := CR_keep (a := zSnap hm (hm 23 0 - 1)) (fun r q g0 g1 => hset_ne (by omega)) (fun _ _ _ => rfl) rfl rfl (show hm 14 3 ≤ 6 from VR_n hV.1) hR
    obtain ⟨h1, y1, y2, y3⟩ := L71 (h := hset hc 512 0 0 (hm 23 0 - 1)) (i := 0) (j := 2 + (hc 513 0 0 + (hm 23 0 - 1)) % 8) (by omega) hR1 (show hm 14 3 ≤ 6 from VR_n hV.1)
    rw [y1, z1]
    have fM : ∀ r j, ¬ (r = 0 ∨ (r = 23 ∧ j = 0) ∨ (r = 14 ∧ 209 ≤ j ∧ j < 1898)) → m' r j = hm r j := fun r j hne => by rw [z3 r j (by omega), e1 r j (by omega)]
    have fC : ∀ r n q, ¬ ((64 ≤ r ∧ r ≤ 72 ∧ n = 0) ∨ (r = 512 ∧ n = 0 ∧ q = 0)) → h1 r n q = hc r n q := fun r n q hne => by rw [y3 r n q (by omega), hset_ne (by omega)]
    have c512 : h1 512 0 0 = hm 23 0 - 1 := by rw [y3 _ _ _ (by omega), hset_eq]
    have m23 : m' 23 0 = hm 23 0 - 1 := by rw [z3 _ _ (by omega), e2]
    have hV' : RVC h1 m' := by
      refine ⟨VR_keep (fun r j g0 g1 => fC r 0 j (by omega)) (fun k g0 g1 => fM 14 k (by omega)) (fun k _ _ => fM 19 k (by omega)) hV.1, CR_keep (a := zSnap hm (hm 23 0 - 1)) (fun _ _ _ _ => rfl) (fun q g0 g1 => ?_) (fM 14 2 (by omega)) (fM 14 3 (by omega)) (show hm 14 3 ≤ 6 from VR_n hV.1) y2⟩
      show _ = (if q < 209 then _ else hm 17 (1689 * (hm 23 0 - 1) + q - 209))
      rw [if_neg (by omega), show q = 209 + (q - 209) by omega, z2 (q - 209) (by omega) (by omega), e1 17 _ (by omega), show 1689 * (hm 23 0 - 1) + (209 + (q - 209)) - 209 = 1689 * (hm 23 0 - 1) + (q - 209) by omega]
    have hU' : RUn h1 m' := by
      have c513 : h1 513 0 0 = hc 513 0 0 := fC _ _ _ (by omega)
      refine ⟨by omega, by omega, by omega, by omega, by omega, fun j j0 j1 => ?_⟩
      rw [c513]
      refine CR_keep (a := zSnap hm j) (fun r q g0 g1 => fC r _ q (by omega)) (fun q g0 g1 => ?_) (fM 14 2 (by omega)) (fM 14 3 (by omega)) (show hm 14 3 ≤ 6 from VR_n hV.1) (a6 j j0 (by omega))
      show (if q < 209 then _ else m' 17 (1689 * j + q - 209)) = (if q < 209 then _ else hm 17 (1689 * j + q - 209))
      rw [if_neg (by omega), if_neg (by omega), fM 17 _ (by omega)]
    refine ⟨hm 23 0 - 1, h1, m', ?_, rfl, RG_crs h (fun r n j hne => fC r n j (by omega)) (fun r j hne => fM r j (by omega)) hV' hU'⟩
    simp only [Option.bind_some]
    rw [if_neg (by decide), c512]
