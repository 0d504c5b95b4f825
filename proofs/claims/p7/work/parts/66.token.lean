/-! Words and tokens. -/
def zOkL (l : List Int) : Prop := ∀ d ∈ l, 1 ≤ d ∧ d ≤ 26
theorem zPk_pos {b : Int} {l : List Int} (hb : b = 27 ∨ b = 32) (h : zOkL l) : 0 ≤ zPk b l := by
  induction l with
  | nil => exact Int.le_refl 0
  | cons d r ih =>
    have h1 := h d (List.mem_cons_self)
    have h2 := ih (fun x hx => h x (List.mem_cons_of_mem _ hx))
    unfold zPk
    rcases hb with q | q <;> subst q <;> omega
theorem zPk_inj {b : Int} {l l' : List Int} (hb : b = 27 ∨ b = 32) (h : zOkL l) (h' : zOkL l') (e : zPk b l = zPk b l') : l = l' := by
  induction l generalizing l' with
  | nil =>
    cases l' with
    | nil => rfl
    | cons d r =>
      have h1 := h' d (List.mem_cons_self)
      have h2 := zPk_pos hb (fun x hx => h' x (List.mem_cons_of_mem _ hx) : zOkL r)
      unfold zPk at e
      rcases hb with q | q <;> subst q <;> omega
  | cons d r ih =>
    have h1 := h d (List.mem_cons_self)
    have h2 := zPk_pos hb (fun x hx => h x (List.mem_cons_of_mem _ hx) : zOkL r)
    cases l' with
    | nil =>
      unfold zPk at e
      rcases hb with q | q <;> subst q <;> omega
    | cons d' r' =>
      have h3 := h' d' (List.mem_cons_self)
      have h4 := zPk_pos hb (fun x hx => h' x (List.mem_cons_of_mem _ hx) : zOkL r')
      have e1 : zPk b (d :: r) = d + b * zPk b r := rfl
      have e2 : zPk b (d' :: r') = d' + b * zPk b r' := rfl
      rw [e1, e2] at e
      have e3 : d = d' ∧ zPk b r = zPk b r' := by
        rcases hb with q | q <;> subst q <;> constructor <;> omega
      rw [e3.1, ih (fun x hx => h x (List.mem_cons_of_mem _ hx)) (fun x hx => h' x (List.mem_cons_of_mem _ hx)) e3.2]
theorem zPk_lt {l : List Int} {n : Nat} (h : zOkL l) (hn : l.length ≤ n) : zPk 32 l < 32 ^ n ∧ zPk 27 l < 27 ^ n := by
  induction l generalizing n with
  | nil =>
    unfold zPk
    exact ⟨Int.pow_pos (by decide), Int.pow_pos (by decide)⟩
  | cons d r ih =>
    cases n with
    | zero => simp at hn
    | succ n =>
      have h1 := h d (List.mem_cons_self)
      have h2 := ih (n := n) (fun x hx => h x (List.mem_cons_of_mem _ hx)) (by simpa using hn)
      unfold zPk
      rw [Int.pow_succ, Int.pow_succ]
      constructor <;> omega
theorem kw_ok {j : Int} (h0 : 0 ≤ j) (h1 : j < 21) : zOkL (kw j) ∧ 1 ≤ (kw j).length ∧ (kw j).length ≤ 7 := by
  have k : (List.range 21).all (fun q => (kw (q : Int)).all (fun d => decide (1 ≤ d ∧ d ≤ 26)) && decide (1 ≤ (kw (q : Int)).length ∧ (kw (q : Int)).length ≤ 7)) = true := by decide +kernel
  have e := z_all k (x := j) h0 (by omega)
  have e1 : ((j.toNat : Nat) : Int) = j := by omega
  rw [e1, Bool.and_eq_true] at e
  exact ⟨fun d hd => of_decide_eq_true (List.all_eq_true.mp e.1 d hd), of_decide_eq_true e.2⟩
theorem kw_inj {j k : Int} (h0 : 0 ≤ j) (h1 : j < 21) (k0 : 0 ≤ k) (k1 : k < 21) (e : kw j = kw k) : j = k := by
  have q : (List.range 21).all (fun a => (List.range 21).all (fun b => !decide (kw (a : Int) = kw (b : Int)) || decide (a = b))) = true := by decide +kernel
  have e2 := z_all2 q (x := j) (y := k) h0 (by omega) k0 (by omega)
  have e1 : ((j.toNat : Nat) : Int) = j := by omega
  have e3 : ((k.toNat : Nat) : Int) = k := by omega
  simp only [e1, e3, e] at e2
  simp at e2
  omega
theorem F182_s {k : Int} (h0 : 0 ≤ k) (h1 : k < 21) : F182 k = some (zPk 27 (kw k)) := by
  have q : (List.range 21).all (fun a => decide (F182 (a : Int) = some (zPk 27 (kw (a : Int))))) = true := by decide +kernel
  have e := of_decide_eq_true (z_all q (x := k) h0 (by omega))
  have e1 : ((k.toNat : Nat) : Int) = k := by omega
  rw [e1] at e
  exact e
theorem WR_iff {a b a' b' : Int} (h : WR a b) (h' : WR a' b') : a = a' ↔ b = b' := by
  obtain ⟨l, l1, l2, l3, rfl, rfl⟩ := h
  obtain ⟨r, r1, r2, r3, rfl, rfl⟩ := h'
  constructor
  · intro e
    rw [zPk_inj (Or.inr rfl) l3 r3 e]
  · intro e
    rw [zPk_inj (Or.inl rfl) l3 r3 e]
theorem kw_WR {j : Int} (h0 : 0 ≤ j) (h1 : j < 21) : WR (zPk 32 (kw j)) (zPk 27 (kw j)) := by
  obtain ⟨k1, k2, k3⟩ := kw_ok h0 h1
  exact ⟨kw j, k3, k2, k1, rfl, rfl⟩
theorem F27_s {h : zHC} {w : Int} (hk : RKw h) : ∃ v, F27 w h = some v ∧ ((v = -1 ∧ ∀ j, 0 ≤ j → j < 21 → ¬ zPk 32 (kw j) = w) ∨ (0 ≤ v ∧ v < 21 ∧ zPk 32 (kw v) = w)) := by
  have key : ∀ (n : Nat) (j : Int), 0 ≤ j → j ≤ 21 → 21 - j < n → (∀ q, 0 ≤ q → q < j → ¬ zPk 32 (kw q) = w) → ∃ v, F27_0 h n w j = some v ∧ ((v = -1 ∧ ∀ j, 0 ≤ j → j < 21 → ¬ zPk 32 (kw j) = w) ∨ (0 ≤ v ∧ v < 21 ∧ zPk 32 (kw v) = w)) := by
    intro n
    induction n with
    | zero => intro j j0 j1 g; omega
    | succ n ih =>
      intro j j0 j1 g hb
      rw [F27_0]
      by_cases e : j = 21
      · rw [if_pos (by omega)]
        exact ⟨-1, rfl, Or.inl ⟨rfl, fun q q0 q1 => hb q q0 (by omega)⟩⟩
      · rw [if_neg (by omega), zG_t (by omega), hk j j0 (by omega)]
        by_cases u : zPk 32 (kw j) = w
        · rw [if_neg (fun z => z (qcmp_0.mpr u))]
          exact ⟨j, rfl, Or.inr ⟨j0, by omega, u⟩⟩
        · rw [if_pos (fun z => u (qcmp_0.mp z)), wadd_eq (by omega) (by omega)]
          refine ih (j + 1) (by omega) (by omega) (by omega) (fun q q0 q1 => ?_)
          by_cases v : q = j
          · subst v; exact u
          · exact hb q q0 (by omega)
  have big := zFu_big
  exact key zFu 0 (by decide) (by decide) (by omega) (fun q q0 q1 => by omega)
def tfC (h h' : zHC) : Prop := ∀ r n j, ¬ (322 ≤ r ∧ r ≤ 328) → h' r n j = h r n j
def tfM (m m' : zHM) : Prop := ∀ r j, ¬ (5 ≤ r ∧ r ≤ 13) → m' r j = m r j
theorem tfC_trans {h h' h'' : zHC} (a : tfC h h') (b : tfC h' h'') : tfC h h'' := fun r n j hne => by rw [b r n j hne, a r n j hne]
theorem tfM_trans {m m' m'' : zHM} (a : tfM m m') (b : tfM m' m'') : tfM m m'' := fun r j hne => by rw [b r j hne, a r j hne]
theorem tfC_refl {h : zHC} : tfC h h := fun _ _ _ _ => rfl
theorem tfM_refl {m : zHM} : tfM m m := fun _ _ _ => rfl
/-- the texts are alike -/
def TB (h : zHC) (m : zHM) : Prop := h 321 0 0 = m 3 0 ∧ 0 ≤ m 3 0 ∧ m 3 0 ≤ 940 ∧ h 329 0 0 = m 4 0 ∧ 0 ≤ m 4 0 ∧ m 4 0 ≤ 940 ∧ (∀ i, 0 ≤ i → i < 940 → h 320 0 i = m 1 i ∧ 0 ≤ m 1 i ∧ m 1 i ≤ 255) ∧ RKw h
def TK (h : zHC) (m : zHM) : Prop := (h 324 0 0 = 0 ∧ m 3 0 ≤ m 4 0 ∧ m 7 0 = 0) ∨ (h 324 0 0 = 0 ∧ m 4 0 < m 3 0 ∧ m 7 0 = 1) ∨ (h 324 0 0 = 1 ∧ m 7 0 = 1) ∨ (h 324 0 0 = 2 ∧ m 7 0 = 2 ∧ WR (h 327 0 0) (m 12 0) ∧ ∀ j, 0 ≤ j → j < 21 → ¬ m 12 0 = zPk 27 (kw j)) ∨ (h 324 0 0 = 3 ∧ m 7 0 = 2 ∧ 0 ≤ h 326 0 0 ∧ h 326 0 0 < 21 ∧ m 12 0 = zPk 27 (kw (h 326 0 0))) ∨ (h 324 0 0 = 4 ∧ m 7 0 = 3 ∧ h 326 0 0 = m 8 0 ∧ 0 ≤ m 8 0 ∧ m 8 0 ≤ 999) ∨ (h 324 0 0 = 5 ∧ m 7 0 = 4 ∧ h 326 0 0 = m 9 0)
def TR (h : zHC) (m : zHM) : Prop := TB h m ∧ TK h m ∧ h 325 0 0 = m 6 0 ∧ (¬ h 324 0 0 = 0 → h 328 0 0 = m 5 0 ∧ 0 ≤ m 5 0 ∧ m 5 0 ≤ m 3 0)
theorem TB_keep {h h' : zHC} {m m' : zHM} (hb : TB h m) (f1 : tfC h h') (f2 : tfM m m') : TB h' m' := by
  obtain ⟨b1, b2, b3, b4, b5, b6, b7, b8⟩ := hb
  unfold TB
  rw [f1 321 _ _ (by omega), f1 329 _ _ (by omega), f2 3 _ (by omega), f2 4 _ (by omega)]
  refine ⟨b1, b2, b3, b4, b5, b6, fun i i0 i1 => ?_, RKw_keep (fun j => f1 330 0 j (by omega)) b8⟩
  rw [f1 320 _ _ (by omega), f2 1 _ (by omega)]
  exact b7 i i0 i1
theorem F24_s {c : Int} : F24 c = some (if 97 ≤ c ∧ c ≤ 122 then 1 else 0) := by
  unfold F24
  by_cases q : c < 97
  · rw [if_pos q, if_neg (by omega)]
  · by_cases q2 : 122 < c
    · rw [if_neg q, if_pos q2, if_neg (by omega)]
    · rw [if_neg q, if_neg q2, if_pos (by omega)]
theorem F25_s {c : Int} : F25 c = some (if 48 ≤ c ∧ c ≤ 57 then 1 else 0) := by
  unfold F25
  by_cases q : c < 48
  · rw [if_pos q, if_neg (by omega)]
  · by_cases q2 : 57 < c
    · rw [if_neg q, if_pos q2, if_neg (by omega)]
    · rw [if_neg q, if_neg q2, if_pos (by omega)]
theorem F177_s {c : Int} : F177 c = some (if 97 ≤ c ∧ c ≤ 122 then 1 else 0) := F24_s
theorem F178_s {c : Int} : F178 c = some (if 48 ≤ c ∧ c ≤ 57 then 1 else 0) := F25_s
def RN (h : zHC) (m : zHM) (L D t v2 v3 : Int) : Prop := 0 ≤ L ∧ 0 ≤ D ∧ L + D = t ∧ (v2 = 0 ∨ v2 = 1) ∧ v3 = (if (v2 = 1 ∧ D = 0) ∨ (v2 = 0 ∧ L = 0) then 1 else 0) ∧ (D = 0 → t ≤ 7 → ∃ l : List Int, (l.length : Int) = t ∧ zOkL l ∧ h 327 0 0 = zPk 32 l ∧ m 12 0 = zPk 27 l) ∧ (L = 0 → t ≤ 3 → h 326 0 0 = m 8 0 ∧ 0 ≤ m 8 0 ∧ (t = 0 → m 8 0 = 0) ∧ (t = 1 → m 8 0 ≤ 9) ∧ (t = 2 → m 8 0 ≤ 99) ∧ (t = 3 → m 8 0 ≤ 999)) ∧ (1 ≤ t → (v2 = 1 → 1 ≤ L) ∧ (v2 = 0 → 1 ≤ D))
/-- the end of a run -/
theorem T_runEnd {h : zHC} {m : zHM} {L D t v2 v3 : Int} (hb : TB h m) (t1 : 1 ≤ t) (hR : RN h m L D t v2 v3) (hp : h 328 0 0 = m 5 0) (p0 : 0 ≤ m 5 0) (p1 : m 5 0 ≤ m 3 0) (hs : h 325 0 0 = m 6 0) : ∃ h' m', F26_1 L D h = some h' ∧ (if v3 = 0 then F176_9 m else if v2 = 0 then F176_10 v2 3 t m else F176_10 v2 7 t m) = some m' ∧ TR h' m' ∧ (∀ r n j, ¬ ((r = 324 ∨ r = 326) ∧ n = 0 ∧ j = 0) → h' r n j = h r n j) ∧ (∀ r j, ¬ (r = 7 ∧ j = 0) → m' r j = m r j) := by
  obtain ⟨r1, r2, r3, r4, r5, r6, r7, r8⟩ := hR
  have r8 := r8 t1
  have bad : ∃ h' m', some (hset h 324 0 0 1) = some h' ∧ some (mset m 7 0 1) = some m' ∧ TR h' m' ∧ (∀ r n j, ¬ ((r = 324 ∨ r = 326) ∧ n = 0 ∧ j = 0) → h' r n j = h r n j) ∧ (∀ r j, ¬ (r = 7 ∧ j = 0) → m' r j = m r j) := by
    refine ⟨_, _, rfl, rfl, ⟨TB_keep hb (fun r n j hne => hset_ne (by omega)) (fun r j hne => mset_ne (by omega)), Or.inr (Or.inr (Or.inl ⟨hset_eq, mset_eq⟩)), by rw [hset_ne (by omega), mset_ne (by omega)]; exact hs, fun _ => ?_⟩, fun r n j hne => hset_ne (by omega), fun r j hne => mset_ne (by omega)⟩
    rw [hset_ne (by omega), mset_ne (by omega), mset_ne (by omega)]
    exact ⟨hp, p0, p1⟩
  unfold F26_1 F26_6 F26_8 F26_9 F176_9 F176_10 F176_11
  by_cases d0 : D = 0
  · rw [if_neg (fun z => z d0)]
    have hv2 : v2 = 1 ∨ v2 = 0 ∧ ¬ L = 0 := by
      rcases r4 with u | u
      · exact Or.inr ⟨u, by omega⟩
      · exact Or.inl u
    by_cases l7 : 7 < L
    · rw [if_pos l7, if_pos (show ¬ L = 0 by omega)]
      rcases hv2 with u | ⟨u, u2⟩
      · rw [if_pos (Or.inl ⟨u, d0⟩)] at r5
        rw [if_neg (show ¬ v3 = 0 by omega), if_neg (show ¬ v2 = 0 by omega), if_neg (show ¬ t ≤ 7 by omega)]
        exact bad
      · rw [if_neg (by omega)] at r5
        rw [if_pos r5]
        exact bad
    · rw [if_neg l7]
      obtain ⟨l, l1, l2, l3, l4⟩ := r6 d0 (by omega)
      obtain ⟨v, e1, e2⟩ := F27_s (h := h) (w := h 327 0 0) hb.2.2.2.2.2.2.2
      rw [e1]
      simp only [Option.bind_some]
      unfold F26_7
      rcases hv2 with u | ⟨u, u2⟩
      · rw [if_pos (Or.inl ⟨u, d0⟩)] at r5
        rw [if_neg (show ¬ v3 = 0 by omega), if_neg (show ¬ v2 = 0 by omega), if_pos (show t ≤ 7 by omega)]
        rw [if_neg (show ¬ v2 = 0 by omega)]
        have hw : WR (h 327 0 0) (m 12 0) := ⟨l, by omega, by omega, l2, l3, l4⟩
        rcases e2 with ⟨y1, y2⟩ | ⟨y1, y2, y3⟩
        · rw [if_neg (fun z => z y1 : ¬ ¬ v = -1)]
          refine ⟨_, _, rfl, rfl, ⟨TB_keep hb (fun r n j hne => by rw [hset_ne (by omega), hset_ne (by omega)]) (fun r j hne => mset_ne (by omega)), Or.inr (Or.inr (Or.inr (Or.inl ⟨hset_eq, mset_eq, ?_, ?_⟩))), ?_, fun _ => ?_⟩, fun r n j hne => by rw [hset_ne (by omega), hset_ne (by omega)], fun r j hne => mset_ne (by omega)⟩
          · rw [hset_ne (by omega), hset_ne (by omega), mset_ne (by omega)]
            exact hw
          · intro j j0 j1
            rw [mset_ne (by omega)]
            intro w
            exact y2 j j0 j1 ((WR_iff (kw_WR j0 j1) hw).mpr w.symm)
          · rw [hset_ne (by omega), hset_ne (by omega), mset_ne (by omega)]
            exact hs
          · rw [hset_ne (by omega), hset_ne (by omega), mset_ne (by omega), mset_ne (by omega)]
            exact ⟨hp, p0, p1⟩
        · rw [if_pos (show ¬ v = -1 by omega)]
          refine ⟨_, _, rfl, rfl, ⟨TB_keep hb (fun r n j hne => by rw [hset_ne (by omega), hset_ne (by omega)]) (fun r j hne => mset_ne (by omega)), Or.inr (Or.inr (Or.inr (Or.inr (Or.inl ⟨hset_eq, mset_eq, ?_⟩)))), ?_, fun _ => ?_⟩, fun r n j hne => by rw [hset_ne (by omega), hset_ne (by omega)], fun r j hne => mset_ne (by omega)⟩
          · rw [hset_ne (by omega), hset_eq, mset_ne (by omega)]
            exact ⟨y1, y2, ((WR_iff (kw_WR y1 y2) hw).mp y3).symm⟩
          · rw [hset_ne (by omega), hset_ne (by omega), mset_ne (by omega)]
            exact hs
          · rw [hset_ne (by omega), hset_ne (by omega), mset_ne (by omega), mset_ne (by omega)]
            exact ⟨hp, p0, p1⟩
      · omega
  · rw [if_pos d0]
    by_cases l0 : L = 0
    · rw [if_neg (fun z => z l0 : ¬ ¬ L = 0)]
      rcases r4 with u | u
      · rw [if_pos (Or.inr ⟨u, l0⟩)] at r5
        rw [if_neg (show ¬ v3 = 0 by omega), if_pos u]
        by_cases d3 : 3 < D
        · rw [if_pos d3, if_neg (show ¬ t ≤ 3 by omega)]
          exact bad
        · obtain ⟨y1, y2, y3, y4, y5, y6⟩ := r7 l0 (by omega)
          rw [if_neg d3, if_pos (show t ≤ 3 by omega), if_pos u]
          refine ⟨_, _, rfl, rfl, ⟨TB_keep hb (fun r n j hne => hset_ne (by omega)) (fun r j hne => mset_ne (by omega)), Or.inr (Or.inr (Or.inr (Or.inr (Or.inr (Or.inl ⟨hset_eq, mset_eq, ?_⟩))))), ?_, fun _ => ?_⟩, fun r n j hne => hset_ne (by omega), fun r j hne => mset_ne (by omega)⟩
          · rw [hset_ne (by omega), mset_ne (by omega)]
            exact ⟨y1, y2, by omega⟩
          · rw [hset_ne (by omega), mset_ne (by omega)]
            exact hs
          · rw [hset_ne (by omega), mset_ne (by omega), mset_ne (by omega)]
            exact ⟨hp, p0, p1⟩
      · rw [if_neg (by omega)] at r5
        rw [if_pos r5]
        by_cases d3 : 3 < D
        · rw [if_pos d3]; exact bad
        · omega
    · rw [if_pos l0]
      rw [if_neg (by omega)] at r5
      rw [if_pos r5]
      exact bad
