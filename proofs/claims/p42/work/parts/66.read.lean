section
/-! Words and tokens. -/
def zOkL (l : List Int) : Prop := ∀ d ∈ l, 1 ≤ d ∧ d ≤ 26
theorem zPk_pos {b : Int} {l : List Int} (hb : b = 27 ∨ b = 32) (h : zOkL l) : 0 ≤ zPk b l := by
  induction l with
  | nil => exact Int.le_refl 0
  | cons d r ih =>
    have h1 := h d (List.mem_cons_self)
    have h2 := ih (fun x hx => h x (List.mem_cons_of_mem _ hx))
    unfold zPk
    rcases hb with q | q <;> subst q <;> omega
theorem zPk_inj {b : Int} {l l' : List Int} (hb : b = 27 ∨ b = 32) (h : zOkL l) (h' : zOkL l') (e : zPk b l = zPk b l') : l = l' := by
  induction l generalizing l' with
  | nil =>
    cases l' with
    | nil => rfl
    | cons d r =>
      have h1 := h' d (List.mem_cons_self)
      have h2 := zPk_pos hb (fun x hx => h' x (List.mem_cons_of_mem _ hx) : zOkL r)
      unfold zPk at e
      rcases hb with q | q <;> subst q <;> omega
  | cons d r ih =>
    have h1 := h d (List.mem_cons_self)
    have h2 := zPk_pos hb (fun x hx => h x (List.mem_cons_of_mem _ hx) : zOkL r)
    cases l' with
    | nil =>
      unfold zPk at e
      rcases hb with q | q <;> subst q <;> omega
    | cons d' r' =>
      have h3 := h' d' (List.mem_cons_self)
      have h4 := zPk_pos hb (fun x hx => h' x (List.mem_cons_of_mem _ hx) : zOkL r')
      have e1 : zPk b (d :: r) = d + b * zPk b r := rfl
      have e2 : zPk b (d' :: r') = d' + b * zPk b r' := rfl
      rw [e1, e2] at e
      have e3 : d = d' ∧ zPk b r = zPk b r' := by
        rcases hb with q | q <;> subst q <;> constructor <;> omega
      rw [e3.1, ih (fun x hx => h x (List.mem_cons_of_mem _ hx)) (fun x hx => h' x (List.mem_cons_of_mem _ hx)) e3.2]
theorem zPk_lt {l : List Int} {n : Nat} (h : zOkL l) (hn : l.length ≤ n) : zPk 32 l < 32 ^ n ∧ zPk 27 l < 27 ^ n := by
  induction l generalizing n with
  | nil =>
    unfold zPk
    exact ⟨Int.pow_pos (by decide), Int.pow_pos (by decide)⟩
  | cons d r ih =>
    cases n with
    | zero => simp at hn
    | succ n =>
      have h1 := h d (List.mem_cons_self)
      have h2 := ih (n := n) (fun x hx => h x (List.mem_cons_of_mem _ hx)) (by simpa using hn)
      unfold zPk
      rw [Int.pow_succ, Int.pow_succ]
      constructor <;> omega
theorem kw_ok {j : Int} (h0 : 0 ≤ j) (h1 : j < 21) : zOkL (kw j) ∧ 1 ≤ (kw j).length ∧ (kw j).length ≤ 7 := by
  have k : (List.range 21).all (fun q => (kw (q : Int)).all (fun d => decide (1 ≤ d ∧ d ≤ 26)) && decide (1 ≤ (kw (q : Int)).length ∧ (kw (q : Int)).length ≤ 7)) = true := by decide +kernel
  have e := z_all k (x := j) h0 (by omega)
  have e1 : ((j.toNat : Nat) : Int) = j := by omega
  rw [e1, Bool.and_eq_true] at e
  exact ⟨fun d hd => of_decide_eq_true (List.all_eq_true.mp e.1 d hd), of_decide_eq_true e.2⟩
theorem kw_inj {j k : Int} (h0 : 0 ≤ j) (h1 : j < 21) (k0 : 0 ≤ k) (k1 : k < 21) (e : kw j = kw k) : j = k := by
  have q : (List.range 21).all (fun a => (List.range 21).all (fun b => !decide (kw (a : Int) = kw (b : Int)) || decide (a = b))) = true := by decide +kernel
  have e2 := z_all2 q (x := j) (y := k) h0 (by omega) k0 (by omega)
  have e1 : ((j.toNat : Nat) : Int) = j := by omega
  have e3 : ((k.toNat : Nat) : Int) = k := by omega
  simp only [e1, e3, e] at e2
  simp at e2
  omega
theorem F182_s {k : Int} (h0 : 0 ≤ k) (h1 : k < 21) : F182 k = some (zPk 27 (kw k)) := by
  have q : (List.range 21).all (fun a => decide (F182 (a : Int) = some (zPk 27 (kw (a : Int))))) = true := by decide +kernel
  have e := of_decide_eq_true (z_all q (x := k) h0 (by omega))
  have e1 : ((k.toNat : Nat) : Int) = k := by omega
  rw [e1] at e
  exact e
theorem WR_iff {a b a' b' : Int} (h : WR a b) (h' : WR a' b') : a = a' ↔ b = b' := by
  obtain ⟨l, l1, l2, l3, rfl, rfl⟩ := h
  obtain ⟨r, r1, r2, r3, rfl, rfl⟩ := h'
  constructor
  · intro e
    rw [zPk_inj (Or.inr rfl) l3 r3 e]
  · intro e
    rw [zPk_inj (Or.inl rfl) l3 r3 e]
theorem kw_WR {j : Int} (h0 : 0 ≤ j) (h1 : j < 21) : WR (zPk 32 (kw j)) (zPk 27 (kw j)) := by
  obtain ⟨k1, k2, k3⟩ := kw_ok h0 h1
  exact ⟨kw j, k3, k2, k1, rfl, rfl⟩
theorem F27_s {h : zHC} {w : Int} (hk : RKw h) : ∃ v, F27 w h = some v ∧ ((v = -1 ∧ ∀ j, 0 ≤ j → j < 21 → ¬ zPk 32 (kw j) = w) ∨ (0 ≤ v ∧ v < 21 ∧ zPk 32 (kw v) = w)) := by
  have key : ∀ (n : Nat) (j : Int), 0 ≤ j → j ≤ 21 → 21 - j < n → (∀ q, 0 ≤ q → q < j → ¬ zPk 32 (kw q) = w) → ∃ v, F27_0 h n w j = some v ∧ ((v = -1 ∧ ∀ j, 0 ≤ j → j < 21 → ¬ zPk 32 (kw j) = w) ∨ (0 ≤ v ∧ v < 21 ∧ zPk 32 (kw v) = w)) := by
    intro n
    induction n with
    | zero => intro j j0 j1 g; omega
    | succ n ih =>
      intro j j0 j1 g hb
      rw [F27_0]
      by_cases e : j = 21
      · rw [if_pos (by omega)]
        exact ⟨-1, rfl, Or.inl ⟨rfl, fun q q0 q1 => hb q q0 (by omega)⟩⟩
      · rw [if_neg (by omega), zG_t (by omega), hk j j0 (by omega)]
        by_cases u : zPk 32 (kw j) = w
        · rw [if_neg (fun z => z (qcmp_0.mpr u))]
          exact ⟨j, rfl, Or.inr ⟨j0, by omega, u⟩⟩
        · rw [if_pos (fun z => u (qcmp_0.mp z)), wadd_eq (by omega) (by omega)]
          refine ih (j + 1) (by omega) (by omega) (by omega) (fun q q0 q1 => ?_)
          by_cases v : q = j
          · subst v; exact u
          · exact hb q q0 (by omega)
  have big := zFu_big
  exact key zFu 0 (by decide) (by decide) (by omega) (fun q q0 q1 => by omega)
def tfC (h h' : zHC) : Prop := ∀ r n j, ¬ (322 ≤ r ∧ r ≤ 328) → h' r n j = h r n j
def tfM (m m' : zHM) : Prop := ∀ r j, ¬ (5 ≤ r ∧ r ≤ 13) → m' r j = m r j
theorem tfC_trans {h h' h'' : zHC} (a : tfC h h') (b : tfC h' h'') : tfC h h'' := fun r n j hne => by rw [b r n j hne, a r n j hne]
theorem tfM_trans {m m' m'' : zHM} (a : tfM m m') (b : tfM m' m'') : tfM m m'' := fun r j hne => by rw [b r j hne, a r j hne]
theorem tfC_refl {h : zHC} : tfC h h := fun _ _ _ _ => rfl
theorem tfM_refl {m : zHM} : tfM m m := fun _ _ _ => rfl
/-- the texts are alike -/
def TB (h : zHC) (m : zHM) : Prop := h 321 0 0 = m 3 0 ∧ 0 ≤ m 3 0 ∧ m 3 0 ≤ 940 ∧ h 329 0 0 = m 4 0 ∧ 0 ≤ m 4 0 ∧ m 4 0 ≤ 940 ∧ (∀ i, 0 ≤ i → i < 940 → h 320 0 i = m 1 i ∧ 0 ≤ m 1 i ∧ m 1 i ≤ 255) ∧ RKw h
def TK (h : zHC) (m : zHM) : Prop := (h 324 0 0 = 0 ∧ m 3 0 ≤ m 4 0 ∧ m 7 0 = 0) ∨ (h 324 0 0 = 0 ∧ m 4 0 < m 3 0 ∧ m 7 0 = 1) ∨ (h 324 0 0 = 1 ∧ m 7 0 = 1) ∨ (h 324 0 0 = 2 ∧ m 7 0 = 2 ∧ WR (h 327 0 0) (m 12 0) ∧ ∀ j, 0 ≤ j → j < 21 → ¬ m 12 0 = zPk 27 (kw j)) ∨ (h 324 0 0 = 3 ∧ m 7 0 = 2 ∧ 0 ≤ h 326 0 0 ∧ h 326 0 0 < 21 ∧ m 12 0 = zPk 27 (kw (h 326 0 0))) ∨ (h 324 0 0 = 4 ∧ m 7 0 = 3 ∧ h 326 0 0 = m 8 0 ∧ 0 ≤ m 8 0 ∧ m 8 0 ≤ 999) ∨ (h 324 0 0 = 5 ∧ m 7 0 = 4 ∧ h 326 0 0 = m 9 0)
def TR (h : zHC) (m : zHM) : Prop := TB h m ∧ TK h m ∧ h 325 0 0 = m 6 0 ∧ (¬ h 324 0 0 = 0 → h 328 0 0 = m 5 0 ∧ 0 ≤ m 5 0 ∧ m 5 0 ≤ m 3 0)
theorem TB_keep {h h' : zHC} {m m' : zHM} (hb : TB h m) (f1 : tfC h h') (f2 : tfM m m') : TB h' m' := by
  obtain ⟨b1, b2, b3, b4, b5, b6, b7, b8⟩ := hb
  unfold TB
  rw [f1 321 _ _ (by omega), f1 329 _ _ (by omega), f2 3 _ (by omega), f2 4 _ (by omega)]
  refine ⟨b1, b2, b3, b4, b5, b6, fun i i0 i1 => ?_, RKw_keep (fun j => f1 330 0 j (by omega)) b8⟩
  rw [f1 320 _ _ (by omega), f2 1 _ (by omega)]
  exact b7 i i0 i1
theorem F24_s {c : Int} : F24 c = some (if 97 ≤ c ∧ c ≤ 122 then 1 else 0) := by
  unfold F24
  by_cases q : c < 97
  · rw [if_pos q, if_neg (by omega)]
  · by_cases q2 : 122 < c
    · rw [if_neg q, if_pos q2, if_neg (by omega)]
    · rw [if_neg q, if_neg q2, if_pos (by omega)]
theorem F25_s {c : Int} : F25 c = some (if 48 ≤ c ∧ c ≤ 57 then 1 else 0) := by
  unfold F25
  by_cases q : c < 48
  · rw [if_pos q, if_neg (by omega)]
  · by_cases q2 : 57 < c
    · rw [if_neg q, if_pos q2, if_neg (by omega)]
    · rw [if_neg q, if_neg q2, if_pos (by omega)]
theorem F177_s {c : Int} : F177 c = some (if 97 ≤ c ∧ c ≤ 122 then 1 else 0) := F24_s
theorem F178_s {c : Int} : F178 c = some (if 48 ≤ c ∧ c ≤ 57 then 1 else 0) := F25_s
def RN (h : zHC) (m : zHM) (L D t v2 v3 : Int) : Prop := 0 ≤ L ∧ 0 ≤ D ∧ L + D = t ∧ (v2 = 0 ∨ v2 = 1) ∧ v3 = (if (v2 = 1 ∧ D = 0) ∨ (v2 = 0 ∧ L = 0) then 1 else 0) ∧ (D = 0 → t ≤ 7 → ∃ l : List Int, (l.length : Int) = t ∧ zOkL l ∧ h 327 0 0 = zPk 32 l ∧ m 12 0 = zPk 27 l) ∧ (L = 0 → t ≤ 3 → h 326 0 0 = m 8 0 ∧ 0 ≤ m 8 0 ∧ (t = 0 → m 8 0 = 0) ∧ (t = 1 → m 8 0 ≤ 9) ∧ (t = 2 → m 8 0 ≤ 99) ∧ (t = 3 → m 8 0 ≤ 999)) ∧ (1 ≤ t → (v2 = 1 → 1 ≤ L) ∧ (v2 = 0 → 1 ≤ D))
/-- the end of a run -/
theorem T_runEnd {h : zHC} {m : zHM} {L D t v2 v3 : Int} (hb : TB h m) (t1 : 1 ≤ t) (hR : RN h m L D t v2 v3) (hp : h 328 0 0 = m 5 0) (p0 : 0 ≤ m 5 0) (p1 : m 5 0 ≤ m 3 0) (hs : h 325 0 0 = m 6 0) : ∃ h' m', F26_1 L D h = some h' ∧ (if v3 = 0 then F176_9 m else if v2 = 0 then F176_10 v2 3 t m else F176_10 v2 7 t m) = some m' ∧ TR h' m' ∧ (∀ r n j, ¬ ((r = 324 ∨ r = 326) ∧ n = 0 ∧ j = 0) → h' r n j = h r n j) ∧ (∀ r j, ¬ (r = 7 ∧ j = 0) → m' r j = m r j) := by
  obtain ⟨r1, r2, r3, r4, r5, r6, r7, r8⟩ := hR
  have r8 := r8 t1
  have bad : ∃ h' m', some (hset h 324 0 0 1) = some h' ∧ some (mset m 7 0 1) = some m' ∧ TR h' m' ∧ (∀ r n j, ¬ ((r = 324 ∨ r = 326) ∧ n = 0 ∧ j = 0) → h' r n j = h r n j) ∧ (∀ r j, ¬ (r = 7 ∧ j = 0) → m' r j = m r j) := by
    refine ⟨_, _, rfl, rfl, ⟨TB_keep hb (fun r n j hne => hset_ne (by omega)) (fun r j hne => mset_ne (by omega)), Or.inr (Or.inr (Or.inl ⟨hset_eq, mset_eq⟩)), by rw [hset_ne (by omega), mset_ne (by omega)]; exact hs, fun _ => ?_⟩, fun r n j hne => hset_ne (by omega), fun r j hne => mset_ne (by omega)⟩
    rw [hset_ne (by omega), mset_ne (by omega), mset_ne (by omega)]
    exact ⟨hp, p0, p1⟩
  unfold F26_1 F26_6 F26_8 F26_9 F176_9 F176_10 F176_11
  by_cases d0 : D = 0
  · rw [if_neg (fun z => z d0)]
    have hv2 : v2 = 1 ∨ v2 = 0 ∧ ¬ L = 0 := by
      rcases r4 with u | u
      · exact Or.inr ⟨u, by omega⟩
      · exact Or.inl u
    by_cases l7 : 7 < L
    · rw [if_pos l7, if_pos (show ¬ L = 0 by omega)]
      rcases hv2 with u | ⟨u, u2⟩
      · rw [if_pos (Or.inl ⟨u, d0⟩)] at r5
        rw [if_neg (show ¬ v3 = 0 by omega), if_neg (show ¬ v2 = 0 by omega), if_neg (show ¬ t ≤ 7 by omega)]
        exact bad
      · rw [if_neg (by omega)] at r5
        rw [if_pos r5]
        exact bad
    · rw [if_neg l7]
      obtain ⟨l, l1, l2, l3, l4⟩ := r6 d0 (by omega)
      obtain ⟨v, e1, e2⟩ := F27_s (h := h) (w := h 327 0 0) hb.2.2.2.2.2.2.2
      rw [e1]
      simp only [Option.bind_some]
      unfold F26_7
      rcases hv2 with u | ⟨u, u2⟩
      · rw [if_pos (Or.inl ⟨u, d0⟩)] at r5
        rw [if_neg (show ¬ v3 = 0 by omega), if_neg (show ¬ v2 = 0 by omega), if_pos (show t ≤ 7 by omega)]
        rw [if_neg (show ¬ v2 = 0 by omega)]
        have hw : WR (h 327 0 0) (m 12 0) := ⟨l, by omega, by omega, l2, l3, l4⟩
        rcases e2 with ⟨y1, y2⟩ | ⟨y1, y2, y3⟩
        · rw [if_neg (fun z => z y1 : ¬ ¬ v = -1)]
          refine ⟨_, _, rfl, rfl, ⟨TB_keep hb (fun r n j hne => by rw [hset_ne (by omega), hset_ne (by omega)]) (fun r j hne => mset_ne (by omega)), Or.inr (Or.inr (Or.inr (Or.inl ⟨hset_eq, mset_eq, ?_, ?_⟩))), ?_, fun _ => ?_⟩, fun r n j hne => by rw [hset_ne (by omega), hset_ne (by omega)], fun r j hne => mset_ne (by omega)⟩
          · rw [hset_ne (by omega), hset_ne (by omega), mset_ne (by omega)]
            exact hw
          · intro j j0 j1
            rw [mset_ne (by omega)]
            intro w
            exact y2 j j0 j1 ((WR_iff (kw_WR j0 j1) hw).mpr w.symm)
          · rw [hset_ne (by omega), hset_ne (by omega), mset_ne (by omega)]
            exact hs
          · rw [hset_ne (by omega), hset_ne (by omega), mset_ne (by omega), mset_ne (by omega)]
            exact ⟨hp, p0, p1⟩
        · rw [if_pos (show ¬ v = -1 by omega)]
          refine ⟨_, _, rfl, rfl, ⟨TB_keep hb (fun r n j hne => by rw [hset_ne (by omega), hset_ne (by omega)]) (fun r j hne => mset_ne (by omega)), Or.inr (Or.inr (Or.inr (Or.inr (Or.inl ⟨hset_eq, mset_eq, ?_⟩)))), ?_, fun _ => ?_⟩, fun r n j hne => by rw [hset_ne (by omega), hset_ne (by omega)], fun r j hne => mset_ne (by omega)⟩
          · rw [hset_ne (by omega), hset_eq, mset_ne (by omega)]
            exact ⟨y1, y2, ((WR_iff (kw_WR y1 y2) hw).mp y3).symm⟩
          · rw [hset_ne (by omega), hset_ne (by omega), mset_ne (by omega)]
            exact hs
          · rw [hset_ne (by omega), hset_ne (by omega), mset_ne (by omega), mset_ne (by omega)]
            exact ⟨hp, p0, p1⟩
      · omega
  · rw [if_pos d0]
    by_cases l0 : L = 0
    · rw [if_neg (fun z => z l0 : ¬ ¬ L = 0)]
      rcases r4 with u | u
      · rw [if_pos (Or.inr ⟨u, l0⟩)] at r5
        rw [if_neg (show ¬ v3 = 0 by omega), if_pos u]
        by_cases d3 : 3 < D
        · rw [if_pos d3, if_neg (show ¬ t ≤ 3 by omega)]
          exact bad
        · obtain ⟨y1, y2, y3, y4, y5, y6⟩ := r7 l0 (by omega)
          rw [if_neg d3, if_pos (show t ≤ 3 by omega), if_pos u]
          refine ⟨_, _, rfl, rfl, ⟨TB_keep hb (fun r n j hne => hset_ne (by omega)) (fun r j hne => mset_ne (by omega)), Or.inr (Or.inr (Or.inr (Or.inr (Or.inr (Or.inl ⟨hset_eq, mset_eq, ?_⟩))))), ?_, fun _ => ?_⟩, fun r n j hne => hset_ne (by omega), fun r j hne => mset_ne (by omega)⟩
          · rw [hset_ne (by omega), mset_ne (by omega)]
            exact ⟨y1, y2, by omega⟩
          · rw [hset_ne (by omega), mset_ne (by omega)]
            exact hs
          · rw [hset_ne (by omega), mset_ne (by omega), mset_ne (by omega)]
            exact ⟨hp, p0, p1⟩
      · rw [if_neg (by omega)] at r5
        rw [if_pos r5]
        by_cases d3 : 3 < D
        · rw [if_pos d3]; exact bad
        · omega
    · rw [if_pos l0]
      rw [if_neg (by omega)] at r5
      rw [if_pos r5]
      exact bad
end
section
/-! The next token. -/
theorem M8 {m : zHM} {v2 v3 c t : Int} {k0 : Int → Int → zHM → Option zHM} (p0 : 0 ≤ m 5 0) (p1 : m 5 0 < 940) (f0 : 0 ≤ m 6 0) (f1 : m 6 0 ≤ m 5 0) (hc : m 1 (m 5 0) = c) (ht : m 5 0 - m 6 0 = t) (c0 : 0 ≤ c) (c1 : c ≤ 255) : ∃ m1, F176_8 k0 v2 v3 m = k0 v2 (if v3 = 0 then 0 else if (if 97 ≤ c ∧ c ≤ 122 then (1 : Int) else 0) = v2 then 1 else 0) m1 ∧ m1 5 0 = m 5 0 + 1 ∧ m1 12 0 = (if 7 ≤ t then m 12 0 else qsub (qadd (qmul 27 (m 12 0)) c) 96) ∧ m1 8 0 = (if 3 ≤ t then m 8 0 else wsub (wadd (wmul 10 (m 8 0)) c) 48) ∧ ∀ r j, ¬ ((r = 5 ∨ r = 8 ∨ r = 12) ∧ j = 0) → m1 r j = m r j := by
  have w : wsub (m 5 0) (m 6 0) = t := by rw [wsub_eq (by omega) (by omega)]; exact ht
  have w1 : wadd (m 5 0) 1 = m 5 0 + 1 := wadd_eq (by omega) (by omega)
  have key : ∀ s0, ∃ m1, F176_13 k0 v2 c s0 m = k0 v2 s0 m1 ∧ m1 5 0 = m 5 0 + 1 ∧ m1 12 0 = (if 7 ≤ t then m 12 0 else qsub (qadd (qmul 27 (m 12 0)) c) 96) ∧ m1 8 0 = (if 3 ≤ t then m 8 0 else wsub (wadd (wmul 10 (m 8 0)) c) 48) ∧ ∀ r j, ¬ ((r = 5 ∨ r = 8 ∨ r = 12) ∧ j = 0) → m1 r j = m r j := by
    intro s0
    unfold F176_13 F176_14 F176_15
    rw [w]
    by_cases q7 : 7 ≤ t
    · rw [if_pos q7, if_pos q7, if_pos (show 3 ≤ t by omega), if_pos (show 3 ≤ t by omega), w1]
      exact ⟨_, rfl, mset_eq, mset_ne (by omega), mset_ne (by omega), fun r j hne => mset_ne (by omega)⟩
    · rw [if_neg q7, if_neg q7, mset_ne (show ¬ ((5 : Nat) = 12 ∧ (0 : Int) = 0) by omega), mset_ne (show ¬ ((6 : Nat) = 12 ∧ (0 : Int) = 0) by omega), w]
      by_cases q3 : 3 ≤ t
      · rw [if_pos q3, if_pos q3, w1]
        exact ⟨_, rfl, mset_eq, by rw [mset_ne (by omega), mset_eq], by rw [mset_ne (by omega), mset_ne (by omega)], fun r j hne => by rw [mset_ne (by omega), mset_ne (by omega)]⟩
      · rw [if_neg q3, if_neg q3, mset_ne (k' := 8) (show ¬ ((8 : Nat) = 12 ∧ (0 : Int) = 0) by omega)]
        rw [mset_ne (k' := 5) (show ¬ ((5 : Nat) = 8 ∧ (0 : Int) = 0) by omega), mset_ne (k' := 5) (show ¬ ((5 : Nat) = 12 ∧ (0 : Int) = 0) by omega), w1]
        exact ⟨_, rfl, mset_eq, by rw [mset_ne (by omega), mset_ne (by omega), mset_eq], by rw [mset_ne (by omega), mset_eq], fun r j hne => by rw [mset_ne (by omega), mset_ne (by omega), mset_ne (by omega)]⟩
  unfold F176_8 F176_12
  rw [zG_t (by omega), hc]
  by_cases q : v3 = 0
  · rw [if_pos q, if_pos q]
    exact key 0
  · rw [if_neg q, if_neg q, F177_s, Option.bind_some]
    by_cases u : (if 97 ≤ c ∧ c ≤ 122 then (1 : Int) else 0) = v2
    · rw [if_neg (fun z => z u), if_pos u]
      exact key 1
    · rw [if_pos u, if_neg u]
      exact key 0
theorem C2l {h : zHC} {L D c : Int} {k0 : Int → Int → zHC → Option zHC} (p0 : 0 ≤ h 328 0 0) (p1 : h 328 0 0 < 940) (hc : h 320 0 (h 328 0 0) = c) (c0 : 97 ≤ c) (c1 : c ≤ 122) (L0 : 0 ≤ L) (L1 : L ≤ 2000) : ∃ h1, F26_2 k0 L D h = k0 (L + 1) D h1 ∧ h1 328 0 0 = h 328 0 0 + 1 ∧ h1 327 0 0 = (if 7 < L + 1 then 0 else qor (qshl (h 327 0 0) 5) (c - 96)) ∧ ∀ r n j, ¬ ((r = 327 ∨ r = 328) ∧ n = 0 ∧ j = 0) → h1 r n j = h r n j := by
  have w1 : wadd (h 328 0 0) 1 = h 328 0 0 + 1 := wadd_eq (by omega) (by omega)
  have wl : wadd L 1 = L + 1 := wadd_eq (by omega) (by omega)
  unfold F26_2 F26_4 F26_5
  rw [zG_t (by omega), hc, F24_s, Option.bind_some, if_pos (show 97 ≤ c ∧ c ≤ 122 by omega), if_neg (show ¬ (1 : Int) = 0 by decide), wl]
  by_cases q : 7 < L + 1
  · rw [if_pos q, if_pos q, hset_ne (r' := 328) (show ¬ ((328 : Nat) = 327 ∧ (0 : Int) = 0 ∧ (0 : Int) = 0) by omega), w1]
    exact ⟨_, rfl, hset_eq, by rw [hset_ne (by omega), hset_eq], fun r n j hne => by rw [hset_ne (by omega), hset_ne (by omega)]⟩
  · rw [if_neg q, if_neg q, zG_t (by omega)]
    unfold F3
    rw [Option.bind_some, hset_ne (r' := 328) (show ¬ ((328 : Nat) = 327 ∧ (0 : Int) = 0 ∧ (0 : Int) = 0) by omega), w1, wsub_eq (by omega) (by omega), wadd_eq (x := c - 97) (by omega) (by omega), show c - 97 + 1 = c - 96 by omega]
    exact ⟨_, rfl, hset_eq, by rw [hset_ne (by omega), hset_eq], fun r n j hne => by rw [hset_ne (by omega), hset_ne (by omega)]⟩
theorem C2d {h : zHC} {L D c : Int} {k0 : Int → Int → zHC → Option zHC} (p0 : 0 ≤ h 328 0 0) (p1 : h 328 0 0 < 940) (hc : h 320 0 (h 328 0 0) = c) (c0 : 48 ≤ c) (c1 : c ≤ 57) (D0 : 0 ≤ D) (D1 : D ≤ 2000) : ∃ h1, F26_2 k0 L D h = k0 L (D + 1) h1 ∧ h1 328 0 0 = h 328 0 0 + 1 ∧ h1 326 0 0 = (if 3 < D + 1 then 0 else wsub (wadd (wmul (h 326 0 0) 10) c) 48) ∧ ∀ r n j, ¬ ((r = 326 ∨ r = 328) ∧ n = 0 ∧ j = 0) → h1 r n j = h r n j := by
  have w1 : wadd (h 328 0 0) 1 = h 328 0 0 + 1 := wadd_eq (by omega) (by omega)
  have wl : wadd D 1 = D + 1 := wadd_eq (by omega) (by omega)
  unfold F26_2 F26_3 F26_5
  rw [zG_t (by omega), hc, F24_s, Option.bind_some, if_neg (show ¬ (97 ≤ c ∧ c ≤ 122) by omega), if_pos rfl, wl]
  by_cases q : 3 < D + 1
  · rw [if_pos q, if_pos q, hset_ne (r' := 328) (show ¬ ((328 : Nat) = 326 ∧ (0 : Int) = 0 ∧ (0 : Int) = 0) by omega), w1]
    exact ⟨_, rfl, hset_eq, by rw [hset_ne (by omega), hset_eq], fun r n j hne => by rw [hset_ne (by omega), hset_ne (by omega)]⟩
  · rw [if_neg q, if_neg q, zG_t (by omega), hset_ne (r' := 328) (show ¬ ((328 : Nat) = 326 ∧ (0 : Int) = 0 ∧ (0 : Int) = 0) by omega), w1]
    exact ⟨_, rfl, hset_eq, by rw [hset_ne (by omega), hset_eq], fun r n j hne => by rw [hset_ne (by omega), hset_ne (by omega)]⟩
theorem T_run : ∀ (n n' : Nat) (L D t v2 v3 : Int) (h : zHC) (m : zHM), TB h m → RN h m L D t v2 v3 → m 5 0 - m 6 0 = t → h 328 0 0 = m 5 0 → 0 ≤ m 6 0 → m 6 0 ≤ m 5 0 → m 5 0 ≤ m 3 0 → h 325 0 0 = m 6 0 → (t = 0 → m 5 0 < m 3 0 ∧ ((97 ≤ m 1 (m 5 0) ∧ m 1 (m 5 0) ≤ 122 ∧ v2 = 1) ∨ (48 ≤ m 1 (m 5 0) ∧ m 1 (m 5 0) ≤ 57 ∧ v2 = 0))) → m 3 0 - m 5 0 < n → m 3 0 - m 5 0 < n' → ∃ h' m', F26_0 n L D h = some h' ∧ F176_7 n' v2 v3 m = some m' ∧ TR h' m' ∧ (∀ r n j, ¬ ((r = 324 ∨ r = 326 ∨ r = 327 ∨ r = 328) ∧ n = 0 ∧ j = 0) → h' r n j = h r n j) ∧ (∀ r j, ¬ ((r = 5 ∨ r = 7 ∨ r = 8 ∨ r = 12) ∧ j = 0) → m' r j = m r j) := by
  intro n
  induction n with
  | zero => intro n' L D t v2 v3 h m hb hR ht hp f0 f1 p1 hs hf g1 g2; omega
  | succ n ih =>
    intro n' L D t v2 v3 h m hb hR ht hp f0 f1 p1 hs hf g1 g2
    cases n' with
    | zero => omega
    | succ n' =>
      obtain ⟨b1, b2, b3, b4, b5, b6, b7, b8⟩ := id hb
      obtain ⟨r1, r2, r3, r4, r5, r6, r7, r8⟩ := id hR
      have fin : 1 ≤ t → ∃ h' m', F26_1 L D h = some h' ∧ (if v3 = 0 then F176_9 m else if v2 = 0 then F176_10 v2 3 (wsub (m 5 0) (m 6 0)) m else F176_10 v2 7 (wsub (m 5 0) (m 6 0)) m) = some m' ∧ TR h' m' ∧ (∀ r n j, ¬ ((r = 324 ∨ r = 326 ∨ r = 327 ∨ r = 328) ∧ n = 0 ∧ j = 0) → h' r n j = h r n j) ∧ (∀ r j, ¬ ((r = 5 ∨ r = 7 ∨ r = 8 ∨ r = 12) ∧ j = 0) → m' r j = m r j) := by
        intro t1
        obtain ⟨h', m', e1, e2, e3, e4, e5⟩ := T_runEnd (h := h) (m := m) hb t1 hR hp (by omega) p1 hs
        rw [wsub_eq (by omega) (by omega), ht]
        exact ⟨h', m', e1, e2, e3, fun r n j hne => e4 r n j (by omega), fun r j hne => e5 r j (by omega)⟩
      rw [F26_0, F176_7]
      unfold F179
      rw [b1, hp]
      by_cases e : m 3 0 ≤ m 5 0
      · have t1 : 1 ≤ t := by
          by_cases u : t = 0
          · have := (hf u).1; omega
          · omega
        rw [if_pos e, if_pos e, Option.bind_some, F177_s, if_neg (show ¬ (97 ≤ (0 : Int) ∧ (0 : Int) ≤ 122) by decide), Option.bind_some, if_neg (show ¬ ¬ (0 : Int) = 0 by decide), Option.bind_some, F178_s, if_neg (show ¬ (48 ≤ (0 : Int) ∧ (0 : Int) ≤ 57) by decide), Option.bind_some, if_pos rfl]
        exact fin t1
      · obtain ⟨c1, c2, c3⟩ := b7 (m 5 0) (by omega) (by omega)
        rw [if_neg e, if_neg e]
        simp (disch := omega) only [zG_t, Option.bind_some]
        rw [c1]
        generalize hcc : m 1 (m 5 0) = c at c1 c2 c3 hf
        have hcH : h 320 0 (h 328 0 0) = c := by rw [hp]; exact c1
        have kt : (if 97 ≤ c ∧ c ≤ 122 then (1 : Int) else 0) = 1 ∧ 97 ≤ c ∧ c ≤ 122 ∨ (if 97 ≤ c ∧ c ≤ 122 then (1 : Int) else 0) = 0 ∧ ¬ (97 ≤ c ∧ c ≤ 122) := by
          by_cases u : 97 ≤ c ∧ c ≤ 122
          · exact Or.inl ⟨if_pos u, u⟩
          · exact Or.inr ⟨if_neg u, u⟩
        rw [F24_s, F177_s, Option.bind_some, Option.bind_some]
        rcases kt with ⟨k1, k2, k3⟩ | ⟨k1, k2⟩
        · rw [k1, if_pos (show ¬ (1 : Int) = 0 by decide), if_pos (show ¬ (1 : Int) = 0 by decide)]
          obtain ⟨h1, x1, x2, x3, x4⟩ := C2l (h := h) (L := L) (D := D) (c := c) (k0 := F26_0 n) (by omega) (by omega) hcH k2 k3 r1 (by omega)
          obtain ⟨m1, y1, y2, y3, y4, y5⟩ := M8 (m := m) (v2 := v2) (v3 := v3) (c := c) (t := t) (k0 := F176_7 n') (by omega) (by omega) f0 f1 hcc ht c2 c3
          rw [x1, y1]
          have hR1 : RN h1 m1 (L + 1) D (t + 1) v2 (if v3 = 0 then 0 else if (if 97 ≤ c ∧ c ≤ 122 then (1 : Int) else 0) = v2 then 1 else 0) := by
            refine ⟨by omega, r2, by omega, r4, ?_, fun d0 t7 => ?_, fun l0 => by omega, fun _ => ⟨fun _ => by omega, fun u => ?_⟩⟩
            · rw [k1, r5]
              rcases r4 with u | u
              · subst u
                rw [if_neg (show ¬ ((0 : Int) = 1 ∧ D = 0 ∨ (0 : Int) = 0 ∧ L + 1 = 0) by omega), if_neg (show ¬ (1 : Int) = 0 by decide)]
                split <;> rfl
              · subst u
                rw [if_pos (rfl : (1 : Int) = 1)]
                by_cases d0 : D = 0
                · rw [if_pos (Or.inl ⟨rfl, d0⟩), if_pos (Or.inl ⟨rfl, d0⟩), if_neg (by decide)]
                · rw [if_neg (show ¬ ((1 : Int) = 1 ∧ D = 0 ∨ (1 : Int) = 0 ∧ L = 0) by omega), if_neg (show ¬ ((1 : Int) = 1 ∧ D = 0 ∨ (1 : Int) = 0 ∧ L + 1 = 0) by omega), if_pos rfl]
            · obtain ⟨l, l1, l2, l3, l4⟩ := r6 d0 (by omega)
              have bd := zPk_lt (n := 7) l2 (by omega)
              have p32 : (32 : Int) ^ 7 = 34359738368 := by decide
              have p27 : (27 : Int) ^ 7 = 10460353203 := by decide
              have z32 := zPk_pos (Or.inr rfl : (32 : Int) = 27 ∨ (32 : Int) = 32) l2
              have z27 := zPk_pos (Or.inl rfl : (27 : Int) = 27 ∨ (27 : Int) = 32) l2
              refine ⟨(c - 96) :: l, by simp only [List.length_cons]; omega, ?_, ?_, ?_⟩
              · intro d hd
                rcases List.mem_cons.mp hd with u | u
                · subst u; omega
                · exact l2 d u
              · rw [x3, if_neg (by omega), l3, q_letter (by omega) (by omega) (by omega) (by omega)]
                show _ = (c - 96) + 32 * zPk 32 l
                omega
              · rw [y3, if_neg (by omega), l4, qmul_eq (by omega) (by omega), qadd_eq (by omega) (by omega), qsub_eq (by omega) (by omega)]
                show _ = (c - 96) + 27 * zPk 27 l
                omega
            · by_cases u2 : t = 0
              · have := (hf u2).2; omega
              · exact (r8 (by omega)).2 u
          obtain ⟨h', m', z1, z2, z3, z4, z5⟩ := ih n' (L + 1) D (t + 1) v2 _ h1 m1 (TB_keep hb (fun r n j hne => x4 r n j (by omega)) (fun r j hne => y5 r j (by omega))) hR1 (by rw [y2, y5 6 0 (by omega)]; omega) (by rw [x2, y2, hp]) (by rw [y5 6 0 (by omega)]; exact f0) (by rw [y2, y5 6 0 (by omega)]; omega) (by rw [y2, y5 3 0 (by omega)]; omega) (by rw [x4 325 0 0 (by omega), y5 6 0 (by omega)]; exact hs) (fun u => by omega) (by rw [y2, y5 3 0 (by omega)]; omega) (by rw [y2, y5 3 0 (by omega)]; omega)
          exact ⟨h', m', z1, z2, z3, fun r n j hne => by rw [z4 r n j hne, x4 r n j (by omega)], fun r j hne => by rw [z5 r j hne, y5 r j (by omega)]⟩
        · rw [k1, if_neg (show ¬ ¬ (0 : Int) = 0 by decide), if_neg (show ¬ ¬ (0 : Int) = 0 by decide), F25_s, Option.bind_some, F178_s, Option.bind_some]
          by_cases dg : 48 ≤ c ∧ c ≤ 57
          · rw [if_pos dg, if_neg (show ¬ (1 : Int) = 0 by decide), if_neg (show ¬ (1 : Int) = 0 by decide)]
            obtain ⟨h1, x1, x2, x3, x4⟩ := C2d (h := h) (L := L) (D := D) (c := c) (k0 := F26_0 n) (by omega) (by omega) hcH dg.1 dg.2 r2 (by omega)
            obtain ⟨m1, y1, y2, y3, y4, y5⟩ := M8 (m := m) (v2 := v2) (v3 := v3) (c := c) (t := t) (k0 := F176_7 n') (by omega) (by omega) f0 f1 hcc ht c2 c3
            rw [x1, y1]
            have hR1 : RN h1 m1 L (D + 1) (t + 1) v2 (if v3 = 0 then 0 else if (if 97 ≤ c ∧ c ≤ 122 then (1 : Int) else 0) = v2 then 1 else 0) := by
              refine ⟨r1, by omega, by omega, r4, ?_, fun d0 => by omega, fun l0 t3 => ?_, fun _ => ⟨fun u => ?_, fun _ => by omega⟩⟩
              · rw [k1, r5]
                rcases r4 with u | u
                · subst u
                  rw [if_pos (rfl : (0 : Int) = 0)]
                  by_cases d0 : L = 0
                  · rw [if_pos (Or.inr ⟨rfl, d0⟩), if_pos (Or.inr ⟨rfl, d0⟩), if_neg (by decide)]
                  · rw [if_neg (show ¬ ((0 : Int) = 1 ∧ D = 0 ∨ (0 : Int) = 0 ∧ L = 0) by omega), if_neg (show ¬ ((0 : Int) = 1 ∧ D + 1 = 0 ∨ (0 : Int) = 0 ∧ L = 0) by omega), if_pos rfl]
                · subst u
                  rw [if_neg (show ¬ ((1 : Int) = 1 ∧ D + 1 = 0 ∨ (1 : Int) = 0 ∧ L = 0) by omega), if_neg (show ¬ (0 : Int) = 1 by decide)]
                  split <;> rfl
              · obtain ⟨w1, w2, w3, w4, w5, w6⟩ := r7 l0 (by omega)
                have o : t = 0 ∨ t = 1 ∨ t = 2 := by omega
                have bd : m 8 0 ≤ 99 := by
                  rcases o with o | o | o
                  · have := w3 o; omega
                  · have := w4 o; omega
                  · exact w5 o
                rw [x3, if_neg (by omega), y4, if_neg (by omega), w1, wmul_eq (x := m 8 0) (by omega) (by omega), wmul_eq (x := 10) (by omega) (by omega), wadd_eq (x := m 8 0 * 10) (by omega) (by omega), wadd_eq (x := 10 * m 8 0) (by omega) (by omega), wsub_eq (x := m 8 0 * 10 + c) (by omega) (by omega), wsub_eq (x := 10 * m 8 0 + c) (by omega) (by omega)]
                refine ⟨by omega, by omega, fun u => by omega, fun u => ?_, fun u => ?_, fun u => ?_⟩
                · have := w3 (by omega); omega
                · have := w4 (by omega); omega
                · have := w5 (by omega); omega
              · by_cases u2 : t = 0
                · have := (hf u2).2; omega
                · exact (r8 (by omega)).1 u
            obtain ⟨h', m', z1, z2, z3, z4, z5⟩ := ih n' L (D + 1) (t + 1) v2 _ h1 m1 (TB_keep hb (fun r n j hne => x4 r n j (by omega)) (fun r j hne => y5 r j (by omega))) hR1 (by rw [y2, y5 6 0 (by omega)]; omega) (by rw [x2, y2, hp]) (by rw [y5 6 0 (by omega)]; exact f0) (by rw [y2, y5 6 0 (by omega)]; omega) (by rw [y2, y5 3 0 (by omega)]; omega) (by rw [x4 325 0 0 (by omega), y5 6 0 (by omega)]; exact hs) (fun u => by omega) (by rw [y2, y5 3 0 (by omega)]; omega) (by rw [y2, y5 3 0 (by omega)]; omega)
            exact ⟨h', m', z1, z2, z3, fun r n j hne => by rw [z4 r n j hne, x4 r n j (by omega)], fun r j hne => by rw [z5 r j hne, y5 r j (by omega)]⟩
          · have t1 : 1 ≤ t := by
              by_cases u : t = 0
              · have := (hf u).2; omega
              · omega
            rw [if_neg dg, if_pos rfl, if_pos rfl]
            exact fin t1
end
section
/-! step() and go(). -/
theorem F23_s {c : Int} : F23 c = some (if c = 32 ∨ c = 10 then 1 else 0) := by
  unfold F23 F23_0
  by_cases q : c = 32
  · rw [if_pos q, if_pos (Or.inl q)]
  · rw [if_neg q]
    by_cases q2 : c = 10
    · rw [if_neg (fun z => z q2), if_pos (Or.inr q2)]
    · rw [if_pos q2, if_neg (by omega)]
theorem F28_s {c : Int} : F28 c = some (if c = 59 ∨ c = 60 ∨ c = 61 ∨ c = 62 ∨ c = 40 ∨ c = 41 then 1 else 0) := by
  unfold F28 F28_0
  by_cases q1 : c = 59
  · rw [if_pos q1, if_pos (by omega)]
  rw [if_neg q1]
  by_cases q2 : c = 60
  · rw [if_pos q2, if_pos (by omega)]
  rw [if_neg q2]
  by_cases q3 : c = 61
  · rw [if_pos q3, if_pos (by omega)]
  rw [if_neg q3]
  by_cases q4 : c = 62
  · rw [if_pos q4, if_pos (by omega)]
  rw [if_neg q4]
  by_cases q5 : c = 40
  · rw [if_pos q5, if_pos (by omega)]
  rw [if_neg q5]
  by_cases q6 : c = 41
  · rw [if_neg (fun z => z q6), if_pos (by omega)]
  · rw [if_pos q6, if_neg (by omega)]
theorem MB : ∀ (n : Nat) (m : zHM), 0 ≤ m 5 0 → m 5 0 ≤ m 3 0 → m 3 0 ≤ 940 → m 3 0 - m 5 0 < n → ∃ m1, F176_0 n m = F176_1 m1 ∧ m 5 0 ≤ m1 5 0 ∧ m1 5 0 ≤ m 3 0 ∧ ∀ r j, ¬ (r = 5 ∧ j = 0) → m1 r j = m r j := by
  intro n
  induction n with
  | zero => intro m p0 p1 s g; omega
  | succ n ih =>
    intro m p0 p1 s g
    rw [F176_0]
    by_cases e : m 3 0 ≤ m 5 0
    · rw [if_pos e]
      exact ⟨m, rfl, Int.le_refl _, p1, fun _ _ _ => rfl⟩
    · rw [if_neg e]
      simp (disch := omega) only [zG_t]
      unfold F176_2
      rw [wadd_eq (by omega) (by omega)]
      have nx : ∃ m1, F176_0 n (mset m 5 0 (m 5 0 + 1)) = F176_1 m1 ∧ m 5 0 ≤ m1 5 0 ∧ m1 5 0 ≤ m 3 0 ∧ ∀ r j, ¬ (r = 5 ∧ j = 0) → m1 r j = m r j := by
        obtain ⟨m1, a1, a2, a3, a4⟩ := ih (mset m 5 0 (m 5 0 + 1)) (by rw [mset_eq]; omega) (by rw [mset_eq, mset_ne (by omega)]; omega) (by rw [mset_ne (by omega)]; exact s) (by rw [mset_eq, mset_ne (by omega)]; omega)
        rw [mset_eq] at a2
        rw [mset_ne (by omega)] at a3
        exact ⟨m1, a1, by omega, a3, fun r j hne => by rw [a4 r j hne, mset_ne (by omega)]⟩
      by_cases q : m 1 (m 5 0) = 32
      · rw [if_pos q]; exact nx
      · rw [if_neg q]
        by_cases q2 : m 1 (m 5 0) = 10
        · rw [if_neg (fun z => z q2)]; exact nx
        · rw [if_pos q2]
          exact ⟨m, rfl, Int.le_refl _, p1, fun _ _ _ => rfl⟩
theorem T_blank {stop : Int} : ∀ (n n' : Nat) (h : zHC) (m : zHM), TB h m → h 328 0 0 = m 5 0 → 0 ≤ m 5 0 → m 5 0 ≤ m 3 0 → stop ≤ m 3 0 → m 3 0 - m 5 0 < n → m 3 0 - m 5 0 < n' → ∃ h1 m1, F21_0 n stop h = F21_1 stop h1 ∧ F176_0 n' m = F176_1 m1 ∧ (∀ r n j, ¬ (r = 328 ∧ n = 0 ∧ j = 0) → h1 r n j = h r n j) ∧ (∀ r j, ¬ (r = 5 ∧ j = 0) → m1 r j = m r j) ∧ 0 ≤ m1 5 0 ∧ m1 5 0 ≤ m 3 0 ∧ ((h1 328 0 0 = m1 5 0 ∧ m1 5 0 < stop) ∨ (stop ≤ h1 328 0 0 ∧ stop ≤ m1 5 0)) := by
  intro n
  induction n with
  | zero => intro n' h m hb hp p0 p1 hs g1 g2; omega
  | succ n ih =>
    intro n' h m hb hp p0 p1 hs g1 g2
    cases n' with
    | zero => omega
    | succ n' =>
      obtain ⟨b1, b2, b3, b4, b5, b6, b7, b8⟩ := id hb
      by_cases e : stop ≤ m 5 0
      · obtain ⟨m1, a1, a2, a3, a4⟩ := MB (n' + 1) m p0 p1 b3 (by omega)
        rw [F21_0, if_pos (by omega)]
        exact ⟨h, m1, rfl, a1, fun _ _ _ _ => rfl, a4, by omega, a3, Or.inr ⟨by omega, by omega⟩⟩
      · obtain ⟨c1, c2, c3⟩ := b7 (m 5 0) (by omega) (by omega)
        rw [F21_0, F176_0, hp, if_neg e, if_neg (show ¬ m 3 0 ≤ m 5 0 by omega)]
        simp (disch := omega) only [zG_t]
        rw [c1, F23_s]
        simp only [Option.bind_some]
        unfold F176_2
        rw [wadd_eq (by omega) (by omega)]
        by_cases q : m 1 (m 5 0) = 32 ∨ m 1 (m 5 0) = 10
        · rw [if_pos q, if_neg (show ¬ (1 : Int) = 0 by decide)]
          have em : (if m 1 (m 5 0) = 32 then F176_0 n' (mset m 5 0 (m 5 0 + 1)) else if ¬ m 1 (m 5 0) = 10 then F176_1 m else F176_0 n' (mset m 5 0 (m 5 0 + 1))) = F176_0 n' (mset m 5 0 (m 5 0 + 1)) := by
            rcases q with q | q
            · rw [if_pos q]
            · by_cases u : m 1 (m 5 0) = 32
              · rw [if_pos u]
              · rw [if_neg u, if_neg (fun z => z q)]
          rw [em]
          obtain ⟨h1, m1, x1, x2, x3, x4, x5, x6, x7⟩ := ih n' (hset h 328 0 0 (m 5 0 + 1)) (mset m 5 0 (m 5 0 + 1)) (TB_keep hb (fun r n j hne => hset_ne (by omega)) (fun r j hne => mset_ne (by omega))) (by rw [hset_eq, mset_eq]) (by rw [mset_eq]; omega) (by rw [mset_eq, mset_ne (by omega)]; omega) (by rw [mset_ne (by omega)]; exact hs) (by rw [mset_eq, mset_ne (by omega)]; omega) (by rw [mset_eq, mset_ne (by omega)]; omega)
          exact ⟨h1, m1, x1, x2, fun r n j hne => by rw [x3 r n j hne, hset_ne (by omega)], fun r j hne => by rw [x4 r j hne, mset_ne (by omega)], x5, by rw [mset_ne (by omega)] at x6; exact x6, x7⟩
        · rw [if_neg q, if_pos rfl, if_neg (show ¬ m 1 (m 5 0) = 32 by omega), if_pos (show ¬ m 1 (m 5 0) = 10 by omega)]
          exact ⟨h, m, rfl, rfl, fun _ _ _ _ => rfl, fun _ _ _ => rfl, p0, p1, Or.inl ⟨hp, by omega⟩⟩
theorem T_step {h : zHC} {m : zHM} (hb : TB h m) (hp : h 328 0 0 = m 5 0) (p0 : 0 ≤ m 5 0) (p1 : m 5 0 ≤ m 3 0) : ∃ h' m', F21 h = some h' ∧ F176 m = some m' ∧ TR h' m' ∧ (∀ r n j, ¬ (324 ≤ r ∧ r ≤ 328) → h' r n j = h r n j) ∧ (∀ r j, ¬ ((5 ≤ r ∧ r ≤ 9) ∨ r = 12) → m' r j = m r j) := by
  have big := zFu_big
  obtain ⟨b1, b2, b3, b4, b5, b6, b7, b8⟩ := id hb
  have es : ∃ stop, (if h 329 0 0 < h 321 0 0 then h 329 0 0 else h 321 0 0) = stop ∧ stop ≤ m 3 0 ∧ stop ≤ m 4 0 ∧ (m 3 0 ≤ m 4 0 → stop = m 3 0) ∧ (m 4 0 < m 3 0 → stop = m 4 0) := by
    refine ⟨_, rfl, ?_⟩
    rw [b4, b1]
    by_cases q : m 4 0 < m 3 0
    · rw [if_pos q]; exact ⟨by omega, by omega, by omega, fun _ => rfl⟩
    · rw [if_neg q]; exact ⟨by omega, by omega, fun _ => rfl, by omega⟩
  obtain ⟨stop, s1, s2, s3, s4, s5⟩ := es
  obtain ⟨h1, m1, x1, x2, x3, x4, x5, x6, x7⟩ := T_blank (stop := stop) zFu zFu h m hb hp p0 p1 s2 (by omega) (by omega)
  unfold F21 F176
  rw [s1, x1, x2]
  have e3 : m1 3 0 = m 3 0 := x4 3 0 (by omega)
  have e4 : m1 4 0 = m 4 0 := x4 4 0 (by omega)
  have hb1 : TB h1 m1 := TB_keep hb (fun r n j hne => x3 r n j (by omega)) (fun r j hne => x4 r j (by omega))
  unfold F21_1 F176_1
  rw [e3, e4]
  rcases x7 with ⟨y1, y2⟩ | ⟨y1, y2⟩
  · obtain ⟨c1, c2, c3⟩ := hb1.2.2.2.2.2.2.1 (m1 5 0) x5 (by omega)
    have eM : (if m 3 0 ≤ m 4 0 then F176_3 (mset m1 6 0 (m1 5 0)) else if m1 5 0 < m 4 0 then F176_3 (mset m1 6 0 (m1 5 0)) else some (mset (mset (mset m1 6 0 (m1 5 0)) 6 0 (m 4 0)) 7 0 1)) = F176_3 (mset m1 6 0 (m1 5 0)) := by
      by_cases q : m 3 0 ≤ m 4 0
      · rw [if_pos q]
      · rw [if_neg q, if_pos (by omega)]
    rw [eM, y1, if_pos y2, if_neg (show ¬ stop < m1 5 0 by omega)]
    unfold F176_3
    have g1 : ∀ r j, ¬ (r = 6 ∧ j = 0) → (mset m1 6 0 (m1 5 0)) r j = m1 r j := fun r j hne => mset_ne hne
    have g2 : (mset m1 6 0 (m1 5 0)) 6 0 = m1 5 0 := mset_eq
    generalize mset m1 6 0 (m1 5 0) = m2 at g1 g2
    have k1 : ∀ r n j, ¬ (r = 325 ∧ n = 0 ∧ j = 0) → (hset h1 325 0 0 (m1 5 0)) r n j = h1 r n j := fun r n j hne => hset_ne hne
    have k2 : (hset h1 325 0 0 (m1 5 0)) 325 0 0 = m1 5 0 := hset_eq
    generalize hset h1 325 0 0 (m1 5 0) = h2 at k1 k2
    have hb2 : TB h2 m2 := TB_keep hb1 (fun r n j hne => k1 r n j (by omega)) (fun r j hne => g1 r j (by omega))
    have v5 : m2 5 0 = m1 5 0 := g1 5 0 (by omega)
    have v3 : m2 3 0 = m 3 0 := by rw [g1 3 0 (by omega), e3]
    have v1 : m2 1 (m1 5 0) = m1 1 (m1 5 0) := g1 1 _ (by omega)
    rw [v5, v3, v1, if_pos (show m1 5 0 < m 3 0 by omega)]
    simp (disch := omega) only [zG_t]
    rw [c1]
    have fC : ∀ h3 : zHC, (∀ r n j, ¬ ((r = 324 ∨ r = 326 ∨ r = 327 ∨ r = 328) ∧ n = 0 ∧ j = 0) → h3 r n j = h2 r n j) → ∀ r n j, ¬ (324 ≤ r ∧ r ≤ 328) → h3 r n j = h r n j := fun h3 f r n j hne => by rw [f r n j (by omega), k1 r n j (by omega), x3 r n j (by omega)]
    have fM : ∀ m3 : zHM, (∀ r j, ¬ ((5 ≤ r ∧ r ≤ 9) ∨ r = 12) → m3 r j = m2 r j) → ∀ r j, ¬ ((5 ≤ r ∧ r ≤ 9) ∨ r = 12) → m3 r j = m r j := fun m3 f r j hne => by rw [f r j hne, g1 r j (by omega), x4 r j (by omega)]
    generalize hcc : m1 1 (m1 5 0) = c at c1 c2 c3 v1
    have run : ∀ v2 : Int, ((97 ≤ c ∧ c ≤ 122 ∧ v2 = 1) ∨ (48 ≤ c ∧ c ≤ 57 ∧ v2 = 0)) → ∃ h' m', F21_2 h2 = some h' ∧ F176_7 zFu v2 1 (mset (mset m2 12 0 0) 8 0 0) = some m' ∧ TR h' m' ∧ (∀ r n j, ¬ (324 ≤ r ∧ r ≤ 328) → h' r n j = h r n j) ∧ (∀ r j, ¬ ((5 ≤ r ∧ r ≤ 9) ∨ r = 12) → m' r j = m r j) := by
      intro v2 hv
      have q1 : ∀ r n j, ¬ ((r = 326 ∨ r = 327) ∧ n = 0 ∧ j = 0) → (hset (hset h2 327 0 0 0) 326 0 0 0) r n j = h2 r n j := fun r n j hne => by rw [hset_ne (by omega), hset_ne (by omega)]
      have q2 : ∀ r j, ¬ ((r = 8 ∨ r = 12) ∧ j = 0) → (mset (mset m2 12 0 0) 8 0 0) r j = m2 r j := fun r j hne => by rw [mset_ne (by omega), mset_ne (by omega)]
      have z0 : RN (hset (hset h2 327 0 0 0) 326 0 0 0) (mset (mset m2 12 0 0) 8 0 0) 0 0 0 v2 1 := by
        refine ⟨by decide, by decide, rfl, by omega, ?_, fun _ _ => ⟨[], rfl, fun d hd => (by cases hd), ?_, ?_⟩, fun _ _ => ⟨?_, ?_, fun _ => mset_eq, fun u => by omega, fun u => by omega, fun u => by omega⟩, fun u => by omega⟩
        · rw [if_pos (by omega)]
        · rw [hset_ne (by omega), hset_eq]; rfl
        · rw [mset_ne (by omega), mset_eq]; rfl
        · rw [hset_eq, mset_eq]
        · rw [mset_eq]; exact Int.le_refl 0
      obtain ⟨h3, m3, w1, w2, w3, w4, w5⟩ := T_run zFu zFu 0 0 0 v2 1 _ _ (TB_keep hb2 (fun r n j hne => q1 r n j (by omega)) (fun r j hne => q2 r j (by omega))) z0 (by rw [q2 5 0 (by omega), q2 6 0 (by omega), v5, g2]; omega) (by rw [q1 328 0 0 (by omega), k1 328 0 0 (by omega), q2 5 0 (by omega), v5]; exact y1) (by rw [q2 6 0 (by omega), g2]; exact x5) (by rw [q2 5 0 (by omega), q2 6 0 (by omega), v5, g2]; exact Int.le_refl _) (by rw [q2 5 0 (by omega), q2 3 0 (by omega), v5, v3]; exact x6) (by rw [q1 325 0 0 (by omega), q2 6 0 (by omega), k2, g2]) (fun _ => by rw [q2 5 0 (by omega), q2 3 0 (by omega), v5, v3, q2 1 _ (by omega), v1]; exact ⟨by omega, hv⟩) (by rw [q2 5 0 (by omega), q2 3 0 (by omega), v5, v3]; omega) (by rw [q2 5 0 (by omega), q2 3 0 (by omega), v5, v3]; omega)
      refine ⟨h3, m3, ?_, w2, w3, fC h3 (fun r n j hne => by rw [w4 r n j hne, q1 r n j (by omega)]), fM m3 (fun r j hne => by rw [w5 r j (by omega), q2 r j (by omega)])⟩
      unfold F21_2 F26
      rw [w1, Option.bind_some]
    rw [F24_s, F177_s, Option.bind_some, Option.bind_some]
    unfold F176_4
    rw [F177_s]
    simp only [Option.bind_some]
    by_cases lt : 97 ≤ c ∧ c ≤ 122
    · rw [if_pos lt, if_pos (show ¬ (1 : Int) = 0 by decide), if_pos (show ¬ (1 : Int) = 0 by decide)]
      exact run 1 (Or.inl ⟨lt.1, lt.2, rfl⟩)
    · rw [if_neg lt, if_neg (show ¬ ¬ (0 : Int) = 0 by decide), if_neg (show ¬ ¬ (0 : Int) = 0 by decide), F25_s, F178_s, Option.bind_some, Option.bind_some]
      by_cases dg : 48 ≤ c ∧ c ≤ 57
      · rw [if_pos dg, if_neg (show ¬ (1 : Int) = 0 by decide), if_pos (show ¬ (1 : Int) = 0 by decide)]
        exact run 0 (Or.inr ⟨dg.1, dg.2, rfl⟩)
      · rw [if_neg dg, if_pos rfl, if_neg (show ¬ ¬ (0 : Int) = 0 by decide), F28_s, Option.bind_some]
        have wp : wadd (m1 5 0) 1 = m1 5 0 + 1 := wadd_eq (by omega) (by omega)
        have mark : ∀ sc sm : Int, ((sc = 1 ∧ sm = 1) ∨ (sc = 5 ∧ sm = 4)) → ∃ h' m', F21_3 sc (hset h2 326 0 0 c) = some h' ∧ F176_6 c sm m2 = some m' ∧ TR h' m' ∧ (∀ r n j, ¬ (324 ≤ r ∧ r ≤ 328) → h' r n j = h r n j) ∧ (∀ r j, ¬ ((5 ≤ r ∧ r ≤ 9) ∨ r = 12) → m' r j = m r j) := by
          intro sc sm hs
          unfold F21_3 F176_6
          rw [hset_ne (show ¬ ((328 : Nat) = 326 ∧ (0 : Int) = 0 ∧ (0 : Int) = 0) by omega), k1 328 0 0 (by omega), y1, v5, wp]
          refine ⟨_, _, rfl, rfl, ⟨TB_keep hb2 (fun r n j hne => by rw [hset_ne (by omega), hset_ne (by omega), hset_ne (by omega)]) (fun r j hne => by rw [mset_ne (by omega), mset_ne (by omega), mset_ne (by omega)]), ?_, ?_, fun _ => ?_⟩, fC _ (fun r n j hne => by rw [hset_ne (by omega), hset_ne (by omega), hset_ne (by omega)]), fM _ (fun r j hne => by rw [mset_ne (by omega), mset_ne (by omega), mset_ne (by omega)])⟩
          · rcases hs with ⟨u1, u2⟩ | ⟨u1, u2⟩
            · refine Or.inr (Or.inr (Or.inl ⟨?_, ?_⟩))
              · rw [hset_ne (by omega), hset_eq]; exact u1
              · rw [mset_ne (by omega), mset_ne (by omega), mset_eq]; exact u2
            · refine Or.inr (Or.inr (Or.inr (Or.inr (Or.inr (Or.inr ⟨?_, ?_, ?_⟩)))))
              · rw [hset_ne (by omega), hset_eq]; exact u1
              · rw [mset_ne (by omega), mset_ne (by omega), mset_eq]; exact u2
              · rw [hset_ne (by omega), hset_ne (by omega), hset_eq, mset_ne (by omega), mset_eq]
          · rw [hset_ne (by omega), hset_ne (by omega), hset_ne (by omega), mset_ne (by omega), mset_ne (by omega), mset_ne (by omega), k2, g2]
          · rw [hset_eq, mset_eq, mset_ne (by omega), mset_ne (by omega), mset_ne (by omega), v3]
            exact ⟨rfl, by omega, by omega⟩
        unfold F176_5
        by_cases mk : c = 59 ∨ c = 60 ∨ c = 61 ∨ c = 62 ∨ c = 40 ∨ c = 41
        · rw [if_pos mk, if_neg (show ¬ (1 : Int) = 0 by decide)]
          have em : (if c = 59 then F176_6 c 4 m2 else if c = 60 then F176_6 c 4 m2 else if c = 61 then F176_6 c 4 m2 else if c = 62 then F176_6 c 4 m2 else if c = 40 then F176_6 c 4 m2 else if ¬ c = 41 then F176_6 c 1 m2 else F176_6 c 4 m2) = F176_6 c 4 m2 := by
            split
            · rfl
            split
            · rfl
            split
            · rfl
            split
            · rfl
            split
            · rfl
            rw [if_neg (by omega)]
          rw [em]
          exact mark 5 4 (Or.inr ⟨rfl, rfl⟩)
        · rw [if_neg mk, if_pos rfl, if_neg (show ¬ c = 59 by omega), if_neg (show ¬ c = 60 by omega), if_neg (show ¬ c = 61 by omega), if_neg (show ¬ c = 62 by omega), if_neg (show ¬ c = 40 by omega), if_pos (show ¬ c = 41 by omega)]
          exact mark 1 1 (Or.inl ⟨rfl, rfl⟩)
  · rw [if_neg (show ¬ h1 328 0 0 < stop by omega)]
    have es : (if stop < h1 328 0 0 then stop else h1 328 0 0) = stop := by split <;> omega
    rw [es]
    have fC : ∀ r n j, ¬ (324 ≤ r ∧ r ≤ 328) → (hset (hset h1 325 0 0 stop) 324 0 0 0) r n j = h r n j := fun r n j hne => by rw [hset_ne (by omega), hset_ne (by omega), x3 r n j (by omega)]
    by_cases q : m 3 0 ≤ m 4 0
    · have s4 := s4 q
      unfold F176_3
      rw [if_pos q, mset_ne (show ¬ ((5 : Nat) = 6 ∧ (0 : Int) = 0) by omega), mset_ne (show ¬ ((3 : Nat) = 6 ∧ (0 : Int) = 0) by omega), e3, if_neg (show ¬ m1 5 0 < m 3 0 by omega)]
      refine ⟨_, _, rfl, rfl, ⟨TB_keep hb1 (fun r n j hne => by rw [hset_ne (by omega), hset_ne (by omega)]) (fun r j hne => by rw [mset_ne (by omega), mset_ne (by omega)]), Or.inl ⟨hset_eq, ?_, mset_eq⟩, ?_, fun w => absurd hset_eq w⟩, fC, fun r j hne => by rw [mset_ne (by omega), mset_ne (by omega), x4 r j (by omega)]⟩
      · rw [mset_ne (by omega), mset_ne (by omega), mset_ne (by omega), mset_ne (by omega), e3, e4]
        exact q
      · rw [hset_ne (by omega), hset_eq, mset_ne (by omega), mset_eq]
        omega
    · have s5 := s5 (by omega)
      rw [if_neg q, if_neg (show ¬ m1 5 0 < m 4 0 by omega)]
      refine ⟨_, _, rfl, rfl, ⟨TB_keep hb1 (fun r n j hne => by rw [hset_ne (by omega), hset_ne (by omega)]) (fun r j hne => by rw [mset_ne (by omega), mset_ne (by omega), mset_ne (by omega)]), Or.inr (Or.inl ⟨hset_eq, ?_, mset_eq⟩), ?_, fun w => absurd hset_eq w⟩, fC, fun r j hne => by rw [mset_ne (by omega), mset_ne (by omega), mset_ne (by omega), x4 r j (by omega)]⟩
      · rw [mset_ne (by omega), mset_ne (by omega), mset_ne (by omega), mset_ne (by omega), mset_ne (by omega), mset_ne (by omega), e3, e4]
        omega
      · rw [hset_ne (by omega), hset_eq, mset_ne (by omega), mset_eq]
        exact s5
end
section
/-! What is read of a token. -/
def FT (h : zHC) (m : zHM) : Prop := h 322 0 0 = m 10 0 ∧ h 323 0 0 = m 11 0
theorem TR_kind {h : zHC} {m : zHM} (hT : TR h m) : (h 324 0 0 = 2 ↔ m 7 0 = 2 ∧ ∀ j, 0 ≤ j → j < 21 → ¬ m 12 0 = zPk 27 (kw j)) ∧ (h 324 0 0 = 4 ↔ m 7 0 = 3) ∧ (h 324 0 0 = 5 ↔ m 7 0 = 4) := by
  obtain ⟨-, hk, -, -⟩ := hT
  rcases hk with ⟨a, b, c⟩ | ⟨a, b, c⟩ | ⟨a, c⟩ | ⟨a, c, d, e⟩ | ⟨a, c, d, d', e⟩ | ⟨a, c, -⟩ | ⟨a, c, -⟩
  · exact ⟨⟨fun w => by omega, fun w => by omega⟩, by omega, by omega⟩
  · exact ⟨⟨fun w => by omega, fun w => by omega⟩, by omega, by omega⟩
  · exact ⟨⟨fun w => by omega, fun w => by omega⟩, by omega, by omega⟩
  · exact ⟨⟨fun _ => ⟨c, e⟩, fun _ => a⟩, by omega, by omega⟩
  · exact ⟨⟨fun w => by omega, fun w => absurd e (w.2 _ d d')⟩, by omega, by omega⟩
  · exact ⟨⟨fun w => by omega, fun w => by omega⟩, by omega, by omega⟩
  · exact ⟨⟨fun w => by omega, fun w => by omega⟩, by omega, by omega⟩
theorem E181 {h : zHC} {m : zHM} {k : Int} (hT : TR h m) (k0 : 0 ≤ k) (k1 : k < 21) : F181 k m = some (if h 324 0 0 = 3 ∧ h 326 0 0 = k then 1 else 0) := by
  obtain ⟨-, hk, -, -⟩ := hT
  unfold F181
  rw [F182_s k0 k1]
  rcases hk with ⟨a, b, c⟩ | ⟨a, b, c⟩ | ⟨a, c⟩ | ⟨a, c, d, e⟩ | ⟨a, c, d, d', e⟩ | ⟨a, c, -⟩ | ⟨a, c, -⟩
  · rw [if_pos (by omega), if_neg (by omega)]
  · rw [if_pos (by omega), if_neg (by omega)]
  · rw [if_pos (by omega), if_neg (by omega)]
  · rw [if_neg (by omega), Option.bind_some, if_pos (fun z => e k k0 k1 (qcmp_0.mp z)), if_neg (by omega)]
  · rw [if_neg (by omega), Option.bind_some]
    by_cases q : h 326 0 0 = k
    · rw [if_neg (fun z => z (qcmp_0.mpr (by rw [e, q]))), if_pos ⟨a, q⟩]
    · rw [if_pos (fun z => q (kw_inj d d' k0 k1 (zPk_inj (Or.inl rfl) (kw_ok d d').1 (kw_ok k0 k1).1 (e.symm.trans (qcmp_0.mp z))))), if_neg (fun z => q z.2)]
  · rw [if_pos (by omega), if_neg (by omega)]
  · rw [if_pos (by omega), if_neg (by omega)]
theorem E191 {h : zHC} {m : zHM} (hT : TR h m) : F191 m = some (if h 324 0 0 = 2 then 1 else 0) := by
  have hk := (TR_kind hT).1
  unfold F191
  by_cases q : m 7 0 = 2
  · rw [if_pos q]
    have key : ∀ (n : Nat) (j : Int), 0 ≤ j → j ≤ 21 → 21 - j < n → (∀ q, 0 ≤ q → q < j → ¬ m 12 0 = zPk 27 (kw q)) → F191_0 m n j = some (if h 324 0 0 = 2 then 1 else 0) := by
      intro n
      induction n with
      | zero => intro j j0 j1 g; omega
      | succ n ih =>
        intro j j0 j1 g hb
        rw [F191_0]
        by_cases e : j = 21
        · rw [if_pos (by omega), if_pos (hk.mpr ⟨q, fun i i0 i1 => hb i i0 (by omega)⟩)]
        · rw [if_neg (by omega), F182_s j0 (by omega), Option.bind_some]
          by_cases u : m 12 0 = zPk 27 (kw j)
          · rw [if_neg (fun z => z (qcmp_0.mpr u)), if_neg (fun z => (hk.mp z).2 j j0 (by omega) u)]
          · rw [if_pos (fun z => u (qcmp_0.mp z)), wadd_eq (by omega) (by omega)]
            refine ih (j + 1) (by omega) (by omega) (by omega) (fun i i0 i1 => ?_)
            by_cases v : i = j
            · subst v; exact u
            · exact hb i i0 (by omega)
    have big := zFu_big
    exact key zFu 0 (by decide) (by decide) (by omega) (fun i i0 i1 => by omega)
  · rw [if_neg q, if_neg (fun z => q (hk.mp z).1)]
theorem E51 {h : zHC} {c : Int} : F51 c h = some (if h 324 0 0 = 5 ∧ h 326 0 0 = c then 1 else 0) := by
  unfold F51
  by_cases q : h 324 0 0 = 5
  · rw [if_neg (fun z => z q)]
    by_cases q2 : h 326 0 0 = c
    · rw [if_neg (fun z => z q2), if_pos ⟨q, q2⟩]
    · rw [if_pos q2, if_neg (fun z => q2 z.2)]
  · rw [if_pos q, if_neg (fun z => q z.1)]
theorem E152 {h : zHC} {c : Int} : F152 c h = some (if h 324 0 0 = 3 ∧ h 326 0 0 = c then 1 else 0) := by
  unfold F152
  by_cases q : h 324 0 0 = 3
  · rw [if_neg (fun z => z q)]
    by_cases q2 : h 326 0 0 = c
    · rw [if_neg (fun z => z q2), if_pos ⟨q, q2⟩]
    · rw [if_pos q2, if_neg (fun z => q2 z.2)]
  · rw [if_pos q, if_neg (fun z => q z.1)]
theorem E202 {h : zHC} {m : zHM} {c : Int} (hT : TR h m) : F202 c m = some (if h 324 0 0 = 5 ∧ h 326 0 0 = c then 1 else 0) := by
  have hk := (TR_kind hT).2.2
  obtain ⟨-, hk2, -, -⟩ := hT
  unfold F202
  by_cases q : m 7 0 = 4
  · have e : h 326 0 0 = m 9 0 := by
      rcases hk2 with ⟨a, b, c⟩ | ⟨a, b, c⟩ | ⟨a, c⟩ | ⟨a, c, d, e⟩ | ⟨a, c, d, d', e⟩ | ⟨a, c, -⟩ | ⟨a, c, d⟩
      · omega
      · omega
      · omega
      · omega
      · omega
      · omega
      · exact d
    rw [if_neg (fun z => z q), ← e]
    by_cases q2 : h 326 0 0 = c
    · rw [if_neg (fun z => z q2), if_pos ⟨hk.mpr q, q2⟩]
    · rw [if_pos q2, if_neg (fun z => q2 z.2)]
  · rw [if_pos q, if_neg (fun z => q (hk.mp z.1))]
theorem E29 {h : zHC} {m : zHM} (hT : TR h m) : F29 h = some (if m 7 0 = 0 then 1 else 0) := by
  obtain ⟨hb, hk, -, -⟩ := hT
  unfold F29
  rw [hb.1, hb.2.2.2.1]
  rcases hk with ⟨a, b, c⟩ | ⟨a, b, c⟩ | ⟨a, c⟩ | ⟨a, c, -⟩ | ⟨a, c, -⟩ | ⟨a, c, -⟩ | ⟨a, c, -⟩
  · rw [if_neg (fun z => z a), if_neg (by omega), if_pos c]
  · rw [if_neg (fun z => z a), if_pos b, if_neg (by omega)]
  · rw [if_pos (by omega), if_neg (by omega)]
  · rw [if_pos (by omega), if_neg (by omega)]
  · rw [if_pos (by omega), if_neg (by omega)]
  · rw [if_pos (by omega), if_neg (by omega)]
  · rw [if_pos (by omega), if_neg (by omega)]
theorem L31 {h : zHC} {m : zHM} {k : Int} (hT : TR h m) (hk : k = 1 ∨ ¬ m 7 0 = 1) : ∃ h' m', F31 k h = some (0, h') ∧ F185 k m = some (0, m') ∧ FT h' m' ∧ tfC h h' ∧ tfM m m' := by
  obtain ⟨-, -, hs, -⟩ := hT
  unfold F31 F185 F185_0
  have e : (if ¬ m 7 0 = 1 then some ((0 : Int), mset (mset m 10 0 k) 11 0 (m 6 0)) else some (0, mset (mset m 10 0 1) 11 0 (m 6 0))) = some (0, mset (mset m 10 0 k) 11 0 (m 6 0)) := by
    rcases hk with q | q
    · rw [q]; split <;> rfl
    · rw [if_pos q]
  rw [e]
  exact ⟨_, _, rfl, rfl, ⟨by rw [hset_ne (by omega), hset_eq, mset_ne (by omega), mset_eq], by rw [hset_eq, mset_eq]; exact hs⟩, fun r n j hne => by rw [hset_ne (by omega), hset_ne (by omega)], fun r j hne => by rw [mset_ne (by omega), mset_ne (by omega)]⟩
theorem L33 {h : zHC} {m : zHM} {lo hi : Int} (hT : TR h m) : (h 324 0 0 = 4 ∧ lo ≤ m 8 0 ∧ m 8 0 ≤ hi ∧ h 326 0 0 = m 8 0 ∧ F33 lo hi h = some (1, h) ∧ F187 lo hi m = some (1, mset m 13 0 (m 8 0))) ∨ (∃ h' m', F33 lo hi h = some (0, h') ∧ F187 lo hi m = some (0, m') ∧ FT h' m' ∧ tfC h h' ∧ tfM m m') := by
  have hk := (TR_kind hT).2.1
  obtain ⟨-, hk2, -, -⟩ := id hT
  by_cases q : h 324 0 0 = 4
  · have q7 := hk.mp q
    have e : h 326 0 0 = m 8 0 := by
      rcases hk2 with ⟨a, b, c⟩ | ⟨a, b, c⟩ | ⟨a, c⟩ | ⟨a, c, d, e⟩ | ⟨a, c, d, d', e⟩ | ⟨a, c, d, -⟩ | ⟨a, c, d⟩
      · omega
      · omega
      · omega
      · omega
      · omega
      · exact d
      · omega
    by_cases u : lo ≤ m 8 0 ∧ m 8 0 ≤ hi
    · refine Or.inl ⟨q, u.1, u.2, e, ?_, ?_⟩
      · unfold F33 F33_1
        rw [if_pos q, e, if_neg (by omega), if_pos u.2]
      · unfold F187
        rw [if_pos q7, F188, if_neg (by omega), if_neg (by omega), Option.bind_some, if_pos (by decide)]
    · obtain ⟨h', m', a1, a2, a3, a4, a5⟩ := L31 (k := 2) hT (Or.inr (by omega))
      refine Or.inr ⟨h', m', ?_, ?_, a3, a4, a5⟩
      · unfold F33 F33_0
        rw [if_pos q, e, a1, Option.bind_some, if_pos rfl]
        by_cases v : m 8 0 < lo
        · rw [if_pos v]
        · rw [if_neg v, if_neg (by omega)]
      · unfold F187
        rw [if_pos q7, E188, if_neg u, Option.bind_some, if_neg (by decide), a2, Option.bind_some, zG_t (Or.inl rfl)]
  · obtain ⟨h', m', a1, a2, a3, a4, a5⟩ := L31 (k := 1) hT (Or.inl rfl)
    refine Or.inr ⟨h', m', ?_, ?_, a3, a4, a5⟩
    · unfold F33
      rw [if_neg q, a1, Option.bind_some, zG_t (Or.inl rfl)]
    · unfold F187
      rw [if_neg (fun z => q (hk.mpr z)), a2, Option.bind_some, zG_t (Or.inl rfl)]
theorem TR_told {h : zHC} {m : zHM} {x : Int} (hT : TR h m) : TR h (mset m 13 0 x) := by
  obtain ⟨hb, hk, hs, hp⟩ := hT
  have f : ∀ r j, ¬ r = 13 → (mset m 13 0 x) r j = m r j := fun r j hne => mset_ne (by omega)
  refine ⟨TB_keep hb tfC_refl (fun r j hne => f r j (by omega)), ?_, by rw [f 6 0 (by decide)]; exact hs, by rw [f 5 0 (by decide), f 3 0 (by decide)]; exact hp⟩
  unfold TK
  rw [f 3 0 (by decide), f 4 0 (by decide), f 7 0 (by decide), f 12 0 (by decide), f 8 0 (by decide), f 9 0 (by decide)]
  exact hk
/-- a token passed -/
theorem L21 {h : zHC} {m : zHM} (hT : TR h m) (hk : ¬ h 324 0 0 = 0) : ∃ h' m', F21 h = some h' ∧ F176 m = some m' ∧ TR h' m' ∧ (∀ r n j, ¬ (324 ≤ r ∧ r ≤ 328) → h' r n j = h r n j) ∧ (∀ r j, ¬ ((5 ≤ r ∧ r ≤ 9) ∨ r = 12) → m' r j = m r j) := by
  obtain ⟨hb, -, -, hp⟩ := hT
  obtain ⟨p1, p2, p3⟩ := hp hk
  exact T_step hb p1 p2 p3
/-- TR, where other regions have changed -/
theorem TR_keep {h h' : zHC} {m m' : zHM} (hT : TR h m) (f1 : ∀ r j, 320 ≤ r → r ≤ 330 → h' r 0 j = h r 0 j) (f2 : ∀ r j, (r = 1 ∨ (3 ≤ r ∧ r ≤ 9) ∨ r = 12) → m' r j = m r j) : TR h' m' := by
  obtain ⟨⟨b1, b2, b3, b4, b5, b6, b7, b8⟩, hk, hs, hp⟩ := hT
  refine ⟨?_, ?_, by rw [f1 325 0 (by decide) (by decide), f2 6 0 (by decide)]; exact hs, by rw [f1 324 0 (by decide) (by decide), f1 328 0 (by decide) (by decide), f2 5 0 (by decide), f2 3 0 (by decide)]; exact hp⟩
  · unfold TB
    rw [f1 321 0 (by decide) (by decide), f1 329 0 (by decide) (by decide), f2 3 0 (by decide), f2 4 0 (by decide)]
    refine ⟨b1, b2, b3, b4, b5, b6, fun i i0 i1 => ?_, RKw_keep (fun j => f1 330 j (by decide) (by decide)) b8⟩
    rw [f1 320 i (by decide) (by decide), f2 1 i (by decide)]
    exact b7 i i0 i1
  · unfold TK
    rw [f1 324 0 (by decide) (by decide), f1 326 0 (by decide) (by decide), f1 327 0 (by decide) (by decide), f2 3 0 (by decide), f2 4 0 (by decide), f2 7 0 (by decide), f2 12 0 (by decide), f2 8 0 (by decide), f2 9 0 (by decide)]
    exact hk
/-- the text opened -/
theorem L_open {hc : zHC} {hm : zHM} {most : Int} (h : RG hc hm) (m0 : 0 ≤ most) (m1 : most ≤ 940) : ∃ h' m', F20 most hc = some h' ∧ F174 most hm = some m' ∧ TR h' m' ∧ h' 322 0 0 = 0 ∧ m' 10 0 = 0 ∧ m' 2 0 = 0 ∧ (∀ r n j, ¬ (322 ≤ r ∧ r ≤ 329) → h' r n j = hc r n j) ∧ (∀ r j, ¬ (r = 0 ∨ r = 2 ∨ (3 ≤ r ∧ r ≤ 12)) → m' r j = hm r j) := by
  obtain ⟨t1, t2, t3, t4, t5⟩ := h.1
  have hK := h.2.2.2.2.2.2.2.2
  unfold F20 F174 F175
  rw [Option.bind_some]
  have e2 : (mset hm 0 0 0) 2 0 = hm 2 0 := m0_ne (by decide)
  rw [e2]
  generalize hh1 : hset (hset (hset (hset hc 329 0 0 most) 328 0 0 0) 322 0 0 0) 323 0 0 0 = h1
  generalize hm1 : mset (mset (mset (mset (mset (mset hm 0 0 0) 2 0 0) 3 0 (hm 2 0)) 4 0 most) 10 0 0) 5 0 0 = m1
  have fc : ∀ r n j, ¬ (r = 322 ∨ r = 323 ∨ r = 328 ∨ r = 329) → h1 r n j = hc r n j := fun r n j hne => by rw [← hh1, hset_ne (by omega), hset_ne (by omega), hset_ne (by omega), hset_ne (by omega)]
  have fm : ∀ r j, ¬ (r = 0 ∨ r = 2 ∨ r = 3 ∨ r = 4 ∨ r = 5 ∨ r = 10) → m1 r j = hm r j := fun r j hne => by rw [← hm1, mset_ne (by omega), mset_ne (by omega), mset_ne (by omega), mset_ne (by omega), mset_ne (by omega), mset_ne (by omega)]
  have c328 : h1 328 0 0 = 0 := by rw [← hh1, hset_ne (by omega), hset_ne (by omega), hset_eq]
  have c329 : h1 329 0 0 = most := by rw [← hh1, hset_ne (by omega), hset_ne (by omega), hset_ne (by omega), hset_eq]
  have c322 : h1 322 0 0 = 0 := by rw [← hh1, hset_ne (by omega), hset_eq]
  have d5 : m1 5 0 = 0 := by rw [← hm1, mset_eq]
  have d10 : m1 10 0 = 0 := by rw [← hm1, mset_ne (by omega), mset_eq]
  have d4 : m1 4 0 = most := by rw [← hm1, mset_ne (by omega), mset_ne (by omega), mset_eq]
  have d3 : m1 3 0 = hm 2 0 := by rw [← hm1, mset_ne (by omega), mset_ne (by omega), mset_ne (by omega), mset_eq]
  have d2 : m1 2 0 = 0 := by rw [← hm1, mset_ne (by omega), mset_ne (by omega), mset_ne (by omega), mset_ne (by omega), mset_eq]
  have hb : TB h1 m1 := by
    refine ⟨by rw [fc _ _ _ (by omega), d3]; exact t1, by omega, by omega, by rw [c329, d4], by omega, by omega, fun i i0 i1 => ?_, RKw_keep (fun j => fc 330 0 j (by omega)) hK⟩
    rw [fc _ _ _ (by omega), fm _ _ (by omega)]
    exact t4 i i0 i1
  obtain ⟨h2, m2, a1, a2, a3, a4, a5⟩ := T_step hb (by rw [c328, d5]) (by omega) (by omega)
  rw [a1, a2]
  exact ⟨h2, m2, rfl, rfl, a3, by rw [a4 _ _ _ (by omega)]; exact c322, by rw [a5 _ _ (by omega)]; exact d10, by rw [a5 _ _ (by omega)]; exact d2, fun r n j hne => by rw [a4 r n j (by omega), fc r n j (by omega)], fun r j hne => by rw [a5 r j (by omega), fm r j (by omega)]⟩
theorem L38b {h : zHC} {m : zHM} {v w w' : Int} (e3 : h 579 v 0 = m 14 3) (n0 : 0 ≤ m 14 3) (n1 : m 14 3 ≤ 6) (hQ : ∀ p, 0 ≤ p → p < m 14 3 → WR (h 587 v p) (m 19 (6 + p))) (hw : WR w w') : ∃ r, F38 v w h = some r ∧ F192b 6 (m 14 3) w' m = some r ∧ (r = -1 ∨ 0 ≤ r ∧ r < m 14 3) := by
  have key : ∀ (n n' : Nat) (p : Int), 0 ≤ p → p ≤ m 14 3 → m 14 3 - p < n → m 14 3 - p < n' → ∃ r, F38_0 h n v w p = some r ∧ F192b_0 m n' 6 (m 14 3) w' p = some r ∧ (r = -1 ∨ 0 ≤ r ∧ r < m 14 3) := by
    intro n
    induction n with
    | zero => intro n' p p0 p1 g1 g2; omega
    | succ n ih =>
      intro n' p p0 p1 g1 g2
      cases n' with
      | zero => omega
      | succ n' =>
        rw [F38_0, F192b_0, e3]
        by_cases e : m 14 3 ≤ p
        · rw [if_pos e, if_pos e]
          exact ⟨-1, rfl, rfl, Or.inl rfl⟩
        · have ep : wadd p 1 = p + 1 := wadd_eq (by omega) (by omega)
          rw [if_neg e, if_neg e, wadd_eq (x := 6) (by omega) (by omega), zG_t (by omega), zG_t (by omega), ep]
          have hi := WR_iff (hQ p p0 (by omega)) hw
          by_cases q : m 19 (6 + p) = w'
          · rw [if_neg (fun z => z (qcmp_0.mpr (hi.mpr q))), if_neg (fun z => z (qcmp_0.mpr q))]
            exact ⟨p, rfl, rfl, Or.inr ⟨p0, by omega⟩⟩
          · rw [if_pos (fun z => q (hi.mp (qcmp_0.mp z))), if_pos (fun z => q (qcmp_0.mp z))]
            exact ih n' (p + 1) (by omega) (by omega) (by omega) (by omega)
  have big := zFu_big
  exact key zFu zFu 0 (by decide) n0 (by omega) (by omega)
end
section
/-! claims() -/
theorem K_so {h : zHC} {m : zHM} {w p s : Int} (hR : CR h 0 (m 14)) (s0 : 0 ≤ s) (w0 : w = 7 ∨ w = 8 ∨ w = 9) : ∃ b, (b = 0 ∨ b = 1) ∧ F132 0 w p s h = some b ∧ ((F217 s m).bind fun r7 => if r7 = 0 then F269_1 m else if ¬ w = 7 then if ¬ w = 8 then (F213 s 7 m).bind fun r8 => (F214 r8 p).bind fun r9 => if r9 = 0 then F269_1 m else F269_2 m else (F213 s 1 m).bind fun r10 => if ¬ r10 = p then F269_1 m else F269_2 m else (F213 s 5 m).bind fun r11 => (F214 r11 p).bind fun r12 => if r12 = 0 then F269_1 m else F269_2 m) = if b = 0 then F269_1 m else F269_2 m := by
  obtain ⟨⟨r1, r2, r3, r4, r5, r6, r7⟩, hL, hW⟩ := hR
  have c34 := hW.2.1
  have e65 : h 65 0 0 = m 14 216 := by omega
  rw [E217 (m := m) (b := m 14 216) rfl, Option.bind_some]
  unfold F132
  rw [e65]
  by_cases q : s < m 14 216
  · obtain ⟨t1, t2, t3⟩ := r7 s s0 (by omega)
    rw [show (0 : Int) + s = s by omega] at t1
    have f1 := t1 1 (by decide) (by decide)
    have f5 := t1 5 (by decide) (by decide)
    have f7 := t1 7 (by decide) (by decide)
    rw [if_pos q, if_pos (show 0 ≤ s ∧ s < m 14 216 by omega), if_neg (show ¬ (1 : Int) = 0 by decide)]
    rcases w0 with u | u | u
    · rw [if_pos (show ¬ w = 8 by omega), if_neg (fun z => z u), if_neg (fun z => z u)]
      unfold F132_0
      rw [F63_s s0 (by omega) (by decide) (by decide), F213_s s0 (by omega) (by decide) (by decide), Option.bind_some, Option.bind_some, f5, F214_s]
      rcases F65_01 (x := m 14 (217 + 8 * s + 5)) (p := p) with v | v
      · rw [v, Option.bind_some, Option.bind_some, zG_t (Or.inl rfl)]
        exact ⟨0, Or.inl rfl, rfl, rfl⟩
      · rw [v, Option.bind_some, Option.bind_some, zG_t (Or.inr rfl)]
        exact ⟨1, Or.inr rfl, rfl, rfl⟩
    · rw [if_neg (fun z => z u), if_pos (show ¬ w = 7 by omega), if_neg (fun z => z u), F63_s s0 (by omega) (by decide) (by decide), F213_s s0 (by omega) (by decide) (by decide), Option.bind_some, Option.bind_some, f1]
      by_cases v : m 14 (217 + 8 * s + 1) = p
      · rw [if_neg (fun z => z v), if_neg (fun z => z v)]
        exact ⟨1, Or.inr rfl, rfl, rfl⟩
      · rw [if_pos v, if_pos v]
        exact ⟨0, Or.inl rfl, rfl, rfl⟩
    · rw [if_pos (show ¬ w = 8 by omega), if_pos (show ¬ w = 7 by omega), if_pos (show ¬ w = 7 by omega), if_pos (show ¬ w = 8 by omega)]
      unfold F132_0
      rw [F63_s s0 (by omega) (by decide) (by decide), F213_s s0 (by omega) (by decide) (by decide), Option.bind_some, Option.bind_some, f7, F214_s]
      rcases F65_01 (x := m 14 (217 + 8 * s + 7)) (p := p) with v | v
      · rw [v, Option.bind_some, Option.bind_some, zG_t (Or.inl rfl)]
        exact ⟨0, Or.inl rfl, rfl, rfl⟩
      · rw [v, Option.bind_some, Option.bind_some, zG_t (Or.inr rfl)]
        exact ⟨1, Or.inr rfl, rfl, rfl⟩
  · rw [if_neg q, if_neg (show ¬ (0 ≤ s ∧ s < m 14 216) by omega), if_pos rfl]
    exact ⟨0, Or.inl rfl, rfl, rfl⟩
def kfC (h h' : zHC) : Prop := ∀ r n j, ¬ ((322 ≤ r ∧ r ≤ 328) ∨ r = 0) → h' r n j = h r n j
def kfM (m m' : zHM) : Prop := ∀ r j, ¬ ((5 ≤ r ∧ r ≤ 13) ∨ r = 36 ∨ r = 37) → m' r j = m r j
def KI (h : zHC) (m : zHM) (line : Int) : Prop := TR h m ∧ h 322 0 0 = m 10 0 ∧ h 0 0 0 = m 37 0 ∧ m 36 0 = line ∧ 0 ≤ line ∧ line ≤ 30 ∧ RVC h m
theorem RVC_t {h h' : zHC} {m m' : zHM} (f1 : kfC h h') (f2 : kfM m m') (hV : RVC h m) : RVC h' m' := RVC_keep (fun r j g => f1 r 0 j (by omega)) (fun j _ _ => f2 14 j (by omega)) (fun j => f2 19 j (by omega)) hV
theorem K_line {h : zHC} {m : zHM} {line : Int} (hK : KI h m line) : (∃ h' m', F131 0 0 line h = some (1, h') ∧ F269 m = some (1, m') ∧ KI h' m' (line + 1) ∧ kfC h h' ∧ kfM m m') ∨ (∃ h' m', F131 0 0 line h = some (0, h') ∧ F269 m = some (0, m') ∧ FT h' m' ∧ kfC h h' ∧ kfM m m') := by
  obtain ⟨hT, hf, hw, hl, l0, l1, hV⟩ := hK
  have fail : ∀ k, (k = 1 ∨ ¬ m 7 0 = 1) → ∃ h' m', (F31 k h).bind (fun r1 => zG (r1.1 = 0 ∨ r1.1 = 1) (some (r1.1, r1.2))) = some (0, h') ∧ (F185 k m).bind (fun r1 => zG (r1.1 = 0 ∨ r1.1 = 1) (some (r1.1, r1.2))) = some (0, m') ∧ FT h' m' ∧ kfC h h' ∧ kfM m m' := by
    intro k hk
    obtain ⟨h', m', a1, a2, a3, a4, a5⟩ := L31 hT hk
    refine ⟨h', m', ?_, ?_, a3, fun r n j hne => a4 r n j (by omega), fun r j hne => a5 r j (by omega)⟩
    · rw [a1, Option.bind_some, zG_t (Or.inl rfl)]
    · rw [a2, Option.bind_some, zG_t (Or.inl rfl)]
  have main : ∀ w, (w = 7 ∨ w = 8 ∨ w = 9) → h 324 0 0 = 3 → h 326 0 0 = w → (∃ h' m', F131_1 0 0 line w h = some (1, h') ∧ F269_0 w m = some (1, m') ∧ KI h' m' (line + 1) ∧ kfC h h' ∧ kfM m m') ∨ (∃ h' m', F131_1 0 0 line w h = some (0, h') ∧ F269_0 w m = some (0, m') ∧ FT h' m' ∧ kfC h h' ∧ kfM m m') := by
    intro w w0 k3 kv
    have n7 : ¬ m 7 0 = 1 := by
      obtain ⟨-, hk, -, -⟩ := hT
      rcases hk with ⟨a, b, c⟩ | ⟨a, b, c⟩ | ⟨a, c⟩ | ⟨a, c, -⟩ | ⟨a, c, -⟩ | ⟨a, c, -⟩ | ⟨a, c, -⟩ <;> omega
    unfold F131_1 F269_0
    rw [if_pos (show ¬ w = -1 by omega), hl]
    by_cases q : line < 30
    · rw [if_pos q, if_pos (show ¬ line = 30 by omega)]
      obtain ⟨h1, m1, a1, a2, a3, a4, a5⟩ := L21 hT (by omega)
      rw [a1, a2, Option.bind_some, Option.bind_some, E191 a3, Option.bind_some]
      have hV1 : RVC h1 m1 := RVC_t (fun r n j hne => a4 r n j (by omega)) (fun r j hne => a5 r j (by omega)) hV
      have w6 := hV1.1.2.2.2.2.2.2.2.1
      unfold WN at w6
      unfold F43
      by_cases u : h1 324 0 0 = 2
      · rw [if_pos u, if_pos u, if_pos (show ¬ (1 : Int) = 0 by decide)]
        have hwr : WR (h1 327 0 0) (m1 12 0) := by
          obtain ⟨-, hk, -, -⟩ := a3
          rcases hk with ⟨a, b, c⟩ | ⟨a, b, c⟩ | ⟨a, c⟩ | ⟨a, c, d, -⟩ | ⟨a, c, -⟩ | ⟨a, c, -⟩ | ⟨a, c, -⟩
          · omega
          · omega
          · omega
          · exact d
          · omega
          · omega
          · omega
        obtain ⟨p, b1, b2, b3⟩ := L38b (h := h1) (m := m1) (v := 0) hV1.1.1.2.2.2.1 (by omega) (by omega) hV1.1.2.2.2.2.2.2.1.2 hwr
        rw [b1, b2, Option.bind_some, Option.bind_some]
        by_cases v : p = -1
        · obtain ⟨h', m', c1, c2, c3, c4, c5⟩ := L31 (k := 3) a3 (Or.inr (by have := (TR_kind a3).1.mp u; omega))
          refine Or.inr ⟨h', m', ?_, ?_, c3, fun r n j hne => by rw [c4 r n j (by omega), a4 r n j (by omega)], fun r j hne => by rw [c5 r j (by omega), a5 r j (by omega)]⟩
          · rw [if_neg (fun z => z v), c1, Option.bind_some, Option.bind_some, if_neg (fun z => z v)]
          · rw [if_neg (fun z => z v), c2, Option.bind_some, zG_t (Or.inl rfl)]
        · rw [if_pos v, Option.bind_some, if_pos v, if_pos v]
          obtain ⟨h2, m2, c1, c2, c3, c4, c5⟩ := L21 a3 (by omega)
          rw [c1, c2, Option.bind_some, Option.bind_some]
          unfold F186
          rcases L33 (lo := 0) (hi := 29) c3 with ⟨d1, d2, d3, d4, d5, d6⟩ | ⟨h', m', d1, d2, d3, d4, d5⟩
          · rw [d5, d6, Option.bind_some, Option.bind_some, if_pos (show ¬ (1 : Int) = 0 by decide), if_pos (show ¬ (1 : Int) = 0 by decide)]
            obtain ⟨h3, m3, e1, e2, e3, e4, e5⟩ := L21 (TR_told (x := m2 8 0) c3) (by omega)
            have m313 : m3 13 0 = m2 8 0 := by rw [e5 13 0 (by omega), mset_eq]
            have k1 : ∀ r n j, ¬ (324 ≤ r ∧ r ≤ 328) → h2 r n j = h r n j := fun r n j hne => by rw [c4 r n j hne, a4 r n j hne]
            have k2 : ∀ r j, ¬ ((5 ≤ r ∧ r ≤ 9) ∨ r = 12 ∨ r = 13) → m3 r j = m r j := fun r j hne => by rw [e5 r j (by omega), mset_ne (by omega), c5 r j (by omega), a5 r j (by omega)]
            have hV3 : RVC h2 m3 := RVC_t (fun r n j hne => k1 r n j (by omega)) (fun r j hne => k2 r j (by omega)) hV
            rw [e2, Option.bind_some, Option.bind_some, if_pos (show ¬ (1 : Int) = 0 by decide)]
            dsimp only
            rw [m313, d4]
            have fin : ∀ (h2' : zHC) (W : Int), (∀ r n j, ¬ (r = 0 ∧ n = 0 ∧ j = 0) → h2' r n j = h2 r n j) → h2' 0 0 0 = W → (∀ m5, (∀ j, m5 14 j = m 14 j) → m5 36 0 = line → m5 37 0 = m 37 0 → ∃ m6, ((F217 (m2 8 0) m5).bind fun r7 => if r7 = 0 then F269_1 m5 else if ¬ w = 7 then if ¬ w = 8 then (F213 (m2 8 0) 7 m5).bind fun r8 => (F214 r8 p).bind fun r9 => if r9 = 0 then F269_1 m5 else F269_2 m5 else (F213 (m2 8 0) 1 m5).bind fun r10 => if ¬ r10 = p then F269_1 m5 else F269_2 m5 else (F213 (m2 8 0) 5 m5).bind fun r11 => (F214 r11 p).bind fun r12 => if r12 = 0 then F269_1 m5 else F269_2 m5) = F269_4 m6 ∧ m6 37 0 = W ∧ ∀ r j, ¬ (r = 37 ∧ j = 0) → m6 r j = m5 r j) → (∃ h' m', F131_2 h2' = some (1, h') ∧ ((F201 m3).bind fun r6 => if ¬ r6.1 = 0 then ((F217 (m2 8 0) r6.2).bind fun r7 => if r7 = 0 then F269_1 r6.2 else if ¬ w = 7 then if ¬ w = 8 then (F213 (m2 8 0) 7 r6.2).bind fun r8 => (F214 r8 p).bind fun r9 => if r9 = 0 then F269_1 r6.2 else F269_2 r6.2 else (F213 (m2 8 0) 1 r6.2).bind fun r10 => if ¬ r10 = p then F269_1 r6.2 else F269_2 r6.2 else (F213 (m2 8 0) 5 r6.2).bind fun r11 => (F214 r11 p).bind fun r12 => if r12 = 0 then F269_1 r6.2 else F269_2 r6.2) else some (0, r6.2)) = some (1, m') ∧ KI h' m' (line + 1) ∧ kfC h h' ∧ kfM m m') ∨ (∃ h' m', F131_2 h2' = some (0, h') ∧ ((F201 m3).bind fun r6 => if ¬ r6.1 = 0 then ((F217 (m2 8 0) r6.2).bind fun r7 => if r7 = 0 then F269_1 r6.2 else if ¬ w = 7 then if ¬ w = 8 then (F213 (m2 8 0) 7 r6.2).bind fun r8 => (F214 r8 p).bind fun r9 => if r9 = 0 then F269_1 r6.2 else F269_2 r6.2 else (F213 (m2 8 0) 1 r6.2).bind fun r10 => if ¬ r10 = p then F269_1 r6.2 else F269_2 r6.2 else (F213 (m2 8 0) 5 r6.2).bind fun r11 => (F214 r11 p).bind fun r12 => if r12 = 0 then F269_1 r6.2 else F269_2 r6.2) else some (0, r6.2)) = some (0, m') ∧ FT h' m' ∧ kfC h h' ∧ kfM m m') := by
              intro h2' W f1 fW hJ
              have t2 : TR h2' (mset m2 13 0 (m2 8 0)) := TR_keep (TR_told c3) (fun r j g0 g1 => f1 r 0 j (by omega)) (fun _ _ _ => rfl)
              obtain ⟨h4, m4, y1, y2, y3, y4, y5⟩ := L21 t2 (by rw [f1 324 0 0 (by omega)]; omega)
              have em : m4 = m3 := Option.some.inj (y2.symm.trans e2)
              subst em
              unfold F131_2 F50 F201
              rw [y1, Option.bind_some, E51, Option.bind_some, E202 y3, Option.bind_some]
              have gc : ∀ r n j, ¬ ((324 ≤ r ∧ r ≤ 328) ∨ r = 0) → h4 r n j = h r n j := fun r n j hne => by rw [y4 r n j (by omega), f1 r n j (by omega), k1 r n j (by omega)]
              by_cases sg : h4 324 0 0 = 5 ∧ h4 326 0 0 = 59
              · rw [if_pos sg, if_pos (show ¬ (1 : Int) = 0 by decide), if_pos (show ¬ (1 : Int) = 0 by decide)]
                obtain ⟨h5, m5, z1, z2, z3, z4, z5⟩ := L21 y3 (by omega)
                have j14 : ∀ j, m5 14 j = m 14 j := fun j => by rw [z5 14 j (by omega), k2 14 j (by omega)]
                have j36 : m5 36 0 = line := by rw [z5 36 0 (by omega), k2 36 0 (by omega)]; exact hl
                have j37 : m5 37 0 = m 37 0 := by rw [z5 37 0 (by omega), k2 37 0 (by omega)]
                obtain ⟨m6, J1, J2, J3⟩ := hJ m5 j14 j36 j37
                rw [z1, z2, Option.bind_some, Option.bind_some, Option.bind_some, Option.bind_some, zG_t (Or.inr rfl), if_pos (show ¬ (1 : Int) = 0 by decide)]
                dsimp only
                rw [J1]
                unfold F269_4
                rw [J3 36 0 (by omega), j36, wadd_eq (by omega) (by omega)]
                have fc' : kfC h h5 := fun r n j hne => by rw [z4 r n j (by omega), gc r n j (by omega)]
                have fm' : kfM m (mset m6 36 0 (line + 1)) := fun r j hne => by rw [mset_ne (by omega), J3 r j (by omega), z5 r j (by omega), k2 r j (by omega)]
                refine Or.inl ⟨h5, _, rfl, rfl, ⟨TR_keep z3 (fun _ _ _ _ => rfl) (fun r j g => by rw [mset_ne (by omega), J3 r j (by omega)]), ?_, ?_, mset_eq, by omega, by omega, RVC_t fc' fm' hV⟩, fc', fm'⟩
                · rw [z4 322 0 0 (by omega), gc 322 0 0 (by omega), mset_ne (by omega), J3 10 0 (by omega), z5 10 0 (by omega), k2 10 0 (by omega)]
                  exact hf
                · rw [z4 0 0 0 (by omega), y4 0 0 0 (by omega), fW, mset_ne (by omega), J2]
              · rw [if_neg sg, if_neg (show ¬ ¬ (0 : Int) = 0 by decide), if_neg (show ¬ ¬ (0 : Int) = 0 by decide)]
                obtain ⟨h', m', x1, x2, x3, x4, x5⟩ := L31 (k := 1) y3 (Or.inl rfl)
                rw [x1, x2, Option.bind_some, Option.bind_some]
                dsimp only
                rw [zG_t (Or.inl rfl), zG_t (Or.inl rfl), Option.bind_some, Option.bind_some]
                dsimp only
                rw [zG_t (Or.inl rfl), if_neg (show ¬ ¬ (0 : Int) = 0 by decide)]
                exact Or.inr ⟨h', m', rfl, rfl, x3, fun r n j hne => by rw [x4 r n j (by omega), gc r n j (by omega)], fun r j hne => by rw [x5 r j (by omega), k2 r j (by omega)]⟩
            have hR2 : CR h2 0 (m3 14) := hV3.2
            have e37 : h2 0 0 0 = m 37 0 := by rw [k1 0 0 0 (by omega)]; exact hw
            by_cases wl : m 37 0 = -1
            · obtain ⟨b, b0, B1, -⟩ := K_so (w := w) (p := p) (s := m2 8 0) hR2 d2 w0
              rw [if_neg (show ¬ ¬ h2 0 0 0 = -1 from fun z => z (e37.trans wl)), B1, Option.bind_some]
              have same : ∀ m5 : zHM, (∀ j, m5 14 j = m 14 j) → ((F217 (m2 8 0) m5).bind fun r7 => if r7 = 0 then F269_1 m5 else if ¬ w = 7 then if ¬ w = 8 then (F213 (m2 8 0) 7 m5).bind fun r8 => (F214 r8 p).bind fun r9 => if r9 = 0 then F269_1 m5 else F269_2 m5 else (F213 (m2 8 0) 1 m5).bind fun r10 => if ¬ r10 = p then F269_1 m5 else F269_2 m5 else (F213 (m2 8 0) 5 m5).bind fun r11 => (F214 r11 p).bind fun r12 => if r12 = 0 then F269_1 m5 else F269_2 m5) = if b = 0 then F269_1 m5 else F269_2 m5 := by
                intro m5 j14
                have hR5 : CR h2 0 (m5 14) := by
                  have : m5 14 = m3 14 := by funext j; rw [j14, k2 14 j (by omega)]
                  rw [this]; exact hR2
                obtain ⟨b', -, B1', B2'⟩ := K_so (w := w) (p := p) (s := m2 8 0) hR5 d2 w0
                have : b' = b := Option.some.inj (B1'.symm.trans B1)
                subst this
                exact B2'
              rcases b0 with b0 | b0
              · subst b0
                rw [if_neg (show ¬ ¬ (0 : Int) = 0 by decide)]
                refine fin (hset h2 0 0 0 line) line (fun r n j hne => hset_ne (by omega)) hset_eq (fun m5 j14 j36 j37 => ?_)
                rw [same m5 j14, if_pos rfl]
                unfold F269_1 F269_3
                rw [if_neg (show ¬ ¬ (0 : Int) = 0 by decide), if_neg (show ¬ ¬ m5 37 0 = -1 from fun z => z (j37.trans wl)), j36]
                exact ⟨_, rfl, mset_eq, fun r j hne => mset_ne hne⟩
              · subst b0
                rw [if_pos (show ¬ (1 : Int) = 0 by decide)]
                refine fin h2 (-1) (fun _ _ _ _ => rfl) (e37.trans wl) (fun m5 j14 j36 j37 => ?_)
                rw [same m5 j14, if_neg (show ¬ (1 : Int) = 0 by decide)]
                unfold F269_2 F269_3
                rw [if_pos (show ¬ (1 : Int) = 0 by decide)]
                exact ⟨m5, rfl, j37.trans wl, fun _ _ _ => rfl⟩
            · rw [if_pos (show ¬ h2 0 0 0 = -1 from fun z => wl (e37.symm.trans z))]
              refine fin h2 (m 37 0) (fun _ _ _ _ => rfl) e37 (fun m5 j14 j36 j37 => ?_)
              have hR5 : CR h2 0 (m5 14) := by
                have : m5 14 = m3 14 := by funext j; rw [j14, k2 14 j (by omega)]
                rw [this]; exact hR2
              obtain ⟨b', b0', B1', B2'⟩ := K_so (w := w) (p := p) (s := m2 8 0) hR5 d2 w0
              rw [B2']
              unfold F269_1 F269_2 F269_3
              refine ⟨m5, ?_, j37, fun _ _ _ => rfl⟩
              rcases b0' with u' | u'
              · subst u'
                rw [if_pos rfl, if_neg (show ¬ ¬ (0 : Int) = 0 by decide), if_pos (show ¬ m5 37 0 = -1 from fun z => wl (j37.symm.trans z))]
              · subst u'
                rw [if_neg (show ¬ (1 : Int) = 0 by decide), if_pos (show ¬ (1 : Int) = 0 by decide)]
          · refine Or.inr ⟨h', m', ?_, ?_, d3, fun r n j hne => by rw [d4 r n j (by omega), c4 r n j (by omega), a4 r n j (by omega)], fun r j hne => by rw [d5 r j (by omega), c5 r j (by omega), a5 r j (by omega)]⟩
            · rw [d1, Option.bind_some, if_neg (show ¬ ¬ (0 : Int) = 0 by decide)]
            · rw [d2, Option.bind_some, if_neg (show ¬ ¬ (0 : Int) = 0 by decide), Option.bind_some, if_neg (show ¬ ¬ (0 : Int) = 0 by decide)]
      · obtain ⟨h', m', c1, c2, c3, c4, c5⟩ := L31 (k := 1) a3 (Or.inl rfl)
        refine Or.inr ⟨h', m', ?_, ?_, c3, fun r n j hne => by rw [c4 r n j (by omega), a4 r n j (by omega)], fun r j hne => by rw [c5 r j (by omega), a5 r j (by omega)]⟩
        · rw [if_neg u, c1, Option.bind_some, Option.bind_some, if_neg (show ¬ ¬ (-1 : Int) = -1 by decide)]
        · rw [if_neg u, if_neg (show ¬ ¬ (0 : Int) = 0 by decide), c2, Option.bind_some, zG_t (Or.inl rfl)]
    · rw [if_neg q, if_neg (show ¬ ¬ line = 30 by omega)]
      exact Or.inr (fail 4 (Or.inr n7))
  unfold F131 F269
  rw [E181 hT (by decide) (by decide), E181 hT (by decide) (by decide), E181 hT (by decide) (by decide)]
  simp only [Option.bind_some]
  by_cases k3 : h 324 0 0 = 3
  · rw [if_neg (fun z => z k3)]
    unfold F131_0
    by_cases q7 : h 326 0 0 = 7
    · rw [if_pos q7, if_pos (show h 324 0 0 = 3 ∧ h 326 0 0 = 7 from ⟨k3, q7⟩), if_neg (show ¬ (1 : Int) = 0 by decide), q7]
      exact main 7 (Or.inl rfl) k3 q7
    · rw [if_neg q7, if_neg (show ¬ (h 324 0 0 = 3 ∧ h 326 0 0 = 7) from fun z => q7 z.2), if_pos (rfl : (0 : Int) = 0)]
      by_cases q8 : h 326 0 0 = 8
      · rw [if_pos q8, if_pos (show h 324 0 0 = 3 ∧ h 326 0 0 = 8 from ⟨k3, q8⟩), if_neg (show ¬ (1 : Int) = 0 by decide), q8]
        exact main 8 (Or.inr (Or.inl rfl)) k3 q8
      · rw [if_neg q8, if_neg (show ¬ (h 324 0 0 = 3 ∧ h 326 0 0 = 8) from fun z => q8 z.2), if_pos (rfl : (0 : Int) = 0)]
        by_cases q9 : h 326 0 0 = 9
        · rw [if_pos q9, if_pos (show h 324 0 0 = 3 ∧ h 326 0 0 = 9 from ⟨k3, q9⟩), if_neg (show ¬ (1 : Int) = 0 by decide), q9]
          exact main 9 (Or.inr (Or.inr rfl)) k3 q9
        · rw [if_neg q9, if_neg (show ¬ (h 324 0 0 = 3 ∧ h 326 0 0 = 9) from fun z => q9 z.2), if_pos (rfl : (0 : Int) = 0)]
          unfold F269_0
          rw [if_neg (show ¬ ¬ (-1 : Int) = -1 by decide)]
          exact Or.inr (fail 1 (Or.inl rfl))
  · rw [if_pos k3]
    unfold F131_0
    rw [if_neg (show ¬ (-1 : Int) = 7 by decide), if_neg (show ¬ (-1 : Int) = 8 by decide), if_neg (show ¬ (-1 : Int) = 9 by decide), if_neg (show ¬ (h 324 0 0 = 3 ∧ h 326 0 0 = 7) from fun z => k3 z.1), if_pos (rfl : (0 : Int) = 0), if_neg (show ¬ (h 324 0 0 = 3 ∧ h 326 0 0 = 8) from fun z => k3 z.1), if_pos (rfl : (0 : Int) = 0), if_neg (show ¬ (h 324 0 0 = 3 ∧ h 326 0 0 = 9) from fun z => k3 z.1), if_pos (rfl : (0 : Int) = 0)]
    unfold F269_0
    rw [if_neg (show ¬ ¬ (-1 : Int) = -1 by decide)]
    exact Or.inr (fail 1 (Or.inl rfl))
end
section
/-! claims(), whole. -/
/-- after a text: the tape empty, the fault alike, all else as it was -/
theorem RG_text {hc hc' : zHC} {hm hm' : zHM} (h : RG hc hm) (f1 : ∀ r n j, ¬ ((64 ≤ r ∧ r ≤ 72 ∧ n = 1) ∨ (128 ≤ r ∧ r ≤ 130) ∨ r = 387 ∨ r = 716 ∨ (258 ≤ r ∧ r ≤ 261) ∨ (321 ≤ r ∧ r ≤ 329) ∨ (576 ≤ r ∧ r ≤ 595 ∧ n = 1) ∨ (384 ≤ r ∧ r ≤ 386 ∧ n = 1) ∨ r = 0 ∨ r = 641) → hc' r n j = hc r n j) (f2 : ∀ r j, ¬ (r = 0 ∨ (2 ≤ r ∧ r ≤ 13) ∨ r = 15 ∨ r = 18 ∨ r = 20 ∨ (24 ≤ r ∧ r ≤ 28) ∨ (30 ≤ r ∧ r ≤ 34) ∨ (36 ≤ r ∧ r ≤ 40) ∨ r = 43 ∨ (45 ≤ r ∧ r ≤ 49)) → hm' r j = hm r j) (e1 : hc' 321 0 0 = 0) (e2 : hm' 2 0 = 0) (e3 : hc' 322 0 0 = hm' 10 0) : RG hc' hm' := by
  obtain ⟨a1, a2, a3, a4, a5, a6, a7, a8, a9⟩ := h
  refine ⟨⟨by rw [e1, e2], by rw [e2]; exact Int.le_refl 0, by rw [e2]; decide, fun i i0 i1 => ?_, e3⟩, RVC_keep (fun r j g => f1 r 0 j (by omega)) (fun j _ _ => f2 14 j (by omega)) (fun j => f2 19 j (by omega)) a2, RUn_keep (fun r n j g => f1 r n j (by omega)) (fun j _ _ => f2 14 j (by omega)) (fun r j g => f2 r j (by omega)) (VR_n a2.1) a3, RIm_keep (fun r n j g => f1 r n j (by omega)) (fun r j g => f2 r j (by omega)) a4, RSn_cong (f1 384 0 0 (by omega)) (f1 385 0 0 (by omega)) (fun j _ _ => f1 386 0 j (by omega)) (fun j _ _ => f2 14 j (by omega)) a5, RPc_keep (fun r j g => f1 r 0 j (by omega)) (fun r j g => f2 r j (by omega)) a6, RSt_keep (fun r j g => f1 r 0 j (by omega)) (fun j => f2 41 j (by omega)) a7, RWr_keep (fun r j g => f1 r 0 j (by omega)) (fun r j g => f2 r j (by omega)) a8, RKw_keep (fun j => f1 330 0 j (by omega)) a9⟩
  rw [f1 320 0 i (by omega), f2 1 i (by omega)]
  exact a1.2.2.2.1 i i0 i1
theorem K_loop : ∀ (n n' : Nat) (line : Int) (h : zHC) (m : zHM), KI h m line → 40 - line < n → 40 - line < n' → (∃ h' m', F130_0 n 0 0 line h = some (1, h') ∧ F268_0 n' m = some (h' 0 0 0, m') ∧ h' 322 0 0 = m' 10 0 ∧ kfC h h' ∧ kfM m m') ∨ (∃ h' m', F130_0 n 0 0 line h = some (0, h') ∧ F268_0 n' m = some (wsub (-2) (h' 323 0 0), m') ∧ h' 322 0 0 = m' 10 0 ∧ kfC h h' ∧ kfM m m') := by
  intro n
  induction n with
  | zero => intro n' line h m hK g1 g2; have := hK.2.2.2.2.2.1; omega
  | succ n ih =>
    intro n' line h m hK g1 g2
    have l1 := hK.2.2.2.2.2.1
    have l0 := hK.2.2.2.2.1
    cases n' with
    | zero => omega
    | succ n' =>
      rw [F130_0, F268_0, if_neg (show ¬ 940 ≤ line by omega), E29 hK.1, Option.bind_some]
      by_cases q : m 7 0 = 0
      · rw [if_pos q, if_pos q, if_pos (show ¬ (1 : Int) = 0 by decide), ← hK.2.2.1]
        exact Or.inl ⟨h, m, rfl, rfl, hK.2.1, fun _ _ _ _ => rfl, fun _ _ _ => rfl⟩
      · rw [if_neg q, if_neg q, if_neg (show ¬ ¬ (0 : Int) = 0 by decide)]
        rcases K_line hK with ⟨h1, m1, a1, a2, a3, a4, a5⟩ | ⟨h1, m1, a1, a2, a3, a4, a5⟩
        · rw [a1, a2, Option.bind_some, Option.bind_some, if_pos (show ¬ (1 : Int) = 0 by decide), if_pos (show ¬ (1 : Int) = 0 by decide), wadd_eq (by omega) (by omega)]
          rcases ih n' (line + 1) h1 m1 a3 (by omega) (by omega) with ⟨h2, m2, b1, b2, b3, b4, b5⟩ | ⟨h2, m2, b1, b2, b3, b4, b5⟩
          · exact Or.inl ⟨h2, m2, b1, b2, b3, fun r n j hne => by rw [b4 r n j hne, a4 r n j hne], fun r j hne => by rw [b5 r j hne, a5 r j hne]⟩
          · exact Or.inr ⟨h2, m2, b1, b2, b3, fun r n j hne => by rw [b4 r n j hne, a4 r n j hne], fun r j hne => by rw [b5 r j hne, a5 r j hne]⟩
        · rw [a1, a2, Option.bind_some, Option.bind_some, if_neg (show ¬ ¬ (0 : Int) = 0 by decide), if_neg (show ¬ ¬ (0 : Int) = 0 by decide)]
          dsimp only
          rw [← a3.2]
          exact Or.inr ⟨h1, m1, rfl, rfl, a3.1, a4, a5⟩
theorem C_claims {hc : zHC} {hm : zHM} (h : RG hc hm) : ∃ r hc' hm', F129 hc = some (r, hc') ∧ F268 hm = some (r, hm') ∧ RG hc' hm' := by
  have big := zFu_big
  have h1 : RG (hset hc 0 0 0 (-1)) hm := RG_sc h (fun r n j hne => hset_ne (by omega)) scM_refl
  obtain ⟨h2, m2, a1, a2, a3, a4, a5, a6, a7, a8⟩ := L_open (most := 300) h1 (by decide) (by decide)
  have hV : RVC h2 (mset (mset m2 36 0 0) 37 0 (-1)) := RVC_keep (fun r j g => by rw [a7 r 0 j (by omega), hset_ne (by omega)]) (fun j _ _ => by rw [mset_ne (by omega), mset_ne (by omega), a8 14 j (by omega)]) (fun j => by rw [mset_ne (by omega), mset_ne (by omega), a8 19 j (by omega)]) h.2.1
  have hK : KI h2 (mset (mset m2 36 0 0) 37 0 (-1)) 0 := ⟨TR_keep a3 (fun _ _ _ _ => rfl) (fun r j g => by rw [mset_ne (by omega), mset_ne (by omega)]), by rw [a4, mset_ne (by omega), mset_ne (by omega), a5], by rw [a7 0 0 0 (by omega), hset_eq, mset_eq], by rw [mset_ne (by omega), mset_eq], by decide, by decide, hV⟩
  unfold F129 F130 F268
  rw [a1, a2, Option.bind_some, Option.bind_some]
  have fin : ∀ (h3 : zHC) (m3 : zHM), h3 322 0 0 = m3 10 0 → kfC h2 h3 → kfM (mset (mset m2 36 0 0) 37 0 (-1)) m3 → RG (hset h3 321 0 0 0) m3 := by
    intro h3 m3 e c d
    refine RG_text h (fun r n j hne => by rw [hset_ne (by omega), c r n j (by omega), a7 r n j (by omega), hset_ne (by omega)]) (fun r j hne => by rw [d r j (by omega), mset_ne (by omega), mset_ne (by omega), a8 r j (by omega)]) hset_eq (by rw [d 2 0 (by omega), mset_ne (by omega), mset_ne (by omega)]; exact a6) (by rw [hset_ne (by omega)]; exact e)
  rcases K_loop zFu zFu 0 h2 _ hK (by omega) (by omega) with ⟨h3, m3, b1, b2, b3, b4, b5⟩ | ⟨h3, m3, b1, b2, b3, b4, b5⟩
  · rw [b1, b2, Option.bind_some, if_neg (show ¬ (1 : Int) = 0 by decide)]
    exact ⟨_, _, _, rfl, rfl, fin h3 m3 b3 b4 b5⟩
  · rw [b1, b2, Option.bind_some, if_pos (rfl : (0 : Int) = 0)]
    exact ⟨_, _, _, rfl, rfl, fin h3 m3 b3 b4 b5⟩
end
