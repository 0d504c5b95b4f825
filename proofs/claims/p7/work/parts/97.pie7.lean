/-! pieces(), whole. -/
def zPW (h : zHC) (m : zHM) (many B : Int) : Prop := RVC h m ∧ zPc h m ∧ h 256 0 0 = many ∧ 0 ≤ many ∧ many ≤ B ∧ m 35 0 = (if many < 50 then many else 50) ∧ ∀ j, 0 ≤ j → j < m 35 0 → h 257 0 j = m 29 j
def pwC (h h' : zHC) : Prop := ∀ r n j, ¬ ((64 ≤ r ∧ r ≤ 72 ∧ n = 1) ∨ ((r = 256 ∨ r = 257) ∧ n = 0)) → h' r n j = h r n j
def pwM (m m' : zHM) : Prop := ∀ r j, ¬ ((29 ≤ r ∧ r ≤ 33) ∨ r = 35) → m' r j = m r j
theorem pwC_trans {h h' h'' : zHC} (a : pwC h h') (b : pwC h' h'') : pwC h h'' := fun r n j hne => by rw [b r n j hne, a r n j hne]
theorem pwM_trans {m m' m'' : zHM} (a : pwM m m') (b : pwM m' m'') : pwM m m'' := fun r j hne => by rw [b r j hne, a r j hne]
theorem RVC_pw {h h' : zHC} {m m' : zHM} (f1 : pwC h h') (f2 : pwM m m') (hV : RVC h m) : RVC h' m' := RVC_keep (fun r j g => f1 r 0 j (by omega)) (fun j _ _ => f2 14 j (by omega)) (fun j => f2 19 j (by omega)) hV
theorem zPc_pw {h h' : zHC} {m m' : zHM} (f1 : pwC h h') (f2 : pwM m m') (hP : zPc h m) : zPc h' m' := by
  obtain ⟨p1, p2, p3, p4⟩ := hP
  unfold zPc
  rw [f1 258 0 0 (by omega), f2 34 0 (by omega), f2 14 2 (by omega)]
  refine ⟨p1, p2, p3, fun k k0 k1 => ?_⟩
  rw [f1 259 0 k (by omega), f1 260 0 k (by omega), f1 261 0 k (by omega), f2 26 k (by omega), f2 27 k (by omega), f2 28 k (by omega)]
  exact p4 k k0 k1
theorem zPW_keep {h h' : zHC} {m m' : zHM} {many B B' : Int} (f1 : ∀ r n j, ¬ (64 ≤ r ∧ r ≤ 72 ∧ n = 1) → h' r n j = h r n j) (f2 : ∀ r j, ¬ (30 ≤ r ∧ r ≤ 33) → m' r j = m r j) (hB : B ≤ B') (h0 : zPW h m many B) : zPW h' m' many B' := by
  obtain ⟨a1, a2, a3, a4, a5, a6, a7⟩ := h0
  refine ⟨zQ_RVC f1 f2 a1, zPc_pw (fun r n j g => f1 r n j (by omega)) (fun r j g => f2 r j (by omega)) a2, by rw [f1 256 0 0 (by omega)]; exact a3, a4, by omega, by rw [f2 35 0 (by omega)]; exact a6, fun j j0 j1 => ?_⟩
  rw [f2 35 0 (by omega)] at j1
  rw [f1 257 0 j (by omega), f2 29 j (by omega)]
  exact a7 j j0 j1
/-- a way that was found -/
theorem zPW_add {h : zHC} {m : zHM} {many B w : Int} (h0 : zPW h m many B) (hB : B ≤ 1000000) : ∃ h', F127 w h = some h' ∧ zPW h' (if 50 ≤ many then m else mset (mset m 29 many w) 35 0 (many + 1)) (many + 1) (B + 1) ∧ (∀ r n j, ¬ ((r = 256 ∨ r = 257) ∧ n = 0) → h' r n j = h r n j) := by
  obtain ⟨a1, a2, a3, a4, a5, a6, a7⟩ := id h0
  unfold F127 F127_0
  rw [a3]
  by_cases u : 50 ≤ many
  · rw [if_pos u, if_pos u, wadd_eq (x := many) (by omega) (by omega)]
    rw [if_neg (by omega)] at a6
    have f : ∀ r n j, ¬ (r = 256 ∧ n = 0) → (hset h 256 0 0 (many + 1)) r n j = h r n j := fun r n j g => hset_ne (by omega)
    refine ⟨_, rfl, ⟨RVC_pw (fun r n j g => f r n j (by omega)) (fun _ _ _ => rfl) a1, zPc_pw (fun r n j g => f r n j (by omega)) (fun _ _ _ => rfl) a2, hset_eq, by omega, by omega, by rw [if_neg (by omega)]; exact a6, fun j j0 j1 => by rw [f 257 0 j (by omega)]; exact a7 j j0 j1⟩, fun r n j g => f r n j (by omega)⟩
  · rw [if_neg u, if_neg u, zG_t (by omega), hset_ne (by omega), a3, wadd_eq (x := many) (by omega) (by omega)]
    rw [if_pos (by omega)] at a6
    have f : ∀ r n j, ¬ ((r = 256 ∨ r = 257) ∧ n = 0) → (hset (hset h 257 0 many w) 256 0 0 (many + 1)) r n j = h r n j := fun r n j g => by rw [hset_ne (by omega), hset_ne (by omega)]
    have fm : ∀ r j, ¬ (r = 29 ∨ r = 35) → (mset (mset m 29 many w) 35 0 (many + 1)) r j = m r j := fun r j g => by rw [mset_ne (by omega), mset_ne (by omega)]
    refine ⟨_, rfl, ⟨RVC_pw (fun r n j g => f r n j (by omega)) (fun r j g => fm r j (by omega)) a1, zPc_pw (fun r n j g => f r n j (by omega)) (fun r j g => fm r j (by omega)) a2, hset_eq, by omega, by omega, ?_, fun j j0 j1 => ?_⟩, fun r n j g => f r n j g⟩
    · rw [mset_eq]
      by_cases v : many + 1 < 50
      · rw [if_pos v]
      · rw [if_neg v]; omega
    · rw [mset_eq] at j1
      by_cases v : j = many
      · subst v
        rw [hset_ne (by omega), hset_eq, mset_ne (by omega), mset_eq]
      · rw [hset_ne (by omega), hset_ne (by omega), mset_ne (by omega), mset_ne (by omega)]
        exact a7 j j0 (by omega)
theorem W_loud {T x r1 : Int} {k0 : Int → Int → Int → zHC → Option (Int × zHC)} {k1 : Int → Int → Int → Int → Int → zHC → Option (Int × zHC)} {j0 : Int → Int → zHM → Option (Int × zHM)} {j1 : Int → Int → Int → zHM → Option (Int × zHM)} (T0 : 0 ≤ T) (T1 : T ≤ 200) (x0 : 0 ≤ x) (x1 : x < 100) : ∀ (N N' : Nat) (l many : Int) (h : zHC) (m : zHM), zPW h m many (900 * T + 9 * x + (l - 1)) → 1 ≤ l → l ≤ 10 → 10 - l < N → 10 - l < N' → ∃ h' m' many', F120_3 k0 k1 N 0 1 T r1 x l h = k1 0 1 T r1 (x + 1) h' ∧ F262_2 j0 j1 N' many T x l m = j1 many' T (x + 1) m' ∧ zPW h' m' many' (900 * T + 9 * (x + 1)) ∧ pwC h h' ∧ pwM m m' := by
  intro N
  induction N with
  | zero => intro N' l many h m hW l0 l1 g; omega
  | succ N ih =>
    intro N' l many h m hW l0 l1 g g'
    cases N' with
    | zero => omega
    | succ N' =>
      obtain ⟨a1, a2, a3, a4, a5, a6, a7⟩ := id hW
      have w6 := a1.1.2.2.2.2.2.2.2.1
      unfold WN at w6
      rw [F120_3, F262_2]
      unfold F120_4 F262_3
      rw [wadd_eq (x := x) (by omega) (by omega)]
      have stop : ∃ h' m' many', k1 0 1 T r1 (x + 1) h = k1 0 1 T r1 (x + 1) h' ∧ j1 many T (x + 1) m = j1 many' T (x + 1) m' ∧ zPW h' m' many' (900 * T + 9 * (x + 1)) ∧ pwC h h' ∧ pwM m m' := ⟨h, m, many, rfl, rfl, zPW_keep (fun _ _ _ _ => rfl) (fun _ _ _ => rfl) (by omega) hW, fun _ _ _ _ => rfl, fun _ _ _ => rfl⟩
      by_cases u : 9 < l
      · rw [if_pos u, if_pos u]
        exact stop
      · rw [if_neg u, if_neg u, E69 a1.1.1, E224 (m := m) (a := m 14) rfl rfl, Option.bind_some, Option.bind_some]
        by_cases c : zCell (m 14) x
        · rw [if_pos c, if_neg (show ¬ (1 : Int) = 0 by decide), if_neg (show ¬ (1 : Int) = 0 by decide)]
          obtain ⟨h1, m1, R, H, b1, b2, b3, b4, b5⟩ := Q_way (T := T) (x := x) (l := l) a1 T0 T1 x0 x1 l0 (by omega)
          have n14 : m1 14 2 = m 14 2 := b5 14 2 (by omega)
          have W1 : zPW h1 m1 many (900 * T + 9 * x + (l - 1)) := zPW_keep b4 b5 (Int.le_refl _) hW
          have R6 := (zQ_R (by omega) b3).1
          obtain ⟨b, c1, c2, c3, -⟩ := P_all b3 (by omega) (by omega) W1.2.1
          have f1 : pwC h h1 := fun r n j g => b4 r n j (by omega)
          have f2 : pwM m m1 := fun r j g => b5 r j (by omega)
          rw [b1, c1, b2, Option.bind_some, Option.bind_some, c2, Option.bind_some]
          unfold F120_5 F262_4
          unfold F262_5
          rw [wadd_eq (x := l) (by omega) (by omega)]
          rcases c3 with z | z
          · subst z
            rw [if_pos (rfl : (0 : Int) = 0), if_neg (show ¬ ¬ (0 : Int) = 0 by decide)]
            obtain ⟨h2, m2, many2, d1, d2, d3, d4, d5⟩ := ih N' (l + 1) many h1 m1 (zPW_keep (fun _ _ _ _ => rfl) (fun _ _ _ => rfl) (by omega) W1) (by omega) (by omega) (by omega) (by omega)
            exact ⟨h2, m2, many2, d1, d2, d3, pwC_trans f1 d4, pwM_trans f2 d5⟩
          · subst z
            rw [if_neg (show ¬ (1 : Int) = 0 by decide), if_pos (show ¬ (1 : Int) = 0 by decide), wmul_eq (x := T) (by omega) (by omega), wmul_eq (x := x) (by omega) (by omega), wmul_eq (x := 1000) (by omega) (by omega), wmul_eq (x := 10) (by omega) (by omega), wadd_eq (x := T * 1000) (by omega) (by omega), wadd_eq (x := 1000 * T) (by omega) (by omega), wadd_eq (x := T * 1000 + x * 10) (by omega) (by omega), wadd_eq (x := 1000 * T + 10 * x) (by omega) (by omega), wadd_eq (x := many) (by omega) (by omega)]
            obtain ⟨h2, d1, d2, d3⟩ := zPW_add (w := T * 1000 + x * 10 + l) W1 (by omega)
            dsimp only
            rw [d1, Option.bind_some]
            have ew : 1000 * T + 10 * x + l = T * 1000 + x * 10 + l := by omega
            rw [ew]
            have fin : ∀ M, zPW h2 M (many + 1) (900 * T + 9 * x + (l - 1) + 1) → pwM m1 M → ∃ h' m' many', F120_3 k0 k1 N 0 1 T r1 x (l + 1) h2 = k1 0 1 T r1 (x + 1) h' ∧ F262_2 j0 j1 N' (many + 1) T x (l + 1) M = j1 many' T (x + 1) m' ∧ zPW h' m' many' (900 * T + 9 * (x + 1)) ∧ pwC h h' ∧ pwM m m' := by
              intro M hM fM
              obtain ⟨h3, m3, many3, e1, e2, e3, e4, e5⟩ := ih N' (l + 1) (many + 1) h2 M (zPW_keep (fun _ _ _ _ => rfl) (fun _ _ _ => rfl) (by omega) hM) (by omega) (by omega) (by omega) (by omega)
              exact ⟨h3, m3, many3, e1, e2, e3, pwC_trans (pwC_trans f1 (fun r n j g => d3 r n j (by omega))) e4, pwM_trans (pwM_trans f2 fM) e5⟩
            by_cases v : 50 ≤ many
            · rw [if_pos v] at d2 ⊢
              exact fin m1 d2 (fun _ _ _ => rfl)
            · rw [if_neg v] at d2 ⊢
              rw [zG_t (show 0 ≤ many ∧ many < 50 by omega)]
              exact fin _ d2 (fun r j g => by rw [mset_ne (by omega), mset_ne (by omega)])
        · rw [if_neg c, if_pos rfl, if_pos rfl]
          exact stop
theorem W_at {T r1 : Int} {k0 : Int → Int → Int → zHC → Option (Int × zHC)} {j0 : Int → Int → zHM → Option (Int × zHM)} (T0 : 0 ≤ T) (T1 : T ≤ 200) (hr : ¬ r1 = 0) : ∀ (N N' : Nat) (x many : Int) (h : zHC) (m : zHM), zPW h m many (900 * T + 9 * x) → 0 ≤ x → x ≤ 100 → 100 - x < N → 100 - x < N' → ∃ h' m' many', F120_1 k0 N 0 1 T r1 x h = k0 0 1 (T + 1) h' ∧ F262_1 j0 N' many T x m = j0 many' (T + 1) m' ∧ zPW h' m' many' (900 * (T + 1)) ∧ pwC h h' ∧ pwM m m' := by
  intro N
  induction N with
  | zero => intro N' x many h m hW x0 x1 g; omega
  | succ N ih =>
    intro N' x many h m hW x0 x1 g g'
    have big := zFu_big
    cases N' with
    | zero => omega
    | succ N' =>
      rw [F120_1, F262_1]
      unfold F120_2
      rw [wadd_eq (x := T) (by omega) (by omega)]
      by_cases u : 100 ≤ x
      · rw [if_pos u, if_pos u]
        exact ⟨h, m, many, rfl, rfl, zPW_keep (fun _ _ _ _ => rfl) (fun _ _ _ => rfl) (by omega) hW, fun _ _ _ _ => rfl, fun _ _ _ => rfl⟩
      · rw [if_neg u, if_neg u, if_neg hr]
        obtain ⟨h1, m1, many1, a1, a2, a3, a4, a5⟩ := W_loud (k0 := k0) (k1 := F120_1 k0 N) (j0 := j0) (j1 := F262_1 j0 N') (r1 := r1) T0 T1 x0 (by omega) zFu zFu 1 many h m (zPW_keep (fun _ _ _ _ => rfl) (fun _ _ _ => rfl) (by omega) hW) (by decide) (by decide) (by omega) (by omega)
        rw [a1, a2]
        obtain ⟨h2, m2, many2, b1, b2, b3, b4, b5⟩ := ih N' (x + 1) many1 h1 m1 a3 (by omega) (by omega) (by omega) (by omega)
        exact ⟨h2, m2, many2, b1, b2, b3, pwC_trans a4 b4, pwM_trans a5 b5⟩
/-- where not all can have begun, the model finds none -/
theorem M_none {h : zHC} {m : zHM} {T x l : Int} (hV : RVC h m) (hP : zPc h m) (T0 : 0 ≤ T) (T1 : T ≤ 200) (x0 : 0 ≤ x) (x1 : x < 100) (l0 : 1 ≤ l) (l1 : l ≤ 9) (hn : ¬ ∀ i, 0 ≤ i → i < m 34 0 → zCan m (m 26 i) (m 27 i - T)) : ∃ m', F264 x T l m = some m' ∧ F266 m' = some 0 ∧ (∀ r j, ¬ (30 ≤ r ∧ r ≤ 33) → m' r j = m r j) := by
  have w6 := hV.1.2.2.2.2.2.2.2.1
  unfold WN at w6
  obtain ⟨h1, m1, R, H, b1, b2, b3, b4, b5⟩ := Q_way (T := T) (x := x) (l := l) hV T0 T1 x0 x1 l0 l1
  have n14 : m1 14 = m 14 := by funext j; exact b5 14 j (by omega)
  have P1 : zPc h1 m1 := zPc_pw (fun r n j g => b4 r n j (by omega)) (fun r j g => b5 r j (by omega)) hP
  have R6 := (zQ_R (by rw [n14]; omega) b3).1
  rw [n14] at R6
  obtain ⟨b, c1, c2, c3, c4⟩ := P_all b3 (by rw [n14]; omega) (by omega) P1
  refine ⟨m1, b2, ?_, b5⟩
  rcases c3 with z | z
  · rw [c2, z]
  · exfalso
    apply hn
    intro i i0 i1
    have ci := c4 z i i0 (by rw [b5 34 0 (by omega)]; exact i1)
    obtain ⟨e1, e2, e3, e4, e5, e6, e7, e8, e9⟩ := P1.2.2.2 i i0 (by rw [b5 34 0 (by omega)]; exact i1)
    have g1 : ¬ m1 32 (m1 26 i) = 0 := fun y => by
      have := b3.2.2.2.1 _ e2 e3 y
      omega
    have g2 : ¬ m1 30 (m1 26 i) = -1 := fun y => by
      apply g1
      rw [b3.2.2.1 _ e2 e3, if_neg (fun t => t.1 y)]
    obtain ⟨S, s1, s2, s3, s4⟩ := b3.2.2.2.2.2.2 _ e2 e3 g2
    rw [ci.2] at s4
    have dl : zDl m1 S = zDl m S := by unfold zDl; rw [n14]
    rw [n14] at s1
    rw [dl, b5 27 i (by omega)] at s4
    rw [b5 26 i (by omega)] at s2
    exact ⟨S, s1, s2, s4⟩
theorem V_loud {T x many : Int} {h : zHC} {j0 : Int → Int → zHM → Option (Int × zHM)} {j1 : Int → Int → Int → zHM → Option (Int × zHM)} (T0 : 0 ≤ T) (T1 : T ≤ 200) (x0 : 0 ≤ x) (x1 : x < 100) : ∀ (N' : Nat) (l : Int) (m : zHM), RVC h m → zPc h m → (¬ ∀ i, 0 ≤ i → i < m 34 0 → zCan m (m 26 i) (m 27 i - T)) → 1 ≤ l → l ≤ 10 → 10 - l < N' → ∃ m', F262_2 j0 j1 N' many T x l m = j1 many T (x + 1) m' ∧ (∀ r j, ¬ (30 ≤ r ∧ r ≤ 33) → m' r j = m r j) := by
  intro N
  induction N with
  | zero => intro l m hV hP hn l0 l1 g; omega
  | succ N ih =>
    intro l m hV hP hn l0 l1 g
    rw [F262_2]
    unfold F262_3 F262_5
    rw [wadd_eq (x := x) (by omega) (by omega)]
    by_cases u : 9 < l
    · rw [if_pos u]
      exact ⟨m, rfl, fun _ _ _ => rfl⟩
    · rw [if_neg u, E224 (m := m) (a := m 14) rfl rfl, Option.bind_some, wadd_eq (x := l) (by omega) (by omega)]
      by_cases c : zCell (m 14) x
      · obtain ⟨m1, a1, a2, a3⟩ := M_none hV hP T0 T1 x0 x1 l0 (by omega) hn
        rw [if_pos c, if_neg (show ¬ (1 : Int) = 0 by decide), a1, Option.bind_some, a2, Option.bind_some, if_neg (show ¬ ¬ (0 : Int) = 0 by decide)]
        have n14 : m1 14 = m 14 := by funext j; exact a3 14 j (by omega)
        have hn1 : ¬ ∀ i, 0 ≤ i → i < m1 34 0 → zCan m1 (m1 26 i) (m1 27 i - T) := by
          intro z
          apply hn
          intro i i0 i1
          obtain ⟨S, s1, s2, s3⟩ := z i i0 (by rw [a3 34 0 (by omega)]; exact i1)
          rw [n14] at s1
          rw [a3 26 i (by omega)] at s2
          rw [a3 27 i (by omega)] at s3
          refine ⟨S, s1, s2, ?_⟩
          rw [s3]
          unfold zDl
          rw [n14]
        obtain ⟨m2, b1, b2⟩ := ih (l + 1) m1 (zQ_RVC (fun _ _ _ _ => rfl) a3 hV) (zPc_pw (fun _ _ _ _ => rfl) (fun r j g => a3 r j (by omega)) hP) hn1 (by omega) (by omega) (by omega)
        exact ⟨m2, b1, fun r j g => by rw [b2 r j g, a3 r j g]⟩
      · rw [if_neg c, if_pos rfl]
        exact ⟨m, rfl, fun _ _ _ => rfl⟩
theorem V_at {T many : Int} {h : zHC} {j0 : Int → Int → zHM → Option (Int × zHM)} (T0 : 0 ≤ T) (T1 : T ≤ 200) : ∀ (N' : Nat) (x : Int) (m : zHM), RVC h m → zPc h m → (¬ ∀ i, 0 ≤ i → i < m 34 0 → zCan m (m 26 i) (m 27 i - T)) → 0 ≤ x → x ≤ 100 → 100 - x < N' → ∃ m', F262_1 j0 N' many T x m = j0 many (T + 1) m' ∧ (∀ r j, ¬ (30 ≤ r ∧ r ≤ 33) → m' r j = m r j) := by
  intro N
  induction N with
  | zero => intro x m hV hP hn x0 x1 g; omega
  | succ N ih =>
    intro x m hV hP hn x0 x1 g
    have big := zFu_big
    rw [F262_1, wadd_eq (x := T) (by omega) (by omega)]
    by_cases u : 100 ≤ x
    · rw [if_pos u]
      exact ⟨m, rfl, fun _ _ _ => rfl⟩
    · rw [if_neg u]
      obtain ⟨m1, a1, a3⟩ := V_loud (j0 := j0) (j1 := F262_1 j0 N) (many := many) T0 T1 x0 (by omega) zFu 1 m hV hP hn (by decide) (by decide) (by omega)
      rw [a1]
      have n14 : m1 14 = m 14 := by funext j; exact a3 14 j (by omega)
      have hn1 : ¬ ∀ i, 0 ≤ i → i < m1 34 0 → zCan m1 (m1 26 i) (m1 27 i - T) := by
        intro z
        apply hn
        intro i i0 i1
        obtain ⟨S, s1, s2, s3⟩ := z i i0 (by rw [a3 34 0 (by omega)]; exact i1)
        rw [n14] at s1
        rw [a3 26 i (by omega)] at s2
        rw [a3 27 i (by omega)] at s3
        refine ⟨S, s1, s2, ?_⟩
        rw [s3]
        unfold zDl
        rw [n14]
      obtain ⟨m2, b1, b2⟩ := ih (x + 1) m1 (zQ_RVC (fun _ _ _ _ => rfl) a3 hV) (zPc_pw (fun _ _ _ _ => rfl) (fun r j g => a3 r j (by omega)) hP) hn1 (by omega) (by omega) (by omega)
      exact ⟨m2, b1, fun r j g => by rw [b2 r j g, a3 r j g]⟩
/-- behind the first piece's hour the class finds none -/
theorem W_rest {h : zHC} {m : zHM} (hV : RVC h m) (hP : zPc h m) : ∀ (N : Nat) (T : Int), 0 ≤ T → T ≤ 201 → m 27 0 ≤ T → 201 - T < N → F120_0 N 0 1 T h = some (h 256 0 0, h) := by
  intro N
  induction N with
  | zero => intro T T0 T1 g; omega
  | succ N ih =>
    intro T T0 T1 hT g
    have big := zFu_big
    rw [F120_0]
    by_cases u : 200 < T
    · rw [if_pos u]
    · obtain ⟨r, r1, r2, r3⟩ := F121_s hV hP T0 (by omega)
      have r0 : r = 0 := by
        rcases r2 with z | z
        · exact z
        · obtain ⟨S, s1, s2, s3⟩ := r3.mp z 0 (by decide) (by have := hP.2.1; omega)
          obtain ⟨e1, e2, e3, -⟩ := hP.2.2.2 0 (by decide) (by have := hP.2.1; omega)
          have := zDl_pos hV.1.2.2.2.2.2.2.2.2.1 e2 e3 s2
          omega
      subst r0
      obtain ⟨F, eF⟩ : ∃ F, zFu = F + 1 := ⟨zFu - 1, by omega⟩
      rw [if_neg u, r1, Option.bind_some, eF, F120_1, if_neg (show ¬ (100 : Int) ≤ 0 by decide), if_pos rfl]
      unfold F120_2
      rw [wadd_eq (x := T) (by omega) (by omega)]
      exact ih (T + 1) (by omega) (by omega) (by omega) (by omega)
theorem W_hour : ∀ (N N' : Nat) (T many : Int) (h : zHC) (m : zHM), zPW h m many (900 * T) → 0 ≤ T → T ≤ 201 → 201 - T < N → 201 - T < N' → ∃ h' m' many', F120_0 N 0 1 T h = some (many', h') ∧ F262_0 N' many T m = some (many', m') ∧ zPW h' m' many' 999999 ∧ pwC h h' ∧ pwM m m' := by
  intro N
  induction N with
  | zero => intro N' T many h m hW T0 T1 g; omega
  | succ N ih =>
    intro N' T many h m hW T0 T1 g g'
    have big := zFu_big
    cases N' with
    | zero => omega
    | succ N' =>
      obtain ⟨a1, a2, a3, a4, a5, a6, a7⟩ := id hW
      by_cases u : 200 < T
      · rw [F120_0, F262_0, if_pos u, if_pos u, a3]
        exact ⟨h, m, many, rfl, rfl, zPW_keep (fun _ _ _ _ => rfl) (fun _ _ _ => rfl) (by omega) hW, fun _ _ _ _ => rfl, fun _ _ _ => rfl⟩
      · by_cases v : T < m 27 0
        · obtain ⟨r, r1, r2, r3⟩ := F121_s a1 a2 T0 (by omega)
          rw [F120_0, F262_0, if_neg u, if_neg u, if_pos v, r1, Option.bind_some]
          rcases r2 with z | z
          · subst z
            have hn : ¬ ∀ i, 0 ≤ i → i < m 34 0 → zCan m (m 26 i) (m 27 i - T) := fun y => by
              have := r3.mpr y
              omega
            obtain ⟨m1, b1, b2⟩ := V_at (j0 := F262_0 N') (many := many) T0 (by omega) zFu 0 m a1 a2 hn (by decide) (by decide) (by omega)
            obtain ⟨F, eF⟩ : ∃ F, zFu = F + 1 := ⟨zFu - 1, by omega⟩
            have eC : F120_1 (F120_0 N) zFu 0 1 T 0 0 h = F120_0 N 0 1 (T + 1) h := by
              rw [eF, F120_1, if_neg (show ¬ (100 : Int) ≤ 0 by decide), if_pos rfl]
              unfold F120_2
              rw [wadd_eq (x := T) (by omega) (by omega)]
            rw [eC, b1]
            obtain ⟨h2, m2, many2, c1, c2, c3, c4, c5⟩ := ih N' (T + 1) many h m1 (zPW_keep (fun _ _ _ _ => rfl) b2 (by omega) hW) (by omega) (by omega) (by omega) (by omega)
            exact ⟨h2, m2, many2, c1, c2, c3, c4, pwM_trans (fun r j g => b2 r j (by omega)) c5⟩
          · subst z
            obtain ⟨h1, m1, many1, b1, b2, b3, b4, b5⟩ := W_at (k0 := F120_0 N) (j0 := F262_0 N') (T := T) (r1 := 1) T0 (by omega) (by decide) zFu zFu 0 many h m (zPW_keep (fun _ _ _ _ => rfl) (fun _ _ _ => rfl) (by omega) hW) (by decide) (by decide) (by omega) (by omega)
            rw [b1, b2]
            obtain ⟨h2, m2, many2, c1, c2, c3, c4, c5⟩ := ih N' (T + 1) many1 h1 m1 b3 (by omega) (by omega) (by omega) (by omega)
            exact ⟨h2, m2, many2, c1, c2, c3, pwC_trans b4 c4, pwM_trans b5 c5⟩
        · have e := W_rest a1 a2 (N + 1) T T0 T1 (by omega) g
          rw [e, F262_0, if_neg u, if_neg v, a3]
          exact ⟨h, m, many, rfl, rfl, zPW_keep (fun _ _ _ _ => rfl) (fun _ _ _ => rfl) (by omega) hW, fun _ _ _ _ => rfl, fun _ _ _ => rfl⟩
theorem C_pieces {hc : zHC} {hm : zHM} (h : RG hc hm) : ∃ r hc' hm', F118 hc = some (r, hc') ∧ F262 hm = some (r, hm') ∧ RG hc' hm' := by
  have big := zFu_big
  obtain ⟨t1, t2, t3, t4, t5, t6, t7, t8, t9⟩ := id h
  have fin : ∀ (h' : zHC) (m' : zHM), h' 321 0 0 = 0 → m' 2 0 = 0 → (∀ r n j, ¬ ((64 ≤ r ∧ r ≤ 72 ∧ n = 1) ∨ (256 ≤ r ∧ r ≤ 261) ∨ (r = 321 ∧ n = 0 ∧ j = 0)) → h' r n j = hc r n j) → (∀ r j, ¬ (r = 0 ∨ r = 2 ∨ (26 ≤ r ∧ r ≤ 35)) → m' r j = hm r j) → RPc h' m' → RG h' m' := by
    intro h' m' e1 e2 f1 f2 p
    refine ⟨⟨by rw [e1, e2], by rw [e2]; exact Int.le_refl 0, by rw [e2]; decide, fun i i0 i1 => ?_, ?_⟩, RVC_keep (fun r j g => f1 r 0 j (by omega)) (fun j _ _ => f2 14 j (by omega)) (fun j => f2 19 j (by omega)) t2, RUn_keep (fun r n j g => f1 r n j (by omega)) (fun j _ _ => f2 14 j (by omega)) (fun r j g => f2 r j (by omega)) (VR_n t2.1) t3, RIm_keep (fun r n j g => f1 r n j (by omega)) (fun r j g => f2 r j (by omega)) t4, RSn_cong (f1 384 0 0 (by omega)) (f1 385 0 0 (by omega)) (fun j _ _ => f1 386 0 j (by omega)) (fun j _ _ => f2 14 j (by omega)) t5, p, RSt_keep (fun r j g => f1 r 0 j (by omega)) (fun j => f2 41 j (by omega)) t7, RWr_keep (fun r j g => f1 r 0 j (by omega)) (fun r j g => f2 r j (by omega)) t8, RKw_keep (fun j => f1 330 0 j (by omega)) t9⟩
    · rw [f1 320 0 i (by omega), f2 1 i (by omega)]
      exact t1.2.2.2.1 i i0 i1
    · rw [f1 322 0 0 (by omega), f2 10 0 (by omega)]
      exact t1.2.2.2.2
  unfold F118 F262
  rcases L_take h with ⟨h1, m1, a1, a2, a3, a4, a5, a6⟩ | ⟨h1, m1, a1, a2, a4, a5, a6⟩
  · rw [a1, a2, Option.bind_some, Option.bind_some, if_neg (show ¬ (1 : Int) = 0 by decide), if_pos (show ¬ (1 : Int) = 0 by decide)]
    dsimp only
    unfold F120
    obtain ⟨H, eH⟩ : ∃ H, hset (hset h1 321 0 0 0) 256 0 0 0 = H := ⟨_, rfl⟩
    obtain ⟨M, eM⟩ : ∃ M, mset m1 35 0 0 = M := ⟨_, rfl⟩
    rw [eH, eM]
    have fH : ∀ r n j, ¬ ((r = 321 ∧ n = 0 ∧ j = 0) ∨ (r = 256 ∧ n = 0 ∧ j = 0)) → H r n j = h1 r n j := fun r n j g => by rw [← eH, hset_ne (by omega), hset_ne (by omega)]
    have fM : ∀ r j, ¬ (r = 35 ∧ j = 0) → M r j = m1 r j := fun r j g => by rw [← eM, mset_ne g]
    have V : RVC H M := RVC_keep (fun r j g => by rw [fH r 0 j (by omega), a5 r 0 j (by omega)]) (fun j _ _ => by rw [fM 14 j (by omega), a6 14 j (by omega)]) (fun j => by rw [fM 19 j (by omega), a6 19 j (by omega)]) t2
    have P : zPc H M := by
      obtain ⟨p1, p2, p3, p4⟩ := a3
      unfold zPc
      rw [fH 258 0 0 (by omega), fM 34 0 (by omega), fM 14 2 (by omega)]
      refine ⟨p1, p2, p3, fun k k0 k1 => ?_⟩
      rw [fH 259 0 k (by omega), fH 260 0 k (by omega), fH 261 0 k (by omega), fM 26 k (by omega), fM 27 k (by omega), fM 28 k (by omega)]
      exact p4 k k0 k1
    have M35 : M 35 0 = 0 := by rw [← eM, mset_eq]
    have W : zPW H M 0 (900 * 0) := ⟨V, P, by rw [← eH, hset_eq], by decide, by decide, by rw [M35]; rfl, fun j j0 j1 => by omega⟩
    obtain ⟨h2, m2, many, b1, b2, b3, b4, b5⟩ := W_hour zFu zFu 0 0 H M W (by decide) (by decide) (by omega) (by omega)
    rw [b1, b2, Option.bind_some]
    refine ⟨_, _, _, rfl, rfl, fin h2 m2 ?_ ?_ (fun r n j g => ?_) (fun r j g => ?_) ?_⟩
    · rw [b4 321 0 0 (by omega), ← eH, hset_ne (by omega), hset_eq]
    · rw [b5 2 0 (by omega), fM 2 0 (by omega)]
      exact a4
    · rw [b4 r n j (by omega), fH r n j (by omega), a5 r n j (by omega)]
    · rw [b5 r j (by omega), fM r j (by omega), a6 r j (by omega)]
    · obtain ⟨c1, c2, c3, c4, c5, c6, c7⟩ := b3
      exact ⟨by rw [c3]; exact c4, by rw [c3]; omega, by rw [c3]; exact c6, c7⟩
  · rw [a1, a2, Option.bind_some, Option.bind_some, if_pos (rfl : (0 : Int) = 0), if_neg (show ¬ ¬ (0 : Int) = 0 by decide)]
    refine ⟨_, _, _, rfl, rfl, fin _ m1 hset_eq a4 (fun r n j g => ?_) (fun r j g => a6 r j (by omega)) ?_⟩
    · dsimp only
      rw [hset_ne (by omega), a5 r n j (by omega)]
    · exact RPc_keep (fun r j g => by dsimp only; rw [hset_ne (by omega), a5 r 0 j (by omega)]) (fun r j g => a6 r j (by omega)) t6
