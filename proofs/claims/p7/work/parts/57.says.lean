/-! What is said. -/
def zLoud (f l : Int) : Int := if f ≤ 0 then l else if 0 ≤ l - 2 then l - 2 else 0
theorem zLoud_rng {f l : Int} (h0 : 0 ≤ l) (h1 : l ≤ 9) : 0 ≤ zLoud f l ∧ zLoud f l ≤ 9 := by
  unfold zLoud
  split
  · omega
  · split <;> omega
theorem F228_s {m : zHM} {x l : Int} (x0 : 0 ≤ x) (x1 : x < 100) (h0 : 0 ≤ l) (h1 : l ≤ 9) : F228 x l m = some (zLoud (m 14 (97 + x)) l) := by
  unfold F228 F228_0 zLoud
  rw [wadd_eq (by omega) (by omega), zG_t (by omega), wsub_eq (x := l) (y := 0) (by omega) (by omega), wsub_eq (x := l) (y := 2) (by omega) (by omega)]
  split
  · rw [if_pos (by omega), show l - 0 = l by omega]
  · split <;> rfl
theorem F47_s {h : zHC} {v x : Int} {a : Int → Int} (hN : h 581 v 0 = a 5) (n0 : 0 ≤ a 5) (n1 : a 5 ≤ 8) (hF : VF h v a) (x0 : 0 ≤ x) (x1 : x < 100) : F47 v x h = some (if 0 < a (97 + x) then 1 else 0) := by
  have key : ∀ (n : Nat) (j : Int), 0 ≤ j → j ≤ a 5 → a 5 - j < n → (∀ k, 0 ≤ k → k < j → ¬ h 593 v k = x) → F47_0 h n v x j = some (if 0 < a (97 + x) then 1 else 0) := by
    intro n
    induction n with
    | zero => intro j j0 j1 g; omega
    | succ n ih =>
      intro j j0 j1 g hb
      rw [F47_0, hN]
      by_cases e : j = a 5
      · rw [if_pos (by omega), if_neg]
        intro w
        obtain ⟨k, k0, k1, k2⟩ := (hF x x0 x1).mp w
        exact hb k k0 (by omega) k2
      · rw [if_neg (by omega), zG_t (by omega)]
        by_cases q : h 593 v j = x
        · rw [if_neg (by omega), if_pos ((hF x x0 x1).mpr ⟨j, j0, by omega, q⟩)]
        · rw [if_pos q, wadd_eq (by omega) (by omega)]
          refine ih (j + 1) (by omega) (by omega) (by omega) (fun k k0 k1 => ?_)
          by_cases u : k = j
          · subst u; exact q
          · exact hb k k0 (by omega)
  have big := zFu_big
  exact key zFu 0 (by decide) n0 (by omega) (fun k k0 k1 => by omega)
theorem F77_s {h : zHC} {v x l : Int} {a nm : Int → Int} (hV : VR h v a nm) (x0 : 0 ≤ x) (x1 : x < 100) (h0 : 0 ≤ l) (h1 : l ≤ 9) : F77 v x l h = some (zLoud (a (97 + x)) l) := by
  obtain ⟨hN, hC, hP, hM, hF, hS, hQ, hW⟩ := hV
  have w6 := hW.1
  unfold WN at w6
  unfold F77 zLoud
  rw [F47_s hN.2.2.2.2.2.1 (by omega) (by omega) hF x0 x1]
  show (if _ = _ then _ else _) = _
  rw [wsub_eq (by omega) (by omega)]
  by_cases q : 0 < a (97 + x)
  · rw [if_pos q, if_neg (by decide), if_neg (show ¬ a (97 + x) ≤ 0 by omega)]
    by_cases u : 0 < l - 2
    · rw [if_pos u, if_pos (by omega)]
    · rw [if_neg u]
      split
      · congr 1; omega
      · rfl
  · rw [if_neg q, if_pos rfl, if_pos (by omega)]
/-- what comes straight from a cell -/
def zDir (a : Int → Int) (c at_ l : Int) : Int := if l < 1 then 0 else if l < zD (a (7 + 3 * c)) at_ then 0 else l - zD (a (7 + 3 * c)) at_ / 2
theorem F82_s {h : zHC} {v c x l : Int} {a : Int → Int} (hC : VC h v a) (hW : WC a) (h6 : a 2 ≤ 6) (c0 : 0 ≤ c) (c1 : c < a 2) (x0 : 0 ≤ x) (x1 : x < 100) (l0 : 0 ≤ l) (l1 : l ≤ 9) : F82 v c x l h = some (zDir a c x l) := by
  obtain ⟨w1, w2, -⟩ := hW c c0 c1
  have zr := zD_rng w1 w2 x0 x1
  unfold F82 zDir
  rw [zG_t (by omega), (hC c c0 c1).1, F83_s w1 w2 x0 x1]
  show (if _ then _ else _) = _
  rw [wdiv_eq (by omega) (by omega) (by decide) (by decide), wsub_eq (by omega) (by omega)]
  split
  · rfl
  · split <;> rfl
theorem zDir_rng {a : Int → Int} {c x l : Int} (hW : WC a) (c0 : 0 ≤ c) (c1 : c < a 2) (x0 : 0 ≤ x) (x1 : x < 100) (l0 : 0 ≤ l) (l1 : l ≤ 9) : 0 ≤ zDir a c x l ∧ zDir a c x l ≤ 9 := by
  obtain ⟨w1, w2, -⟩ := hW c c0 c1
  have zr := zD_rng w1 w2 x0 x1
  unfold zDir
  split
  · omega
  · split <;> omega
/-- the offers of a new saying -/
theorem U_offers {h : zHC} {m : zHM} {i v k s H C x l : Int} (k0 : 0 ≤ k) (k1 : k < 30) (s0 : 0 ≤ s) (s1 : s < 30) (x0 : 0 ≤ x) (x1 : x < 100) (l0 : 0 ≤ l) (l1 : l ≤ 9) (H0 : 0 ≤ H) (H1 : H ≤ 1000) (hN : h 578 v 0 = m 14 2) (hN1 : 0 ≤ m 14 2) (hN0 : m 14 2 ≤ 6) (hVC : VC h v (m 14)) (hWC : WC (m 14)) (hH : h 64 i 0 = H) (hHm : m 14 209 = H) : ∀ (n n' : Nat) (o : Int) (h1 : zHC) (m1 : zHM), 0 ≤ o → o ≤ m 14 2 → m 14 2 - o < n → m 14 2 - o < n' → CD h1 i k (m1 14) s → SD (m1 14) s H C → (∀ r n j, ¬ (n = i ∧ (r = 68 ∨ r = 69) ∧ k * 6 ≤ j ∧ j < k * 6 + 6) → h1 r n j = h r n j) → (∀ r j, ¬ (r = 14 ∧ 457 + 18 * s ≤ j ∧ j < 475 + 18 * s ∧ ¬ (j = 457 + 18 * s + 3 * 0 + 2 ∨ j = 457 + 18 * s + 3 * 1 + 2 ∨ j = 457 + 18 * s + 3 * 2 + 2 ∨ j = 457 + 18 * s + 3 * 3 + 2 ∨ j = 457 + 18 * s + 3 * 4 + 2 ∨ j = 457 + 18 * s + 3 * 5 + 2)) → m1 r j = m r j) → ∃ h2 m2, F79_0 n i v x l k o h1 = (F86 i k h2).bind (fun r1 => some (k, r1)) ∧ F227_1 n' s x l o m1 = some (s, m2) ∧ CD h2 i k (m2 14) s ∧ SD (m2 14) s H C ∧ (∀ r n j, ¬ (n = i ∧ (r = 68 ∨ r = 69) ∧ k * 6 ≤ j ∧ j < k * 6 + 6) → h2 r n j = h r n j) ∧ (∀ r j, ¬ (r = 14 ∧ 457 + 18 * s ≤ j ∧ j < 475 + 18 * s ∧ ¬ (j = 457 + 18 * s + 3 * 0 + 2 ∨ j = 457 + 18 * s + 3 * 1 + 2 ∨ j = 457 + 18 * s + 3 * 2 + 2 ∨ j = 457 + 18 * s + 3 * 3 + 2 ∨ j = 457 + 18 * s + 3 * 4 + 2 ∨ j = 457 + 18 * s + 3 * 5 + 2)) → m2 r j = m r j) := by
  intro n
  induction n with
  | zero => intro n' o h1 m1 o0 o1 g1 g2; omega
  | succ n ih =>
    intro n' o h1 m1 o0 o1 g1 g2 hD1 hS1 F1 F2
    cases n' with
    | zero => omega
    | succ n' =>
      have m2e : m1 14 2 = m 14 2 := F2 14 2 (by omega)
      have h2e : h1 578 v 0 = m 14 2 := by rw [F1 578 v 0 (by omega), hN]
      rw [F79_0, F227_1, h2e, m2e]
      by_cases e : o = m 14 2
      · rw [if_pos (by omega), if_pos (by omega)]
        exact ⟨h1, m1, rfl, rfl, hD1, hS1, F1, F2⟩
      · have e1 : wadd o 1 = o + 1 := wadd_eq (by omega) (by omega)
        obtain ⟨b1, b2, b3, b4, b5, b6⟩ := hWC o o0 (by omega)
        have cd := (hVC o o0 (by omega)).2.1
        have hVC1 : VC h1 v (m 14) := by
          intro c c0 c1
          rw [F1 _ _ _ (by omega), F1 _ _ _ (by omega), F1 _ _ _ (by omega)]
          exact hVC c c0 c1
        have mo : m1 14 (7 + 3 * o) = m 14 (7 + 3 * o) := F2 14 _ (by omega)
        have md : m1 14 (7 + 3 * o + 1) = m 14 (7 + 3 * o + 1) := F2 14 _ (by omega)
        have mh : m1 14 209 = H := by rw [F2 14 209 (by omega), hHm]
        have zr := zD_rng b1 b2 x0 x1
        have dr := zDir_rng hWC o0 (by omega) x0 x1 l0 l1
        have ho : ¬ m 14 2 ≤ o := by omega
        rw [if_neg ho, if_neg ho, F82_s hVC1 hWC hN0 o0 (by omega) x0 x1 l0 l1]
        show ∃ h2 m2, Option.bind (F85 i v k o (zDir (m 14) o x l) h1) _ = _ ∧ _
        by_cases q1 : l ≤ 0
        · have ez : zDir (m 14) o x l = 0 := by
            unfold zDir
            rw [if_pos (by omega)]
          rw [if_pos q1, ez, F85_0s k0 k1 o0 (by omega) (by decide)]
          show ∃ h2 m2, F79_0 n i v x l k (wadd o 1) h1 = _ ∧ _
          unfold F227_2
          rw [e1]
          exact ih n' (o + 1) h1 m1 (by omega) (by omega) (by omega) (by omega) hD1 hS1 F1 F2
        · rw [if_neg q1, F229_s o0 (by omega), mo]
          show ∃ h2 m2, _ ∧ Option.bind (F230 _ _) _ = some (s, m2) ∧ _
          rw [F230_s x0 x1 b1 b2]
          show ∃ h2 m2, _ ∧ (if l < zD _ _ then _ else _) = some (s, m2) ∧ _
          rw [zD_comm (a := x)]
          by_cases q2 : l < zD (m 14 (7 + 3 * o)) x
          · have ez : zDir (m 14) o x l = 0 := by
              unfold zDir
              rw [if_neg (by omega), if_pos q2]
            rw [if_pos q2, ez, F85_0s k0 k1 o0 (by omega) (by decide)]
            show ∃ h2 m2, F79_0 n i v x l k (wadd o 1) h1 = _ ∧ _
            unfold F227_2
            rw [e1]
            exact ih n' (o + 1) h1 m1 (by omega) (by omega) (by omega) (by omega) hD1 hS1 F1 F2
          · have ez : zDir (m 14) o x l = l - zD (m 14 (7 + 3 * o)) x / 2 := by
              unfold zDir
              rw [if_neg (by omega), if_neg q2]
            rw [if_neg q2, ez, F232_s o0 (by omega), md, mh]
            simp only [Option.bind_some]
            rw [F230_s x0 x1 b1 b2]
            simp only [Option.bind_some]
            rw [zD_comm (a := x), wadd_eq (x := H) (by omega) (by omega), wdiv_eq (by omega) (by omega) (by decide) (by decide), wsub_eq (by omega) (by omega)]
            obtain ⟨h3, m3, r1, r2, r3, r4, r5, r6⟩ := S_offer (v := v) (d := m 14 (7 + 3 * o + 1)) (f := l - zD (m 14 (7 + 3 * o)) x / 2) k0 k1 s0 s1 o0 (by omega : o < 6) (by rw [F1 585 v o (by omega)]; exact cd) b3 b4 (by rw [F1 64 i 0 (by omega)]; exact hH) H0 H1 (by omega) (by omega) hD1 hS1 (by rw [m2e]; omega)
            rw [r1, r2]
            show ∃ h2 m2, F79_0 n i v x l k (wadd o 1) h3 = _ ∧ F227_2 _ _ _ _ _ _ = _ ∧ _
            unfold F227_2
            rw [e1]
            exact ih n' (o + 1) h3 m3 (by omega) (by omega) (by omega) (by omega) r3 r4 (fun r n j hne => by rw [r5 r n j (by omega), F1 r n j hne]) (fun r j hne => by rw [r6 r j (by omega), F2 r j hne])
theorem F80_s {h : zHC} {i k : Int} (k0 : 0 ≤ k) (k1 : k < 30) : ∃ h', F80 i (k * 6) ((k + 1) * 6) (-1) h = some h' ∧ (∀ j, k * 6 ≤ j → j < k * 6 + 6 → h' 68 i j = -1) ∧ ∀ r n j, ¬ (n = i ∧ r = 68 ∧ k * 6 ≤ j ∧ j < k * 6 + 6) → h' r n j = h r n j := by
  have key : ∀ (n : Nat) (j : Int) (h1 : zHC), k * 6 ≤ j → j ≤ k * 6 + 6 → k * 6 + 6 - j < n → (∀ q, k * 6 ≤ q → q < j → h1 68 i q = -1) → (∀ r n q, ¬ (n = i ∧ r = 68 ∧ k * 6 ≤ q ∧ q < k * 6 + 6) → h1 r n q = h r n q) → ∃ h', F80_0 n i ((k + 1) * 6) (-1) j h1 = some h' ∧ (∀ j, k * 6 ≤ j → j < k * 6 + 6 → h' 68 i j = -1) ∧ ∀ r n j, ¬ (n = i ∧ r = 68 ∧ k * 6 ≤ j ∧ j < k * 6 + 6) → h' r n j = h r n j := by
    intro n
    induction n with
    | zero => intro j h1 j0 j1 g; omega
    | succ n ih =>
      intro j h1 j0 j1 g q1 q2
      rw [F80_0]
      by_cases e : j = k * 6 + 6
      · rw [if_pos (by omega)]
        exact ⟨h1, rfl, fun q g0 g1 => q1 q g0 (by omega), q2⟩
      · rw [if_neg (by omega), zG_t (by omega), wadd_eq (by omega) (by omega)]
        refine ih (j + 1) _ (by omega) (by omega) (by omega) (fun q g0 g1 => ?_) (fun r n q hne => ?_)
        · by_cases u : q = j
          · subst u; exact hset_eq
          · rw [hset_ne (by omega)]
            exact q1 q g0 (by omega)
        · rw [hset_ne (by omega)]
          exact q2 r n q hne
  have big := zFu_big
  obtain ⟨h', g1, g2, g3⟩ := key zFu (k * 6) h (Int.le_refl _) (by omega) (by omega) (fun q g0 g1 => by omega) (fun _ _ _ _ => rfl)
  refine ⟨h', ?_, g2, g3⟩
  unfold F80 F81
  rw [if_pos (by omega), if_pos (by omega), if_pos (by omega)]
  exact g1
theorem wshl_rng {p : Int} (h0 : 0 ≤ p) (h1 : p < 6) : 1 ≤ wshl 1 p ∧ wshl 1 p < 64 := by
  have k : (List.range 6).all (fun q => decide (1 ≤ wshl 1 (q : Int) ∧ wshl 1 (q : Int) < 64)) = true := by decide +kernel
  have e := of_decide_eq_true (z_all k (x := p) h0 (by omega))
  have e1 : ((p.toNat : Nat) : Int) = p := by omega
  rw [e1] at e
  exact e
/-- the class's rows of a new saying -/
theorem F79_pre {h : zHC} {i v p x w l k : Int} (hk : h 65 i 0 = k) (k0 : 0 ≤ k) (k1 : k < 30) : ∃ h1, F79 i v p x w l h = F79_0 zFu i v x l k 0 h1 ∧ h1 65 i 0 = k + 1 ∧ h1 70 i (k * 8) = w ∧ h1 70 i (k * 8 + 1) = p ∧ h1 70 i (k * 8 + 2) = h 64 i 0 ∧ h1 70 i (k * 8 + 3) = x ∧ h1 70 i (k * 8 + 4) = l ∧ h1 70 i (k * 8 + 5) = wshl 1 p ∧ h1 70 i (k * 8 + 6) = 0 ∧ h1 70 i (k * 8 + 7) = 0 ∧ (∀ j, k * 6 ≤ j → j < k * 6 + 6 → h1 68 i j = -1) ∧ ∀ r n j, ¬ (n = i ∧ ((r = 65 ∧ j = 0) ∨ (r = 68 ∧ k * 6 ≤ j ∧ j < k * 6 + 6) ∨ (r = 70 ∧ k * 8 ≤ j ∧ j < k * 8 + 8))) → h1 r n j = h r n j := by
  unfold F79
  rw [hk, if_pos k1, wmul_eq (x := k) (y := 8) (by omega) (by omega), wmul_eq (x := k) (y := 6) (by omega) (by omega), wadd_eq (x := k) (y := 1) (by omega) (by omega), wmul_eq (x := k + 1) (y := 6) (by omega) (by omega), wadd_eq (x := k * 8) (y := 0) (by omega) (by omega), wadd_eq (x := k * 8) (y := 1) (by omega) (by omega), wadd_eq (x := k * 8) (y := 2) (by omega) (by omega), wadd_eq (x := k * 8) (y := 3) (by omega) (by omega), wadd_eq (x := k * 8) (y := 4) (by omega) (by omega), wadd_eq (x := k * 8) (y := 5) (by omega) (by omega), wadd_eq (x := k * 8) (y := 6) (by omega) (by omega), wadd_eq (x := k * 8) (y := 7) (by omega) (by omega), Int.add_zero]
  rw [zG_t (by omega), zG_t (by omega), zG_t (by omega), zG_t (by omega), zG_t (by omega), zG_t (by omega), zG_t (by omega), zG_t (by omega)]
  obtain ⟨h2, g1, g2, g3⟩ := F80_s (h := hset (hset (hset (hset (hset (hset (hset (hset h 70 i (k * 8) w) 70 i (k * 8 + 1) p) 70 i (k * 8 + 2) (h 64 i 0)) 70 i (k * 8 + 3) x) 70 i (k * 8 + 4) l) 70 i (k * 8 + 5) (wshl 1 p)) 70 i (k * 8 + 6) 0) 70 i (k * 8 + 7) 0) (i := i) k0 k1
  rw [g1]
  refine ⟨_, rfl, hset_eq, ?_, ?_, ?_, ?_, ?_, ?_, ?_, ?_, ?_, ?_⟩
  · rw [hset_ne (by omega), g3 _ _ _ (by omega), hset_ne (by omega), hset_ne (by omega), hset_ne (by omega), hset_ne (by omega), hset_ne (by omega), hset_ne (by omega), hset_ne (by omega), hset_eq]
  · rw [hset_ne (by omega), g3 _ _ _ (by omega), hset_ne (by omega), hset_ne (by omega), hset_ne (by omega), hset_ne (by omega), hset_ne (by omega), hset_ne (by omega), hset_eq]
  · rw [hset_ne (by omega), g3 _ _ _ (by omega), hset_ne (by omega), hset_ne (by omega), hset_ne (by omega), hset_ne (by omega), hset_ne (by omega), hset_eq]
  · rw [hset_ne (by omega), g3 _ _ _ (by omega), hset_ne (by omega), hset_ne (by omega), hset_ne (by omega), hset_ne (by omega), hset_eq]
  · rw [hset_ne (by omega), g3 _ _ _ (by omega), hset_ne (by omega), hset_ne (by omega), hset_ne (by omega), hset_eq]
  · rw [hset_ne (by omega), g3 _ _ _ (by omega), hset_ne (by omega), hset_ne (by omega), hset_eq]
  · rw [hset_ne (by omega), g3 _ _ _ (by omega), hset_ne (by omega), hset_eq]
  · rw [hset_ne (by omega), g3 _ _ _ (by omega), hset_eq]
  · intro j j0 j1
    rw [hset_ne (by omega)]
    exact g2 j j0 j1
  · intro r n j hne
    rw [hset_ne (by omega), g3 _ _ _ (by omega), hset_ne (by omega), hset_ne (by omega), hset_ne (by omega), hset_ne (by omega), hset_ne (by omega), hset_ne (by omega), hset_ne (by omega), hset_ne (by omega)]
/-- the model's rows of a new saying -/
theorem F227_pre {m : zHM} {p w l s x : Int} (hs : m 14 216 = s) (s0 : 0 ≤ s) (s1 : s < 30) (p0 : 0 ≤ p) (p1 : p < 6) (hx : m 14 (210 + p) = x) (x0 : 0 ≤ x) (x1 : x < 100) (l0 : 0 ≤ l) (l1 : l ≤ 9) : ∃ m1, F227 p w l m = F227_1 zFu s x (zLoud (m 14 (97 + x)) l) 0 m1 ∧ m1 14 216 = s + 1 ∧ m1 14 (217 + 8 * s) = w ∧ m1 14 (217 + 8 * s + 1) = p ∧ m1 14 (217 + 8 * s + 2) = m 14 209 ∧ m1 14 (217 + 8 * s + 3) = x ∧ m1 14 (217 + 8 * s + 4) = zLoud (m 14 (97 + x)) l ∧ m1 14 (217 + 8 * s + 5) = wshl 1 p ∧ m1 14 (217 + 8 * s + 6) = 0 ∧ m1 14 (217 + 8 * s + 7) = 0 ∧ (∀ j, 457 + 18 * s ≤ j → j < 475 + 18 * s → m1 14 j = 0) ∧ ∀ r j, ¬ (r = 14 ∧ (j = 216 ∨ (217 + 8 * s ≤ j ∧ j < 225 + 8 * s) ∨ (457 + 18 * s ≤ j ∧ j < 475 + 18 * s))) → m1 r j = m r j := by
  have key : ∀ (n : Nat) (j : Int) (m0 m1 : zHM), 0 ≤ j → j ≤ 18 → 18 - j < n → m0 14 216 = s → (∀ q, 457 + 18 * s ≤ q → q < 457 + 18 * s + j → m1 14 q = 0) → (∀ r q, ¬ (r = 14 ∧ 457 + 18 * s ≤ q ∧ q < 475 + 18 * s) → m1 r q = m0 r q) → ∃ m2, F227_0 n s (217 + 8 * s) x j m1 = F227_1 zFu s x (m0 14 (217 + 8 * s + 4)) 0 m2 ∧ m2 14 216 = s + 1 ∧ (∀ q, 457 + 18 * s ≤ q → q < 475 + 18 * s → m2 14 q = 0) ∧ (∀ r q, ¬ (r = 14 ∧ (q = 216 ∨ 457 + 18 * s ≤ q ∧ q < 475 + 18 * s)) → m2 r q = m0 r q) := by
    intro n
    induction n with
    | zero => intro j m0 m1 j0 j1 g; omega
    | succ n ih =>
      intro j m0 m1 j0 j1 g e0 q1 q2
      rw [F227_0]
      by_cases e : j = 18
      · have e2 : m1 14 216 = s := by rw [q2 _ _ (by omega)]; exact e0
        rw [if_pos (by omega), wadd_eq (x := 217 + 8 * s) (by omega) (by omega), zG_t (by omega), e2, wadd_eq (x := s) (by omega) (by omega), mset_ne (by omega), q2 _ (217 + 8 * s + 4) (by omega)]
        refine ⟨_, rfl, mset_eq, fun q g0 g1 => ?_, fun r q hne => ?_⟩
        · rw [mset_ne (by omega)]
          exact q1 q g0 (by omega)
        · rw [mset_ne (by omega)]
          exact q2 r q (by omega)
      · rw [if_neg (by omega), wmul_eq (by omega) (by omega), wadd_eq (x := 457) (by omega) (by omega), wadd_eq (x := 457 + 18 * s) (by omega) (by omega), zG_t (by omega), wadd_eq (x := j) (by omega) (by omega)]
        refine ih (j + 1) m0 _ (by omega) (by omega) (by omega) e0 (fun q g0 g1 => ?_) (fun r q hne => ?_)
        · by_cases u : q = 457 + 18 * s + j
          · subst u; exact mset_eq
          · rw [mset_ne (by omega)]
            exact q1 q g0 (by omega)
        · rw [mset_ne (by omega)]
          exact q2 r q hne
  have big := zFu_big
  unfold F227
  rw [wadd_eq (x := 210) (by omega) (by omega), zG_t (by omega), hs, hx, wmul_eq (by omega) (by omega), wadd_eq (x := 217) (by omega) (by omega), wadd_eq (x := 217 + 8 * s) (y := 0) (by omega) (by omega), wadd_eq (x := 217 + 8 * s) (y := 1) (by omega) (by omega), wadd_eq (x := 217 + 8 * s) (y := 2) (by omega) (by omega), wadd_eq (x := 217 + 8 * s) (y := 3) (by omega) (by omega), wadd_eq (x := 217 + 8 * s) (y := 4) (by omega) (by omega), wadd_eq (x := 217 + 8 * s) (y := 5) (by omega) (by omega), wadd_eq (x := 217 + 8 * s) (y := 6) (by omega) (by omega), wadd_eq (x := 217 + 8 * s) (y := 7) (by omega) (by omega), Int.add_zero]
  rw [zG_t (by omega), zG_t (by omega), zG_t (by omega), zG_t (by omega)]
  have e1 : (mset (mset m 14 (217 + 8 * s) w) 14 (217 + 8 * s + 1) p) 14 209 = m 14 209 := by rw [mset_ne (by omega), mset_ne (by omega)]
  rw [e1, F228_s x0 x1 l0 l1]
  have e2 : (mset (mset (mset (mset m 14 (217 + 8 * s) w) 14 (217 + 8 * s + 1) p) 14 (217 + 8 * s + 2) (m 14 209)) 14 (217 + 8 * s + 3) x) 14 (97 + x) = m 14 (97 + x) := by rw [mset_ne (by omega), mset_ne (by omega), mset_ne (by omega), mset_ne (by omega)]
  rw [e2]
  show ∃ m1, zG _ _ = _ ∧ _
  rw [zG_t (by omega), zG_t (by omega), zG_t (by omega), zG_t (by omega)]
  generalize hm0 : mset (mset (mset (mset (mset (mset (mset (mset m 14 (217 + 8 * s) w) 14 (217 + 8 * s + 1) p) 14 (217 + 8 * s + 2) (m 14 209)) 14 (217 + 8 * s + 3) x) 14 (217 + 8 * s + 4) (zLoud (m 14 (97 + x)) l)) 14 (217 + 8 * s + 5) (wshl 1 p)) 14 (217 + 8 * s + 6) 0) 14 (217 + 8 * s + 7) 0 = m0
  have f0 : m0 14 216 = s := by rw [← hm0, mset_ne (by omega), mset_ne (by omega), mset_ne (by omega), mset_ne (by omega), mset_ne (by omega), mset_ne (by omega), mset_ne (by omega), mset_ne (by omega)]; exact hs
  have f4 : m0 14 (217 + 8 * s + 4) = zLoud (m 14 (97 + x)) l := by rw [← hm0, mset_ne (by omega), mset_ne (by omega), mset_ne (by omega), mset_eq]
  obtain ⟨m2, z1, z2, z3, z4⟩ := key zFu 0 m0 m0 (by decide) (by decide) (by omega) f0 (fun q g0 g1 => by omega) (fun _ _ _ => rfl)
  rw [f4] at z1
  refine ⟨m2, z1, z2, ?_, ?_, ?_, ?_, ?_, ?_, ?_, ?_, z3, ?_⟩
  · rw [z4 _ _ (by omega), ← hm0, mset_ne (by omega), mset_ne (by omega), mset_ne (by omega), mset_ne (by omega), mset_ne (by omega), mset_ne (by omega), mset_ne (by omega), mset_eq]
  · rw [z4 _ _ (by omega), ← hm0, mset_ne (by omega), mset_ne (by omega), mset_ne (by omega), mset_ne (by omega), mset_ne (by omega), mset_ne (by omega), mset_eq]
  · rw [z4 _ _ (by omega), ← hm0, mset_ne (by omega), mset_ne (by omega), mset_ne (by omega), mset_ne (by omega), mset_ne (by omega), mset_eq]
  · rw [z4 _ _ (by omega), ← hm0, mset_ne (by omega), mset_ne (by omega), mset_ne (by omega), mset_ne (by omega), mset_eq]
  · rw [z4 _ _ (by omega)]; exact f4
  · rw [z4 _ _ (by omega), ← hm0, mset_ne (by omega), mset_ne (by omega), mset_eq]
  · rw [z4 _ _ (by omega), ← hm0, mset_ne (by omega), mset_eq]
  · rw [z4 _ _ (by omega), ← hm0, mset_eq]
  · intro r j hne
    rw [z4 _ _ (by omega), ← hm0, mset_ne (by omega), mset_ne (by omega), mset_ne (by omega), mset_ne (by omega), mset_ne (by omega), mset_ne (by omega), mset_ne (by omega), mset_ne (by omega)]
