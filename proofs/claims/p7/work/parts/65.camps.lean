/-! Camps. -/
def zBit (x p : Int) : Prop := wand (wshr x p) 1 = 1
theorem z_all2 {f : Nat → Nat → Bool} {n k : Nat} (h : (List.range n).all (fun a => (List.range k).all (fun b => f a b)) = true) {x y : Int} (h0 : 0 ≤ x) (h1 : x < n) (h2 : 0 ≤ y) (h3 : y < k) : f x.toNat y.toNat = true := by
  have e := z_all h h0 h1
  exact z_all e h2 h3
/-- subsets of C below 64 -/
theorem z_sub {x C : Int} (x0 : 0 ≤ x) (x1 : x < 64) (C0 : 0 ≤ C) (C1 : C < 64) (hs : wand x (wxor C (-1)) = 0) : x ≤ C ∧ ∀ p, 0 ≤ p → p < 6 → (wand (wshr x p) 1 = 1 → wand (wshr C p) 1 = 1) ∧ (wand (wshr C p) 1 = 1 → wand (wxor x (wshl 1 p)) (wxor C (-1)) = 0 ∧ 0 ≤ wxor x (wshl 1 p) ∧ wxor x (wshl 1 p) < 64) := by
  have k : (List.range 64).all (fun a => (List.range 64).all (fun b => (!decide (wand (a : Int) (wxor (b : Int) (-1)) = 0)) || (decide ((a : Int) ≤ (b : Int)) && (List.range 6).all (fun p => (!decide (wand (wshr (a : Int) (p : Int)) 1 = 1) || decide (wand (wshr (b : Int) (p : Int)) 1 = 1)) && (!decide (wand (wshr (b : Int) (p : Int)) 1 = 1) || decide (wand (wxor (a : Int) (wshl 1 (p : Int))) (wxor (b : Int) (-1)) = 0 ∧ 0 ≤ wxor (a : Int) (wshl 1 (p : Int)) ∧ wxor (a : Int) (wshl 1 (p : Int)) < 64)))))) = true := by decide +kernel
  have e := z_all2 k (x := x) (y := C) x0 (by omega) C0 (by omega)
  have e1 : ((x.toNat : Nat) : Int) = x := by omega
  have e2 : ((C.toNat : Nat) : Int) = C := by omega
  simp only [e1, e2] at e
  rw [hs] at e
  rw [Bool.or_eq_true] at e
  rcases e with e | e
  · simp at e
  · rw [Bool.and_eq_true] at e
    refine ⟨of_decide_eq_true e.1, fun p p0 p1 => ?_⟩
    have e3 := z_all e.2 (x := p) p0 (by omega)
    have e4 : ((p.toNat : Nat) : Int) = p := by omega
    simp only [e4] at e3
    rw [Bool.and_eq_true, Bool.or_eq_true, Bool.or_eq_true] at e3
    obtain ⟨e5, e6⟩ := e3
    refine ⟨fun w => ?_, fun w => ?_⟩
    · rcases e5 with u | u
      · rw [w] at u; simp at u
      · exact of_decide_eq_true u
    · rcases e6 with u | u
      · rw [w] at u; simp at u
      · exact of_decide_eq_true u
theorem z_sub_lt {x C : Int} (hx : zR32 x) (C0 : 0 ≤ C) (C1 : C < 64) (hs : wand x (wxor C (-1)) = 0) : 0 ≤ x ∧ x < 64 := by
  have h0 : (Int32.ofInt x &&& (Int32.ofInt C ^^^ Int32.ofInt (-1))).toInt = 0 := by
    have : wand x (wxor C (-1)) = (Int32.ofInt x &&& (Int32.ofInt C ^^^ Int32.ofInt (-1))).toInt := by
      unfold wand wxor
      rw [Int32.ofInt_toInt]
    rw [← this]
    exact hs
  have h1 : (Int32.ofInt x &&& (Int32.ofInt C ^^^ Int32.ofInt (-1))) = 0 := Int32.toInt_inj.mp (by rw [h0]; rfl)
  have h2 : (Int32.ofInt x).toBitVec &&& ((Int32.ofInt C).toBitVec ^^^ BitVec.allOnes 32) = 0#32 := by
    have := congrArg Int32.toBitVec h1
    exact this
  have hC : (Int32.ofInt C).toBitVec.toNat < 2 ^ 6 := by
    rw [i32_of C0 (by omega)]
    omega
  have hX : (Int32.ofInt x).toBitVec.toNat < 2 ^ 6 := by
    refine Nat.lt_pow_two_of_testBit _ (fun i hi => ?_)
    by_cases hi2 : i < 32
    · have e := congrArg (fun v : BitVec 32 => v.getLsbD i) h2
      simp only [BitVec.getLsbD_and, BitVec.getLsbD_xor, BitVec.getLsbD_allOnes, BitVec.getLsbD_zero] at e
      have e2 : (Int32.ofInt C).toBitVec.getLsbD i = false := by
        have : Nat.testBit (Int32.ofInt C).toBitVec.toNat i = false := Nat.testBit_lt_two_pow (Nat.lt_of_lt_of_le hC (Nat.pow_le_pow_right (by decide) hi))
        exact this
      rw [e2] at e
      simp [hi2] at e
      exact e
    · exact Nat.testBit_lt_two_pow (Nat.lt_of_lt_of_le (Int32.ofInt x).toBitVec.isLt (Nat.pow_le_pow_right (by decide) (by omega)))
  have e3 := i32_nat (v := Int32.ofInt x) rfl (by omega)
  rw [Int32.toInt_ofInt_of_le hx.1 hx.2] at e3
  omega
theorem z_bits {a C p : Int} (a0 : 0 ≤ a) (a1 : a < 64) (p0 : 0 ≤ p) (p1 : p < 6) : ∀ q, 0 ≤ q → q < 6 → (wand (wshr (wor a (wshl 1 p)) q) 1 = 1 ↔ (q = p ∨ wand (wshr a q) 1 = 1)) := by
  intro q q0 q1
  have k : (List.range 384).all (fun a => (List.range 6).all (fun q => decide (wand (wshr (wor ((a / 6 : Nat) : Int) (wshl 1 ((a % 6 : Nat) : Int))) (q : Int)) 1 = 1 ↔ ((q : Int) = ((a % 6 : Nat) : Int) ∨ wand (wshr ((a / 6 : Nat) : Int) (q : Int)) 1 = 1)))) = true := by decide +kernel
  have e := z_all2 k (x := 6 * a + p) (y := q) (by omega) (by omega) q0 (by omega)
  have e1 : (((6 * a + p).toNat / 6 : Nat) : Int) = a := by omega
  have e2 : (((6 * a + p).toNat % 6 : Nat) : Int) = p := by omega
  have e3 : ((q.toNat : Nat) : Int) = q := by omega
  simp only [e1, e2, e3] at e
  exact of_decide_eq_true e
theorem L105 {h : zHC} {m : zHM} (e3 : h 579 0 0 = m 14 3) (n0 : 0 ≤ m 14 3) (n1 : m 14 3 ≤ 6) (hP : VP h 0 (m 14)) : ∃ C, F105 0 h = some C ∧ F248 m = some C ∧ 0 ≤ C ∧ C < 64 ∧ ∀ p, 0 ≤ p → p < 6 → (wand (wshr C p) 1 = 1 ↔ p < m 14 3 ∧ ¬ m 14 (25 + 2 * p + 1) = -1) := by
  have key : ∀ (n n' : Nat) (acc p : Int), 0 ≤ p → p ≤ m 14 3 → m 14 3 - p < n → m 14 3 - p < n' → 0 ≤ acc → acc < 64 → (∀ q, 0 ≤ q → q < 6 → (wand (wshr acc q) 1 = 1 ↔ q < p ∧ ¬ m 14 (25 + 2 * q + 1) = -1)) → ∃ C, F105_0 h n 0 acc p = some C ∧ F248_0 m n' acc p = some C ∧ 0 ≤ C ∧ C < 64 ∧ ∀ p, 0 ≤ p → p < 6 → (wand (wshr C p) 1 = 1 ↔ p < m 14 3 ∧ ¬ m 14 (25 + 2 * p + 1) = -1) := by
    intro n
    induction n with
    | zero => intro n' acc p p0 p1 g1 g2; omega
    | succ n ih =>
      intro n' acc p p0 p1 g1 g2 a0 a1 hb
      cases n' with
      | zero => omega
      | succ n' =>
        rw [F105_0, F248_0, e3]
        by_cases e : p = m 14 3
        · rw [if_pos (by omega), if_pos (by omega)]
          refine ⟨acc, rfl, rfl, a0, a1, ?_⟩
          rw [← e]
          exact hb
        · have hp : ¬ m 14 3 ≤ p := by omega
          have ep : wadd p 1 = p + 1 := wadd_eq (by omega) (by omega)
          rw [if_neg hp, if_neg hp, wmul_eq (by omega) (by omega), wadd_eq (x := 25) (by omega) (by omega), wadd_eq (x := 25 + 2 * p) (by omega) (by omega), zG_t (by omega), zG_t (by omega), (hP p p0 (by omega)).2]
          unfold F105_1 F248_1
          rw [ep]
          by_cases q : m 14 (25 + 2 * p + 1) = -1
          · rw [if_pos q, if_pos q]
            refine ih n' acc (p + 1) (by omega) (by omega) (by omega) (by omega) a0 a1 (fun r r0 r1 => ?_)
            rw [hb r r0 r1]
            by_cases u : r = p
            · subst u
              exact ⟨fun w => by omega, fun w => absurd q w.2⟩
            · exact ⟨fun w => ⟨by omega, w.2⟩, fun w => ⟨by omega, w.2⟩⟩
          · rw [if_neg q, if_neg q]
            have wr := wor_shl a0 a1 p0 (by omega : p < 6)
            refine ih n' _ (p + 1) (by omega) (by omega) (by omega) (by omega) wr.1 wr.2 (fun r r0 r1 => ?_)
            rw [z_bits (C := 0) a0 a1 p0 (by omega) r r0 r1, hb r r0 r1]
            by_cases u : r = p
            · subst u
              exact ⟨fun _ => ⟨by omega, q⟩, fun _ => Or.inl rfl⟩
            · exact ⟨fun w => by rcases w with w | w; exact absurd w u; exact ⟨by omega, w.2⟩, fun w => Or.inr ⟨by omega, w.2⟩⟩
  have big := zFu_big
  refine key zFu zFu 0 0 (by decide) n0 (by omega) (by omega) (by decide) (by decide) (fun q q0 q1 => ?_)
  rw [wand_0p q0 q1]
  exact ⟨fun w => (by cases w), fun w => (by omega)⟩
/-- places by camps -/
theorem L106 {x n : Int} {nm : Int → Int} {nP : Int} (n1 : n ≤ 1000) (P1 : nP ≤ 6) (k0 : Int → Int → Int → zHM → Option zHM) : ∀ (f f' : Nat) (p : Int) (h : zHC) (m : zHM), CI h m 1 0 0 nm → m 14 3 = nP → (∀ q, 0 ≤ q → q < nP → wand (wshr x q) 1 = 1 → ¬ m 14 (25 + 2 * q + 1) = -1) → 0 ≤ p → p ≤ nP → nP - p < f → nP - p < f' → ∃ h' m' k, F106_0 f x n p h = some h' ∧ F249_0 f' x n p m = F249_1 zFu x 0 m' ∧ CI h' m' 1 0 0 nm ∧ (∀ r n j, ¬ (64 ≤ r ∧ r ≤ 72 ∧ n = 1) → h' r n j = h r n j) ∧ (∀ r j, ¬ (r = 14 ∧ 209 ≤ j ∧ j < 1898) → m' r j = m r j) ∧ k = (0 : Int) := by
  intro f
  induction f with
  | zero => intro f' p h m hI e hb p0 p1 g1 g2; omega
  | succ f ih =>
    intro f' p h m hI e hb p0 p1 g1 g2
    cases f' with
    | zero => omega
    | succ f' =>
      have e3 : h 579 0 0 = nP := by rw [← e]; exact hI.1.1.2.2.2.1
      rw [F106_0, F249_0, e3, e]
      by_cases u : p = nP
      · obtain ⟨r, h1, m1, a1, a2, a3, a4, a5⟩ := P_hours' n1 hI
        rw [if_pos (by omega), if_pos (by omega), a1, a2, Option.bind_some, Option.bind_some]
        exact ⟨h1, m1, 0, rfl, rfl, a3, cfC_1 a4, fun r j hne => a5.2.2 r j (by omega), rfl⟩
      · have hp : ¬ nP ≤ p := by omega
        have ep : wadd p 1 = p + 1 := wadd_eq (by omega) (by omega)
        rw [if_neg hp, if_neg hp, F214_s]
        unfold F106_1 F249_2
        rw [ep]
        by_cases w : wand (wshr x p) 1 = 1
        · have e65 : F65 x p = some 1 := by
            unfold F65
            rw [if_neg (fun z => z w)]
          have nb := hb p p0 (by omega) w
          obtain ⟨c1, c2⟩ := hI.1.2.2.1 p p0 (by omega)
          obtain ⟨d1, d2, d3, d4⟩ := hI.1.2.2.2.2.2.2.2.2.2.1 p p0 (by omega)
          rw [e65]
          simp only [Option.bind_some, z10]
          rw [zG_t (by omega), zG_t (by omega), wmul_eq (by omega) (by omega), wadd_eq (x := 25) (by omega) (by omega), wadd_eq (x := 25 + 2 * p) (by omega) (by omega), zG_t (by omega), wadd_eq (x := 210) (by omega) (by omega), zG_t (by omega), c2]
          obtain ⟨h', m', k, z1, z2, z3, z4, z5, z6⟩ := ih f' (p + 1) _ _ (CI_place (p := p) (x := m 14 (25 + 2 * p + 1)) hI p0 (by omega) (by omega) (by omega)) (by rw [mset_ne (by omega)]; exact e) (fun q q0 q1 q2 => by rw [mset_ne (by omega)]; exact hb q q0 q1 q2) (by omega) (by omega) (by omega) (by omega)
          exact ⟨h', m', k, z1, z2, z3, fun r n j hne => by rw [z4 r n j hne, hset_ne (by omega)], fun r j hne => by rw [z5 r j hne, mset_ne (by omega)], z6⟩
        · have e65 : F65 x p = some 0 := by
            unfold F65
            rw [if_pos w]
          rw [e65]
          simp only [Option.bind_some, z00]
          exact ih f' (p + 1) h m hI e hb (by omega) (by omega) (by omega) (by omega)
theorem L108 {x nP : Int} (x0 : 0 ≤ x) (x1 : x < 64) (P1 : nP ≤ 6) : ∀ (f f' : Nat) (p : Int) (h0 h : zHC) (m0 m : zHM), CR h0 1 (m0 14) → h0 579 0 0 = nP → m0 14 3 = nP → (∀ r n j, ¬ r = 716 → h r n j = h0 r n j) → (∀ r j, ¬ r = 25 → m r j = m0 r j) → (∀ j, ¬ (x * 6 ≤ j ∧ j < x * 6 + 6) → h 716 0 j = h0 716 0 j ∧ m 25 j = m0 25 j) → (∀ q, 0 ≤ q → q < p → ∃ v, F101 1 q h0 = some v ∧ h 716 0 (x * 6 + q) = v ∧ m 25 (6 * x + q) = v) → 0 ≤ p → p ≤ nP → nP - p < f → nP - p < f' → ∃ h' m', F108_0 f x p h = some h' ∧ F249_1 f' x p m = (F245 m').bind (fun r1 => some r1) ∧ (∀ r n j, ¬ r = 716 → h' r n j = h0 r n j) ∧ (∀ r j, ¬ r = 25 → m' r j = m0 r j) ∧ (∀ j, ¬ (x * 6 ≤ j ∧ j < x * 6 + 6) → h' 716 0 j = h0 716 0 j ∧ m' 25 j = m0 25 j) ∧ (∀ q, 0 ≤ q → q < nP → ∃ v, F101 1 q h0 = some v ∧ h' 716 0 (x * 6 + q) = v ∧ m' 25 (6 * x + q) = v) := by
  intro f
  induction f with
  | zero => intro f' p h0 h m0 m hR e1 e2 f1 f2 f3 f4 p0 p1 g1 g2; omega
  | succ f ih =>
    intro f' p h0 h m0 m hR e1 e2 f1 f2 f3 f4 p0 p1 g1 g2
    cases f' with
    | zero => omega
    | succ f' =>
      rw [F108_0, F249_1, f1 579 0 0 (by omega), e1, f2 14 3 (by omega), e2]
      by_cases u : p = nP
      · rw [if_pos (by omega), if_pos (by omega)]
        exact ⟨h, m, rfl, rfl, f1, f2, f3, fun q q0 q1 => f4 q q0 (by omega)⟩
      · have hp : ¬ nP ≤ p := by omega
        have ep : wadd p 1 = p + 1 := wadd_eq (by omega) (by omega)
        have hR' : CR h 1 (m 14) := CR_keep (fun r j g0 g1 => f1 r 1 j (by omega)) (fun j _ _ => f2 14 j (by omega)) (f2 14 2 (by omega)) (f2 14 3 (by omega)) (by omega) hR
        obtain ⟨v, c1, c2, c3, c4⟩ := L101 (p := p) p0 (by omega) hR'
        obtain ⟨v', d1, d2, d3, d4⟩ := L101 (p := p) p0 (by omega) hR
        have evv : v' = v := by
          have e5 : ∀ j, m 14 j = m0 14 j := fun j => f2 14 j (by omega)
          have : F211 p m = F211 p m0 := by
            obtain ⟨w, y1, y2, -⟩ := L101 (h := h0) (m := fun r j => if r = 14 then m0 14 j else m r j) (i := 1) (p := p) p0 (by omega) hR
            have em : (fun r j => if r = 14 then m0 14 j else m r j) = m := by
              funext r j
              by_cases z : r = 14
              · subst z; exact (if_pos rfl).trans (e5 j).symm
              · exact if_neg z
            rw [em] at y2
            have := y1.symm.trans d1
            rw [y2, d2]
            exact this
          rw [c2, d2] at this
          exact (Option.some.inj this).symm
        subst evv
        rw [if_neg hp, if_neg hp, c1, c2]
        simp only [Option.bind_some]
        rw [wmul_eq (x := x) (by omega) (by omega), wadd_eq (x := x * 6) (by omega) (by omega), zG_t (by omega), wmul_eq (x := 6) (by omega) (by omega), wadd_eq (x := 6 * x) (by omega) (by omega), zG_t (by omega), ep]
        refine ih f' (p + 1) h0 _ m0 _ hR e1 e2 (fun r n j hne => by rw [hset_ne (by omega)]; exact f1 r n j hne) (fun r j hne => by rw [mset_ne (by omega)]; exact f2 r j hne) (fun j hne => ?_) (fun q q0 q1 => ?_) (by omega) (by omega) (by omega) (by omega)
        · rw [hset_ne (by omega), mset_ne (by omega)]
          exact f3 j hne
        · by_cases w : q = p
          · subst w
            exact ⟨v', d1, hset_eq, mset_eq⟩
          · rw [hset_ne (by omega), mset_ne (by omega)]
            exact f4 q q0 (by omega)
/-- one set of camps, class and model -/
theorem P_set {hc : zHC} {hm : zHM} {x n C : Int} (h : RG hc hm) (n1 : n ≤ 1000) (x0 : 0 ≤ x) (x1 : x < 64) (hC : F105 0 hc = some C) (C0 : 0 ≤ C) (C1 : C < 64) (hb : ∀ p, 0 ≤ p → p < 6 → (wand (wshr C p) 1 = 1 ↔ p < hm 14 3 ∧ ¬ hm 14 (25 + 2 * p + 1) = -1)) (hs : wand x (wxor C (-1)) = 0) : ∃ h1 h2 m3, F106 x n hc = some h1 ∧ F108 x h1 = some h2 ∧ F249 x n hm = some m3 ∧ scC hc h1 ∧ scC hc h2 ∧ scM hm m3 ∧ (∀ j, ¬ (x * 6 ≤ j ∧ j < x * 6 + 6) → h2 716 0 j = hc 716 0 j ∧ m3 25 j = hm 25 j) ∧ (∀ q, 0 ≤ q → q < hm 14 3 → ∃ v, F101 1 q h1 = some v ∧ h2 716 0 (x * 6 + q) = v ∧ m3 25 (6 * x + q) = v) := by
  have w6 := RG_WN h
  unfold WN at w6
  have big := zFu_big
  obtain ⟨h1, m1, a1, a2, a3, a4, a5, a6⟩ := A_beg h
  have e25 : ∀ j, m1 25 j = hm 25 j := by
    obtain ⟨m1', y1, y2, y3⟩ := L244 (m := hm)
    have := Option.some.inj (y1.symm.trans a2)
    subst this
    exact fun j => y3 25 j (by decide)
  have zs := (z_sub x0 x1 C0 C1 hs).2
  obtain ⟨h2, m2, k, b1, b2, b3, b4, b5, b6⟩ := L106 (x := x) (n := n) (nP := hm 14 3) n1 (by omega) (fun _ _ _ _ => none) zFu zFu 0 h1 m1 a3 (a6 3) (fun q q0 q1 q2 => by rw [a6]; exact ((hb q q0 (by omega)).mp ((zs q q0 (by omega)).1 q2)).2) (by decide) (by omega) (by omega) (by omega)
  have e3 : m2 14 3 = hm 14 3 := by rw [b5 14 3 (by omega), a6]
  obtain ⟨h3, m3, c1, c2, c3, c4, c5, c6⟩ := L108 (x := x) (nP := hm 14 3) x0 x1 (by omega) zFu zFu 0 h2 h2 m2 m2 (CI_CR b3) (by rw [← e3]; exact b3.1.1.2.2.2.1) e3 (fun _ _ _ _ => rfl) (fun _ _ _ => rfl) (fun _ _ => ⟨rfl, rfl⟩) (fun q q0 q1 => by omega) (by decide) (by omega) (by omega) (by omega)
  obtain ⟨m4, d1, d2, d3⟩ := A_end (mA_N a5 (m2 := m3) (fun r j hne => by rw [c4 r j (by omega), b5 r j (by omega)]))
  refine ⟨h2, h3, m4, ?_, c1, ?_, scC_1 a4 b4, fun r n j hne => by rw [c3 r n j (by omega), b4 r n j (by omega), a4 r n j (by omega)], d2, fun j hne => ?_, fun q q0 q1 => ?_⟩
  · unfold F106
    rw [a1, Option.bind_some]
    exact b1
  · unfold F249
    rw [a2, Option.bind_some, b2, c2, d1]
    rfl
  · obtain ⟨u1, u2⟩ := c5 j hne
    refine ⟨?_, ?_⟩
    · rw [u1, b4 _ _ _ (by omega), a4 _ _ _ (by omega)]
    · rw [d3 25 j (by decide), u2, b5 25 j (by omega)]
      exact e25 j
  · obtain ⟨v, u1, u2, u3⟩ := c6 q q0 q1
    exact ⟨v, u1, u2, by rw [d3 25 _ (by decide)]; exact u3⟩
theorem C_has {hc : zHC} {hm : zHM} {p x n : Int} (h : RG hc hm) (hx : zR32 x) : ∃ r hc' hm', F103 p x n hc = some (r, hc') ∧ F247 p x n hm = some (r, hm') ∧ RG hc' hm' := by
  have w6 := RG_WN h
  unfold WN at w6
  have h0 := RG_0 (x := 0) h
  obtain ⟨C, c1, c2, c3, c4, c5⟩ := L105 (h := hc) (m := mset hm 0 0 0) (RG_VN h).2.2.2.1 (by rw [m0_ne (by decide)]; omega) (by rw [m0_ne (by decide)]; omega) h0.2.1.1.2.2.1
  unfold F103 F247 F104
  rw [E61 (RG_VN h).2.2.2.1, E210 (m := mset hm 0 0 0) (b := hm 14 3) (m0_ne (by decide)), E99, E242, c1, c2]
  simp only [Option.bind_some]
  by_cases q1 : 0 ≤ p ∧ p < hm 14 3
  · simp only [if_pos q1, z10]
    by_cases q3 : 1 ≤ n ∧ n ≤ 60
    · simp only [if_pos q3, z10, zn10]
      by_cases q4 : wand x (wxor C (-1)) = 0
      · obtain ⟨x0, x1⟩ := z_sub_lt hx c3 c4 q4
        rw [if_neg (show ¬ x < 0 by omega), if_neg (fun z => z q4 : ¬ ¬ wand x (wxor C (-1)) = 0), if_neg (fun z => z q4 : ¬ ¬ wand x (wxor C (-1)) = 0)]
        simp only [Option.bind_some, zn10]
        obtain ⟨h1, h2, m3, d1, d2, d3, d4, d5, d6, d7, d8⟩ := P_set (x := x) (n := n) h0 (by omega) x0 x1 c1 c3 c4 c5 q4
        rw [m0_ne (by decide)] at d8
        obtain ⟨v, e1, e2, e3⟩ := d8 p q1.1 q1.2
        rw [d1, d3]
        simp only [Option.bind_some]
        rw [e1, wmul_eq (by omega) (by omega), wadd_eq (x := 6 * x) (by omega) (by omega), zG_t (by omega), e3]
        exact ⟨v, h1, m3, rfl, rfl, RG_sc h0 d4 d6⟩
      · rw [if_pos q4, if_pos q4]
        simp only [Option.bind_some, zn00]
        refine ⟨-1, hc, _, rfl, ?_, h0⟩
        split <;> rfl
    · simp only [if_neg q3, z00, zn00]
      refine ⟨-1, hc, mset hm 0 0 0, rfl, ?_, h0⟩
      by_cases u : x < 0
      · rw [if_pos u]
      · rw [if_neg u]
        split <;> rfl
  · simp only [if_neg q1, z00]
    exact ⟨_, _, _, rfl, rfl, h0⟩
theorem F104_s {h : zHC} {x C : Int} (hC : F105 0 h = some C) : F104 x h = some (if wand x (wxor C (-1)) = 0 then 1 else 0) := by
  unfold F104
  rw [hC, Option.bind_some]
  by_cases q : wand x (wxor C (-1)) = 0
  · rw [if_neg (fun z => z q), if_pos q]
  · rw [if_pos q, if_neg q]
theorem F105_keep {h h' : zHC} {m m' : zHM} (g : RG h m) (g' : RG h' m') (e : ∀ j, m' 14 j = m 14 j) {C : Int} (hC : F105 0 h = some C) : F105 0 h' = some C := by
  have w6 := RG_WN g
  unfold WN at w6
  obtain ⟨C1, a1, a2, -⟩ := L105 (h := h) (m := m) (RG_VN g).2.2.2.1 (by omega) (by omega) g.2.1.1.2.2.1
  obtain ⟨C2, b1, b2, -⟩ := L105 (h := h') (m := m) (by rw [← e]; exact (RG_VN g').2.2.2.1) (by omega) (by omega) (by have : m' 14 = m 14 := funext e; rw [← this]; exact g'.2.1.1.2.2.1)
  rw [b1, ← b2, a2, ← a1, hC]
theorem C_rests {hc : zHC} {hm : zHM} {n k : Int} (h : RG hc hm) : ∃ r hc' hm', F107 n k hc = some (r, hc') ∧ F250 n k hm = some (r, hm') ∧ RG hc' hm' := by
  have w6 := RG_WN h
  unfold WN at w6
  have h0 := RG_0 (x := 0) h
  have big := zFu_big
  obtain ⟨C, c1, c2, c3, c4, c5⟩ := L105 (h := hc) (m := mset hm 0 0 0) (RG_VN h).2.2.2.1 (by rw [m0_ne (by decide)]; omega) (by rw [m0_ne (by decide)]; omega) h0.2.1.1.2.2.1
  have e14 : ∀ j, (mset hm 0 0 0) 14 j = hm 14 j := fun j => m0_ne (by decide)
  have c5' : ∀ p, 0 ≤ p → p < 6 → (wand (wshr C p) 1 = 1 ↔ p < hm 14 3 ∧ ¬ hm 14 (25 + 2 * p + 1) = -1) := c5
  unfold F107 F250
  rw [E99, E242, c2]
  simp only [Option.bind_some]
  by_cases q3 : 1 ≤ n ∧ n ≤ 60
  · simp only [if_pos q3, z10, zn10]
    -- the second loop
    have k2 : ∀ (f f' : Nat) (many x : Int) (h1 : zHC) (m1 : zHM), RG h1 m1 → (∀ j, m1 14 j = hm 14 j) → F105 0 h1 = some C → (∀ y, 0 ≤ y → y < 64 → wand y (wxor C (-1)) = 0 → ∀ q, 0 ≤ q → q < hm 14 3 → h1 716 0 (y * 6 + q) = m1 25 (6 * y + q)) → 0 ≤ x → x ≤ 64 → 0 ≤ many → many ≤ x → 64 - x < f → 64 - x < f' → ∃ r, F107_1 f k many x h1 = some (r, h1) ∧ F250_1 f' k C many x m1 = some (r, m1) ∧ (k < -1 → r = -1) := by
      intro f
      induction f with
      | zero => intro f' many x h1 m1 g e hC hb x0 x1 n0 n1 g1 g2; omega
      | succ f ih =>
        intro f' many x h1 m1 g e hC hb x0 x1 n0 n1 g1 g2
        cases f' with
        | zero => omega
        | succ f' =>
          have ex : wadd x 1 = x + 1 := wadd_eq (by omega) (by omega)
          have em : wadd many 1 = many + 1 := wadd_eq (by omega) (by omega)
          rw [F107_1, F250_1]
          by_cases u : 64 ≤ x
          · rw [if_pos u, if_pos (show C < x by omega)]
            by_cases v : k = -1
            · rw [if_neg (fun z => z v : ¬ ¬ k = -1), if_neg (fun z => z v : ¬ ¬ k = -1)]
              exact ⟨many, rfl, rfl, fun z => by omega⟩
            · rw [if_pos v, if_pos v]
              exact ⟨-1, rfl, rfl, fun _ => rfl⟩
          · rw [if_neg u, F104_s hC]
            simp only [Option.bind_some]
            unfold F107_3
            rw [ex, em]
            by_cases w : wand x (wxor C (-1)) = 0
            · obtain ⟨s1, s2⟩ := z_sub x0 (by omega) c3 c4 w
              rw [if_neg (show ¬ C < x by omega), if_neg (fun z => z w : ¬ ¬ wand x (wxor C (-1)) = 0)]
              simp only [if_pos w, z10]
              unfold F250_3
              rw [ex]
              have rest : ∃ b, (b = 0 ∨ b = 1) ∧ F109 x h1 = some b ∧ F251 x C m1 = some b := by
                unfold F109 F251
                rw [hC, Option.bind_some]
                have kk : ∀ (a a' : Nat) (p : Int), 0 ≤ p → p ≤ hm 14 3 → hm 14 3 - p < a → hm 14 3 - p < a' → ∃ b, (b = 0 ∨ b = 1) ∧ F109_0 h1 a x C p = some b ∧ F251_0 m1 a' x C p = some b := by
                  intro a
                  induction a with
                  | zero => intro a' p p0 p1 y1 y2; omega
                  | succ a ia =>
                    intro a' p p0 p1 y1 y2
                    cases a' with
                    | zero => omega
                    | succ a' =>
                      have e3 : h1 579 0 0 = hm 14 3 := by rw [← e]; exact (RG_VN g).2.2.2.1
                      rw [F109_0, F251_0, e3, e]
                      by_cases z : p = hm 14 3
                      · rw [if_pos (by omega), if_pos (by omega)]
                        exact ⟨1, Or.inr rfl, rfl, rfl⟩
                      · have hp : ¬ hm 14 3 ≤ p := by omega
                        have ep : wadd p 1 = p + 1 := wadd_eq (by omega) (by omega)
                        rw [if_neg hp, if_neg hp, F214_s]
                        unfold F109_1 F251_1
                        rw [ep]
                        have nx := ia a' (p + 1) (by omega) (by omega) (by omega) (by omega)
                        by_cases b1 : wand (wshr C p) 1 = 1
                        · have e65 : F65 C p = some 1 := by
                            unfold F65
                            rw [if_neg (fun z => z b1)]
                          obtain ⟨t1, t2, t3⟩ := (s2 p p0 (by omega)).2 b1
                          have t4 := hb _ t2 t3 t1 p p0 (by omega)
                          have t5 := hb x x0 (by omega) w p p0 (by omega)
                          rw [e65]
                          simp only [Option.bind_some, z10]
                          rw [wmul_eq (x := wxor x (wshl 1 p)) (by omega) (by omega), wadd_eq (x := wxor x (wshl 1 p) * 6) (by omega) (by omega), wmul_eq (x := x) (by omega) (by omega), wadd_eq (x := x * 6) (by omega) (by omega), wmul_eq (x := 6) (y := wxor x (wshl 1 p)) (by omega) (by omega), wadd_eq (x := 6 * wxor x (wshl 1 p)) (by omega) (by omega), wmul_eq (x := 6) (y := x) (by omega) (by omega), wadd_eq (x := 6 * x) (by omega) (by omega), zG_t (by omega), zG_t (by omega), zG_t (by omega), zG_t (by omega), t4, t5]
                          by_cases b2 : m1 25 (6 * wxor x (wshl 1 p) + p) ≤ m1 25 (6 * x + p)
                          · rw [if_pos b2, if_pos b2]
                            exact nx
                          · rw [if_neg b2, if_neg b2]
                            exact ⟨0, Or.inl rfl, rfl, rfl⟩
                        · have e65 : F65 C p = some 0 := by
                            unfold F65
                            rw [if_pos b1]
                          rw [e65]
                          simp only [Option.bind_some, z00]
                          exact nx
                exact kk zFu zFu 0 (by decide) (by omega) (by omega) (by omega)
              obtain ⟨b, b0, b1, b2⟩ := rest
              rw [b1, b2]
              simp only [Option.bind_some]
              rcases b0 with b0 | b0
              · subst b0
                simp only [z00, zn00]
                exact ih f' many (x + 1) h1 m1 g e hC hb (by omega) (by omega) (by omega) (by omega) (by omega) (by omega)
              · subst b0
                simp only [z10, zn10]
                by_cases v : many = k
                · rw [if_neg (fun z => z v : ¬ ¬ many = k), if_neg (fun z => z v : ¬ ¬ many = k)]
                  exact ⟨x, rfl, rfl, fun z => by omega⟩
                · rw [if_pos v, if_pos v]
                  exact ih f' (many + 1) (x + 1) h1 m1 g e hC hb (by omega) (by omega) (by omega) (by omega) (by omega) (by omega)
            · simp only [if_neg w, z00]
              by_cases v : C < x
              · obtain ⟨r, y1, y2, y3⟩ := ih (f' + 1) many (x + 1) h1 m1 g e hC hb (by omega) (by omega) (by omega) (by omega) (by omega) (by omega)
                refine ⟨r, y1, ?_, y3⟩
                rw [F250_1, if_pos (show C < x + 1 by omega)] at y2
                rw [if_pos v]
                exact y2
              · rw [if_neg v, if_pos w]
                unfold F250_3
                rw [ex]
                exact ih f' many (x + 1) h1 m1 g e hC hb (by omega) (by omega) (by omega) (by omega) (by omega) (by omega)
    -- the first loop
    have k1 : ∀ (f f' : Nat) (x : Int) (h1 : zHC) (m1 : zHM), RG h1 m1 → (∀ j, m1 14 j = hm 14 j) → F105 0 h1 = some C → (∀ y, 0 ≤ y → y < x → wand y (wxor C (-1)) = 0 → ∀ q, 0 ≤ q → q < hm 14 3 → h1 716 0 (y * 6 + q) = m1 25 (6 * y + q)) → RG hc m1 → 0 ≤ x → x ≤ 64 → 64 - x < f → 64 - x < f' → ∃ r hh mm, F107_0 f n k x h1 = some (r, hh) ∧ F250_0 f' n k C x m1 = some (r, mm) ∧ RG hh mm ∧ RG hc mm ∧ (k < -1 → r = -1) := by
      intro f
      induction f with
      | zero => intro f' x h1 m1 g e hC hb gg x0 x1 g1 g2; omega
      | succ f ih =>
        intro f' x h1 m1 g e hC hb gg x0 x1 g1 g2
        cases f' with
        | zero => omega
        | succ f' =>
          have ex : wadd x 1 = x + 1 := wadd_eq (by omega) (by omega)
          rw [F107_0, F250_0]
          by_cases u : 64 ≤ x
          · rw [if_pos u, if_pos (show C < x by omega)]
            obtain ⟨r, y1, y2, y3⟩ := k2 zFu zFu 0 0 h1 m1 g e hC (fun y y0 y1 => hb y y0 (by omega)) (by decide) (by decide) (by decide) (by decide) (by omega) (by omega)
            exact ⟨r, h1, m1, y1, y2, g, gg, y3⟩
          · rw [if_neg u, F104_s hC]
            simp only [Option.bind_some]
            unfold F107_2
            rw [ex]
            by_cases w : wand x (wxor C (-1)) = 0
            · obtain ⟨s1, s2⟩ := z_sub x0 (by omega) c3 c4 w
              rw [if_neg (show ¬ C < x by omega), if_neg (fun z => z w : ¬ ¬ wand x (wxor C (-1)) = 0)]
              simp only [if_pos w, z10]
              unfold F250_2
              rw [ex]
              obtain ⟨h2, h3, m3, d1, d2, d3, d4, d5, d6, d7, d8⟩ := P_set (x := x) (n := n) (C := C) g (by omega) x0 (by omega) hC c3 c4 (fun p p0 p1 => by rw [e, e]; exact c5' p p0 p1) w
              rw [d1, d3]
              simp only [Option.bind_some]
              rw [d2]
              simp only [Option.bind_some]
              have g' := RG_sc g d5 d6
              have e' : ∀ j, m3 14 j = hm 14 j := fun j => by rw [d6 14 j (by omega)]; exact e j
              refine ih f' (x + 1) h3 m3 g' e' (F105_keep g g' (fun j => by rw [e', e]) hC) (fun y y0 y1 y2 q q0 q1 => ?_) (RG_sc gg scC_refl d6) (by omega) (by omega) (by omega) (by omega)
              by_cases v : y = x
              · subst v
                obtain ⟨v, t1, t2, t3⟩ := d8 q q0 (by rw [e]; exact q1)
                rw [t2, t3]
              · obtain ⟨t1, t2⟩ := d7 (y * 6 + q) (by omega)
                have t3 := (d7 (6 * y + q) (by omega)).2
                rw [t1, t3]
                exact hb y y0 (by omega) y2 q q0 q1
            · simp only [if_neg w, z00]
              have hb' : ∀ y, 0 ≤ y → y < x + 1 → wand y (wxor C (-1)) = 0 → ∀ q, 0 ≤ q → q < hm 14 3 → h1 716 0 (y * 6 + q) = m1 25 (6 * y + q) := by
                intro y y0 y1 y2
                by_cases v : y = x
                · subst v; exact absurd y2 w
                · exact hb y y0 (by omega) y2
              by_cases v : C < x
              · obtain ⟨r, hh, mm, y1, y2, y3⟩ := ih (f' + 1) (x + 1) h1 m1 g e hC hb' gg (by omega) (by omega) (by omega) (by omega)
                refine ⟨r, hh, mm, y1, ?_, y3⟩
                rw [F250_0, if_pos (show C < x + 1 by omega)] at y2
                rw [if_pos v]
                exact y2
              · rw [if_neg v, if_pos w]
                unfold F250_2
                rw [ex]
                exact ih f' (x + 1) h1 m1 g e hC hb' gg (by omega) (by omega) (by omega) (by omega)
    obtain ⟨r, hh, mm, y1, y2, y3, y4, y5⟩ := k1 zFu zFu 0 hc _ h0 e14 c1 (fun y y0 y1 => by omega) h0 (by decide) (by decide) (by omega) (by omega)
    by_cases v : -1 ≤ k
    · rw [if_pos v]
      exact ⟨r, hh, mm, y1, y2, y3⟩
    · rw [if_neg v]
      exact ⟨-1, hc, mm, rfl, by rw [y2, y5 (by omega)], y4⟩
  · simp only [if_neg q3, z00, zn00]
    exact ⟨_, _, _, rfl, rfl, h0⟩
