/-! Pieces: all that comes of a saying, and of a cliff. -/
theorem zQ_RVC {h h' : zHC} {m m' : zHM} (f1 : ∀ r n j, ¬ (64 ≤ r ∧ r ≤ 72 ∧ n = 1) → h' r n j = h r n j) (f2 : ∀ r j, ¬ (30 ≤ r ∧ r ≤ 33) → m' r j = m r j) (hV : RVC h m) : RVC h' m' := RVC_keep (fun r j g => f1 r 0 j (by omega)) (fun j _ _ => f2 14 j (by omega)) (fun j => f2 19 j (by omega)) hV
theorem F95_s {h : zHC} {m : zHM} {C o f : Int} (hV : RVC h m) (C0 : 0 ≤ C) (C1 : C < m 14 2) (o0 : 0 ≤ o) (o1 : o < m 14 2) (f0 : 1 ≤ f) (f1 : f ≤ 9) : F95 0 C o f h = some (if f < zD (m 14 (7 + 3 * C)) (m 14 (7 + 3 * o)) then 0 else if 0 < f - 1 - zD (m 14 (7 + 3 * C)) (m 14 (7 + 3 * o)) / 2 then f - 1 - zD (m 14 (7 + 3 * C)) (m 14 (7 + 3 * o)) / 2 else 0) := by
  have w6 := hV.1.2.2.2.2.2.2.2.1
  unfold WN at w6
  have wC := hV.1.2.2.2.2.2.2.2.2.1 C C0 C1
  have wo := hV.1.2.2.2.2.2.2.2.2.1 o o0 o1
  have r := zD_rng (a := m 14 (7 + 3 * C)) (b := m 14 (7 + 3 * o)) (by omega) (by omega) (by omega) (by omega)
  unfold F95
  rw [(hV.1.2.1 C C0 C1).1, (hV.1.2.1 o o0 o1).1, zG_t (by omega), zG_t (by omega), F83_s (by omega) (by omega) (by omega) (by omega), Option.bind_some, wdiv_eq (by omega) (by omega) (by decide) (by decide), wsub_eq (x := f) (by omega) (by omega), wsub_eq (x := f - 1) (by omega) (by omega)]
  by_cases u : f < zD (m 14 (7 + 3 * C)) (m 14 (7 + 3 * o))
  · rw [if_pos u, if_pos u]
  · rw [if_neg u, if_neg u]
theorem Q_on {T H C C' R f v5 : Int} {k0 : Int → Int → zHM → Option zHM} (T0 : 0 ≤ T) (T1 : T ≤ 200) (C0 : 0 ≤ C) (f0 : 1 ≤ f) (f1 : f ≤ 9) (H0 : T ≤ H) (H1 : H ≤ T + 240) : ∀ (N N' : Nat) (o : Int) (h : zHC) (m : zHM), RVC h m → zQ h m T H C' R → C < m 14 2 → m 30 C = H → m 32 C = 1 → h 64 1 0 = H → 0 ≤ o → o ≤ m 14 2 → m 14 2 - o < N → m 14 2 - o < N' → ∃ h' m', F92_1 N 1 0 0 C f o h = some h' ∧ F264_8 k0 N' (m 14 2) v5 C f o m = k0 (m 14 2) (wadd v5 1) m' ∧ zQ h' m' T H C' R ∧ m' 30 C = H ∧ (∀ r n j, ¬ ((r = 68 ∨ r = 69) ∧ n = 1) → h' r n j = h r n j) ∧ (∀ r j, ¬ (r = 30 ∨ r = 31) → m' r j = m r j) ∧ (∀ c, 0 ≤ c → c < m 14 2 → m' 30 c = m 30 c ∨ H < m' 30 c) := by
  intro N
  induction N with
  | zero => intro N' o h m hV q Cn e30 e32 e64 o0 o1 g1; omega
  | succ N ih =>
    intro N' o h m hV q Cn e30 e32 e64 o0 o1 g1 g2
    cases N' with
    | zero => omega
    | succ N' =>
      have w6 := hV.1.2.2.2.2.2.2.2.1
      unfold WN at w6
      have eN : h 578 0 0 = m 14 2 := hV.1.1.2.2.1
      rw [F92_1, F264_8, eN]
      by_cases u : m 14 2 ≤ o
      · rw [if_pos u, if_pos u]
        unfold F264_9
        exact ⟨h, m, rfl, rfl, q, e30, fun _ _ _ _ => rfl, fun _ _ _ => rfl, fun _ _ _ => Or.inl rfl⟩
      · have o2 : o < m 14 2 := by omega
        have next : ∃ h' m', F92_1 N 1 0 0 C f (o + 1) h = some h' ∧ F264_8 k0 N' (m 14 2) v5 C f (o + 1) m = k0 (m 14 2) (wadd v5 1) m' ∧ zQ h' m' T H C' R ∧ m' 30 C = H ∧ (∀ r n j, ¬ ((r = 68 ∨ r = 69) ∧ n = 1) → h' r n j = h r n j) ∧ (∀ r j, ¬ (r = 30 ∨ r = 31) → m' r j = m r j) ∧ (∀ c, 0 ≤ c → c < m 14 2 → m' 30 c = m 30 c ∨ H < m' 30 c) := ih N' (o + 1) h m hV q Cn e30 e32 e64 (by omega) (by omega) (by omega) (by omega)
        have wC := hV.1.2.2.2.2.2.2.2.2.1 C C0 Cn
        have wo := hV.1.2.2.2.2.2.2.2.2.1 o o0 o2
        have r := zD_rng (a := m 14 (7 + 3 * C)) (b := m 14 (7 + 3 * o)) (by omega) (by omega) (by omega) (by omega)
        rw [if_neg u, if_neg u, if_neg (show ¬ f ≤ 0 by omega), F229_s C0 (by omega), F229_s o0 (by omega), Option.bind_some, Option.bind_some, F230_s (by omega) (by omega) (by omega) (by omega), Option.bind_some]
        unfold F92_2 F264_10
        rw [wadd_eq (x := o) (y := 1) (by omega) (by omega)]
        by_cases v : o = C
        · rw [if_pos v, if_pos v]
          exact next
        · rw [if_neg v, if_neg v, F95_s hV C0 Cn o0 o2 f0 f1, Option.bind_some, wdiv_eq r.1 (by omega) (by decide) (by decide), wsub_eq (x := f) (y := 1) (by omega) (by omega), wsub_eq (x := f - 1) (by omega) (by omega)]
          by_cases far : f < zD (m 14 (7 + 3 * C)) (m 14 (7 + 3 * o))
          · rw [if_pos far, if_pos far, F85_0s (by decide) (by decide) o0 (by omega) (by decide), Option.bind_some]
            exact next
          · rw [if_neg far, if_neg far]
            by_cases lo : 0 < f - 1 - zD (m 14 (7 + 3 * C)) (m 14 (7 + 3 * o)) / 2
            · have b2 : f - 1 - zD (m 14 (7 + 3 * C)) (m 14 (7 + 3 * o)) / 2 ≤ 9 := by omega
              rw [if_pos lo, if_neg (show ¬ f - 1 - zD (m 14 (7 + 3 * C)) (m 14 (7 + 3 * o)) / 2 ≤ 0 by omega), zG_t (show 0 ≤ C ∧ C < 6 by omega), F232_s o0 (by omega), Option.bind_some, e30, wadd_eq (x := H) (by omega) (by omega)]
              have mask : m 32 o = 0 → ∃ S : Nat, S < 2 ^ (m 14 2).toNat ∧ S.testBit o.toNat = true ∧ (∀ e, 0 ≤ e → e < m 14 2 → S.testBit e.toNat = true → e = o ∨ m 32 e = 1) ∧ H + m 14 (7 + 3 * o + 1) - T = zDl m S ∧ zDl m S ≤ 240 := by
                intro g0
                obtain ⟨S, s1, s2, s3, s4⟩ := q.2.2.2.2.2.2 C C0 Cn (by omega)
                have sb : S.testBit o.toNat = false := by
                  cases hb : S.testBit o.toNat with
                  | false => rfl
                  | true =>
                    rcases s3 o o0 o2 hb with z | z
                    · exact absurd z v
                    · omega
                obtain ⟨b1, b2, b3⟩ := zbit_add (n := (m 14 2).toNat) (o := o.toNat) (by omega) (by omega) s1 sb
                refine ⟨S + 2 ^ o.toNat, b1, b2, fun e z0 z1 z2 => ?_, ?_, zDl_rng hV.1.2.2.2.2.2.2.2.2.1 (by omega) (by omega)⟩
                · by_cases w : e = o
                  · exact Or.inl w
                  · rw [b3 e.toNat (by omega) (by omega)] at z2
                    rcases s3 e z0 z1 z2 with z | z
                    · subst z; exact Or.inr e32
                    · exact Or.inr z
                · rw [zDl_add (by omega) o0 o2 s1 sb, ← s4, e30]
                  omega
              obtain ⟨h1, m1, a1, a2, a3, a4, a5, a6⟩ := Q_offer (d := m 14 (7 + 3 * o + 1)) q (by omega) T0 T1 o0 o2 (hV.1.2.1 o o0 o2).2.1 (by omega) (by omega) e64 H0 H1 (show 1 ≤ f - 1 - zD (m 14 (7 + 3 * C)) (m 14 (7 + 3 * o)) / 2 by omega) b2 mask
              rw [a1, a2, Option.bind_some, Option.bind_some]
              have z14 : m1 14 2 = m 14 2 := a5 14 2 (by omega)
              have e30' : m1 30 C = H := by rw [a5 30 C (fun z => v z.2.symm)]; exact e30
              have e32' : m1 32 C = 1 := by rw [a5 32 C (by omega)]; exact e32
              have e64' : h1 64 1 0 = H := by rw [a4 64 1 0 (by omega)]; exact e64
              have on' : o + 1 ≤ m 14 2 := by omega
              have ga : m 14 2 - (o + 1) < N := by omega
              have gb : m 14 2 - (o + 1) < N' := by omega
              have oo : 0 ≤ o + 1 := by omega
              rw [← z14] at on' ga gb
              have R1 := ih N' (o + 1) h1 m1 (zQ_RVC (fun r n j g => a4 r n j (by omega)) (fun r j g => a5 r j (by omega)) hV) a3 (by rw [z14]; exact Cn) e30' e32' e64' oo on' ga gb
              rw [z14] at R1
              obtain ⟨h2, m2, b1, b2, b3, b4, b5, b6, b7⟩ := R1
              refine ⟨h2, m2, b1, b2, b3, b4, fun r n j g => by rw [b5 r n j g, a4 r n j (by omega)], fun r j g => by rw [b6 r j g, a5 r j (by omega)], fun c c0 c1 => ?_⟩
              rcases b7 c c0 c1 with z | z
              · by_cases w : c = o
                · subst w
                  rcases a6 with y | y
                  · exact Or.inl (z.trans y)
                  · exact Or.inr (by omega)
                · exact Or.inl (by rw [z, a5 30 c (by omega)])
              · exact Or.inr z
            · rw [if_neg lo, if_pos (show f - 1 - zD (m 14 (7 + 3 * C)) (m 14 (7 + 3 * o)) / 2 ≤ 0 by omega), F85_0s (by decide) (by decide) o0 (by omega) (by decide), Option.bind_some]
              exact next
theorem zDl_0 {m : zHM} : zDl m 0 = 0 := by
  have p : ∀ n : Nat, zsum (fun _ : Int => (0 : Int)) n = 0 := by
    intro n
    induction n with
    | zero => rfl
    | succ n ih => unfold zsum; rw [ih]; rfl
  unfold zDl
  rw [zsum_cong (g := fun _ => 0) (fun j _ _ => by rw [if_neg (by rw [Nat.zero_testBit]; decide)])]
  exact p _
/-- when it is given back next -/
def zCS (h : zHC) (H : Int) : Prop := (∀ c, 0 ≤ c → c < 6 → H < h 68 1 c → h 72 1 0 ≤ h 68 1 c) ∧ (h 72 1 0 = 1000000 ∨ ∃ c, 0 ≤ c ∧ c < 6 ∧ h 68 1 c = h 72 1 0 ∧ H < h 72 1 0)
theorem Q_soon {h : zHC} {m : zHM} {T H C R : Int} (q : zQ h m T H C R) (T1 : T ≤ 200) (e64 : h 64 1 0 = H) : ∃ h', F86 1 0 h = some h' ∧ zCS h' H ∧ ∀ r n j, ¬ (r = 72 ∧ n = 1 ∧ j = 0) → h' r n j = h r n j := by
  have hd : ∀ c, 0 ≤ c → c < 6 → h 68 1 (0 * 6 + c) < 1000000 := by
    intro c c0 c1
    rw [Int.zero_mul, Int.zero_add]
    by_cases u : c < m 14 2
    · have w := q.1 c c0 u
      omega
    · have w := q.2.1 c (by omega) c1
      omega
  obtain ⟨h', a1, a2, a3⟩ := F86_s (h := h) (i := 1) (k := 0) (by decide) (by decide) e64 hd
  unfold CS at a2
  simp only [Int.zero_mul, Int.zero_add] at a2
  exact ⟨h', a1, a2, a3⟩
theorem zQ_h {h h' : zHC} {m : zHM} {T H C R : Int} (q : zQ h m T H C R) (f : ∀ r j, (r = 66 ∨ r = 68 ∨ r = 69 ∨ r = 71) → h' r 1 j = h r 1 j) : zQ h' m T H C R := by
  obtain ⟨q1, q2, q3, q4, q5, q6, q7⟩ := q
  refine ⟨fun c c0 c1 => ?_, fun c c0 c1 => ?_, q3, q4, ?_, fun x y z z1 => ?_, q7⟩
  · rw [f 68 c (by omega), f 69 c (by omega)]
    exact q1 c c0 c1
  · rw [f 68 c (by omega)]
    exact q2 c c0 c1
  · rw [f 66 0 (by omega)]
    exact q5
  · have l : ∀ j, h' 71 1 j = h 71 1 j := fun j => f 71 j (by omega)
    simp only [l, f 66 0 (by omega)]
    exact q6 x y z z1
theorem Q_dir {T x l : Int} (T0 : 0 ≤ T) (T1 : T ≤ 200) (x0 : 0 ≤ x) (x1 : x < 100) (l0 : 1 ≤ l) (l1 : l ≤ 9) : ∀ (N N' : Nat) (o : Int) (h : zHC) (m : zHM), RVC h m → zQ h m T T 0 0 → h 64 1 0 = T → 0 ≤ o → o ≤ m 14 2 → m 14 2 - o < N → m 14 2 - o < N' → ∃ h' m', F79_0 N 1 0 x l 0 o h = some (0, h') ∧ F264_1 N' x T l (m 14 2) o m = F264_2 zFu (m 14 2) 0 m' ∧ zQ h' m' T T 0 0 ∧ zCS h' T ∧ (∀ r n j, ¬ ((r = 68 ∨ r = 69 ∨ r = 72) ∧ n = 1) → h' r n j = h r n j) ∧ (∀ r j, ¬ (r = 30 ∨ r = 31) → m' r j = m r j) := by
  intro N
  induction N with
  | zero => intro N' o h m hV q e64 o0 o1 g1; omega
  | succ N ih =>
    intro N' o h m hV q e64 o0 o1 g1 g2
    cases N' with
    | zero => omega
    | succ N' =>
      have w6 := hV.1.2.2.2.2.2.2.2.1
      unfold WN at w6
      have eN : h 578 0 0 = m 14 2 := hV.1.1.2.2.1
      have hW := hV.1.2.2.2.2.2.2.2.2.1
      rw [F79_0, F264_1, eN]
      by_cases u : m 14 2 ≤ o
      · rw [if_pos u, if_pos u]
        obtain ⟨h', a1, a2, a3⟩ := Q_soon q T1 e64
        rw [a1, Option.bind_some]
        exact ⟨h', m, rfl, rfl, zQ_h q (fun r j g => a3 r 1 j (by omega)), a2, fun r n j g => a3 r n j (by omega), fun _ _ _ => rfl⟩
      · have o2 : o < m 14 2 := by omega
        have wo := hW o o0 o2
        have rg := zDir_rng hW o0 o2 x0 x1 (by omega) l1
        rw [if_neg u, if_neg u, F82_s hV.1.2.1 hW (by omega) o0 o2 x0 x1 (by omega) l1, F259_s hW (by omega) o0 o2 x0 x1 (by omega) l1, Option.bind_some, Option.bind_some]
        unfold F264_3
        rw [wadd_eq (x := o) (y := 1) (by omega) (by omega)]
        by_cases v : zDir (m 14) o x l ≤ 0
        · rw [if_pos v, F85_0s (by decide) (by decide) o0 (by omega) (by omega), Option.bind_some]
          exact ih N' (o + 1) h m hV q e64 (by omega) (by omega) (by omega) (by omega)
        · rw [if_neg v, F232_s o0 (by omega), Option.bind_some, Option.bind_some, wadd_eq (x := T) (by omega) (by omega)]
          have mask : m 32 o = 0 → ∃ S : Nat, S < 2 ^ (m 14 2).toNat ∧ S.testBit o.toNat = true ∧ (∀ e, 0 ≤ e → e < m 14 2 → S.testBit e.toNat = true → e = o ∨ m 32 e = 1) ∧ T + m 14 (7 + 3 * o + 1) - T = zDl m S ∧ zDl m S ≤ 240 := by
            intro _
            have sb : (0 : Nat).testBit o.toNat = false := Nat.zero_testBit _
            have s1 : 0 < 2 ^ (m 14 2).toNat := Nat.two_pow_pos _
            obtain ⟨b1, b2, b3⟩ := zbit_add (n := (m 14 2).toNat) (o := o.toNat) (by omega) (by omega) s1 sb
            refine ⟨0 + 2 ^ o.toNat, b1, b2, fun e z0 z1 z2 => ?_, ?_, zDl_rng hW (by omega) (by omega)⟩
            · by_cases w : e = o
              · exact Or.inl w
              · rw [b3 e.toNat (by omega) (by omega), Nat.zero_testBit] at z2
                cases z2
            · rw [zDl_add (by omega) o0 o2 s1 sb, zDl_0]
              omega
          obtain ⟨h1, m1, a1, a2, a3, a4, a5, a6⟩ := Q_offer (d := m 14 (7 + 3 * o + 1)) q (by omega) T0 T1 o0 o2 (hV.1.2.1 o o0 o2).2.1 (by omega) (by omega) e64 (Int.le_refl T) (by omega) (show 1 ≤ zDir (m 14) o x l by omega) rg.2 mask
          rw [a1, a2, Option.bind_some, Option.bind_some]
          have z14 : m1 14 2 = m 14 2 := a5 14 2 (by omega)
          have R1 := ih N' (o + 1) h1 m1 (zQ_RVC (fun r n j g => a4 r n j (by omega)) (fun r j g => a5 r j (by omega)) hV) a3 (by rw [a4 64 1 0 (by omega)]; exact e64) (by omega) (by omega) (by omega) (by omega)
          rw [z14] at R1
          obtain ⟨h2, m2, b1, b2, b3, b4, b5, b6⟩ := R1
          exact ⟨h2, m2, b1, b2, b3, b4, fun r n j g => by rw [b5 r n j g, a4 r n j (by omega)], fun r j g => by rw [b6 r j g, a5 r j (by omega)]⟩
