/-! speak() and sayIt(). -/
theorem zsum_succ {f : Int → Int} {n : Nat} : zsum f (n + 1) = zsum f n + f n := rfl
theorem zcnt_0 {f : Int → Int} {s : Int} {n : Nat} (h : ∀ j : Int, 0 ≤ j → j < n → ¬ f j = s) : zcnt f s n = 0 := by
  induction n with
  | zero => rfl
  | succ n ih =>
    unfold zcnt
    rw [ih (fun j h0 h1 => h j h0 (by omega)), if_neg (h n (by omega) (by omega))]
    rfl
def mfE (m m' : zHM) : Prop := ∀ r j, ¬ (r = 14 ∧ 216 ≤ j ∧ j < 997) → m' r j = m r j
theorem P_says {h : zHC} {m : zHM} {i v σ p w l : Int} {nm : Int → Int} (hI : CI h m i v σ nm) (hs : m 14 216 < 30) (p0 : 0 ≤ p) (p1 : p < m 14 3) (w0 : 1 ≤ w) (w1 : w ≤ 99) (l0 : 1 ≤ l) (l1 : l ≤ 9) : ∃ h' m', F76 i v p w l h = some (h 65 i 0, h') ∧ F227 p w l m = some (m 14 216, m') ∧ CI h' m' i v σ nm ∧ h' 65 i 0 = h 65 i 0 + 1 ∧ m' 14 216 = m 14 216 + 1 ∧ h' 66 i 0 = h 66 i 0 ∧ (∀ r n j, ¬ (n = i ∧ 64 ≤ r ∧ r ≤ 72) → h' r n j = h r n j) ∧ mfE m m' := by
  obtain ⟨hV, hR, hE, hL, hW⟩ := hI
  obtain ⟨n0, n1, hq⟩ := CW_n hW
  obtain ⟨hN, hC, hP, hM, hF, hS, hQ, hVW⟩ := id hV
  obtain ⟨r1, r2, r3, r4, r5, r6, r7⟩ := hR
  obtain ⟨⟨c1, c2⟩, ⟨c3, c4⟩, c5, c6, c7⟩ := hW
  have w6 := hVW.1
  unfold WN at w6
  have big := zFu_big
  obtain ⟨x0, x1, x2⟩ := r6 p p0 p1
  have zr := zLoud_rng (f := m 14 (97 + m 14 (210 + p))) (l := l) (by omega) l1
  obtain ⟨h1, a1, a2, a3, a4, a5, a6, a7, a8, a9, a10, a11, a12⟩ := F79_pre (h := h) (i := i) (v := v) (p := p) (x := m 14 (210 + p)) (w := w) (l := zLoud (m 14 (97 + m 14 (210 + p))) l) (k := h 65 i 0) rfl r4 (by omega)
  obtain ⟨m1, b1, b2, b3, b4, b5, b6, b7, b8, b9, b10, b11, b12⟩ := F227_pre (m := m) (p := p) (w := w) (l := l) (s := m 14 216) (x := m 14 (210 + p)) rfl c3 hs p0 (by omega) rfl x1 x2 (by omega) l1
  have e209 : m1 14 209 = m 14 209 := b12 _ _ (by omega)
  have a209 : ∀ k, 0 ≤ k → k < 209 → m1 14 k = m 14 k := fun k g0 g1 => b12 _ _ (by omega)
  have hh1 : ∀ r j, 576 ≤ r → r ≤ 595 → h1 r v j = h r v j := fun r j g0 g1 => a12 r v j (by omega)
  have hV1 := VR_keep (nm' := nm) hh1 a209 (fun _ _ _ => rfl) hV
  obtain ⟨hN1, hC1, hP1, hM1, hF1, hS1, hQ1, hVW1⟩ := id hV1
  have e2 : m1 14 2 = m 14 2 := a209 2 (by decide) (by decide)
  have cd1 : CD h1 i (h 65 i 0) (m1 14) (m 14 216) := by
    intro c g0 g1
    rw [a11 _ (by omega) (by omega), b11 _ (by omega) (by omega), if_pos rfl]
    exact ⟨rfl, fun q => absurd rfl q⟩
  have sd1 : SD (m1 14) (m 14 216) (m 14 209) 6 := by
    intro c g0 g1
    rw [b11 (457 + 18 * m 14 216 + 3 * c) (by omega) (by omega), b11 (457 + 18 * m 14 216 + 3 * c + 2) (by omega) (by omega), if_neg (by omega)]
    exact ⟨Int.le_refl _, by omega, fun q => absurd rfl q, rfl, fun _ => rfl⟩
  obtain ⟨h2, m2, z1, z2, z3, z4, z5, z6⟩ := U_offers (h := h1) (m := m1) (i := i) (v := v) (k := h 65 i 0) (s := m 14 216) (H := m 14 209) (C := 6) (x := m 14 (210 + p)) (l := zLoud (m 14 (97 + m 14 (210 + p))) l) r4 (by omega) c3 hs x1 x2 zr.1 zr.2 c1 (by omega) hN1.2.2.1 (by omega) (by omega) hC1 hVW1.2.1 (by rw [a12 _ _ _ (by omega)]; exact r1) e209 zFu zFu 0 h1 m1 (by decide) (by omega) (by omega) (by omega) cd1 sd1 (fun _ _ _ _ => rfl) (fun _ _ _ => rfl)
  have hda : ∀ c, 0 ≤ c → c < 6 → h2 68 i (h 65 i 0 * 6 + c) < 1000000 := by
    intro c g0 g1
    obtain ⟨d1, d2⟩ := z3 c g0 g1
    obtain ⟨u1, u2, u3, u4, u5⟩ := z4 c g0 g1
    rw [d1]
    split <;> omega
  obtain ⟨h3, f1, f2, f3⟩ := F86_s (h := h2) (i := i) (k := h 65 i 0) (H := m 14 209) r4 (by omega) (by rw [z5 _ _ _ (by omega), a12 _ _ _ (by omega)]; exact r1) hda
  have E65 : h3 65 i 0 = h 65 i 0 + 1 := by rw [f3 _ _ _ (by omega), z5 _ _ _ (by omega), a2]
  have E216 : m2 14 216 = m 14 216 + 1 := by rw [z6 _ _ (by omega), b2]
  have E66 : h3 66 i 0 = h 66 i 0 := by rw [f3 _ _ _ (by omega), z5 _ _ _ (by omega), a12 _ _ _ (by omega)]
  have E997 : m2 14 997 = m 14 997 := by rw [z6 _ _ (by omega), b12 _ _ (by omega)]
  have E209 : m2 14 209 = m 14 209 := by rw [z6 _ _ (by omega), e209]
  have E2 : m2 14 2 = m 14 2 := by rw [z6 _ _ (by omega), e2]
  have fc : ∀ r n j, ¬ (n = i ∧ ((r = 65 ∧ j = 0) ∨ ((r = 68 ∨ r = 69) ∧ h 65 i 0 * 6 ≤ j ∧ j < h 65 i 0 * 6 + 6) ∨ (r = 70 ∧ h 65 i 0 * 8 ≤ j ∧ j < h 65 i 0 * 8 + 8) ∨ (r = 72 ∧ j = h 65 i 0))) → h3 r n j = h r n j := fun r n j hne => by rw [f3 r n j (by omega), z5 r n j (by omega), a12 r n j (by omega)]
  have fm : ∀ r j, ¬ (r = 14 ∧ (j = 216 ∨ (217 + 8 * m 14 216 ≤ j ∧ j < 225 + 8 * m 14 216) ∨ (457 + 18 * m 14 216 ≤ j ∧ j < 475 + 18 * m 14 216))) → m2 r j = m r j := fun r j hne => by rw [z6 r j (by omega), b12 r j (by omega)]
  have wr := wshl_rng p0 (by omega : p < 6)
  have fl : ∀ c, 0 ≤ c → c < 6 → m2 14 (457 + 18 * m 14 216 + 3 * c + 2) = 0 := by
    intro c g0 g1
    obtain ⟨u1, u2, u3, u4, u5⟩ := z4 c g0 g1
    rw [z6 _ _ (by omega), b11 _ (by omega) (by omega)]
  have sf2 : SF (m2 14) (m 14 216) := by
    unfold SF
    rw [fl 0 (by decide) (by decide), fl 1 (by decide) (by decide), fl 2 (by decide) (by decide), fl 3 (by decide) (by decide), fl 4 (by decide) (by decide), fl 5 (by decide) (by decide)]
    rw [z6 _ (217 + 8 * m 14 216) (by omega), z6 _ (217 + 8 * m 14 216 + 1) (by omega), z6 _ (217 + 8 * m 14 216 + 2) (by omega), z6 _ (217 + 8 * m 14 216 + 3) (by omega), z6 _ (217 + 8 * m 14 216 + 4) (by omega), z6 _ (217 + 8 * m 14 216 + 5) (by omega), z6 _ (217 + 8 * m 14 216 + 6) (by omega), z6 _ (217 + 8 * m 14 216 + 7) (by omega), b3, b4, b5, b6, b7, b8, b9, b10]
    exact ⟨⟨w0, w1⟩, ⟨p0, by omega⟩, ⟨c1, c2⟩, ⟨x1, x2⟩, zr, wr, by decide, by decide⟩
  refine ⟨h3, m2, ?_, ?_, ⟨VR_keep (fun r j g0 g1 => fc r v j (by omega)) (fun k g0 g1 => fm _ _ (by omega)) (fun _ _ _ => rfl) hV, ⟨?_, by rw [E65, E216]; omega, r3, by rw [E65]; omega, by rw [E66]; exact r5, ?_, ?_⟩, by rw [E66, E997]; exact hE, fun s0 => ?_, ⟨by rw [E209]; exact ⟨c1, c2⟩, by rw [E216]; omega, ?_, ?_⟩⟩, E65, E216, E66, fun r n j hne => fc r n j (by omega), fun r j hne => fm r j (by omega)⟩
  · unfold F76
    rw [zG_t (by omega), x0, F77_s hV x1 x2 (by omega) l1]
    simp only [Option.bind_some]
    rw [a1, z1, f1]
    rfl
  · rw [b1, z2]
  · rw [fc _ _ _ (by omega), E209]
    exact r1
  · intro q g0 g1
    rw [fm 14 3 (by omega)] at g1
    rw [fc _ _ _ (by omega), fm _ _ (by omega)]
    exact r6 q g0 g1
  · intro k g0 g1
    rw [E65] at g1
    rw [E209]
    by_cases u : k = h 65 i 0
    · subst u
      have es : σ + h 65 i 0 = m 14 216 := by omega
      rw [es]
      refine ⟨?_, ?_, f2⟩
      · intro q q0 q1
        have o : q = 0 ∨ q = 1 ∨ q = 2 ∨ q = 3 ∨ q = 4 ∨ q = 5 ∨ q = 6 ∨ q = 7 := by omega
        rw [f3 _ _ _ (by omega), z5 _ _ _ (by omega), z6 _ _ (by omega)]
        rcases o with o | o | o | o | o | o | o | o
        · subst o; rw [Int.add_zero, Int.add_zero, a3, b3]
        · subst o; rw [a4, b4]
        · subst o; rw [a5, b5]; exact r1
        · subst o; rw [a6, b6]
        · subst o; rw [a7, b7]
        · subst o; rw [a8, b8]
        · subst o; rw [a9, b9]
        · subst o; rw [a10, b10]
      · intro c q0 q1
        rw [f3 _ _ _ (by omega), f3 _ _ _ (by omega)]
        exact z3 c q0 q1
    · obtain ⟨t1, t2, t3⟩ := r7 k g0 (by omega)
      refine ⟨?_, ?_, ?_⟩
      · intro q q0 q1
        rw [fc _ _ _ (by omega), fm _ _ (by omega)]
        exact t1 q q0 q1
      · intro c q0 q1
        rw [fc _ _ _ (by omega), fc _ _ _ (by omega), fm _ _ (by omega), fm _ _ (by omega)]
        exact t2 c q0 q1
      · have e72 := fc 72 i k (by omega)
        refine ⟨fun c q0 q1 => ?_, ?_⟩
        · rw [fc _ _ _ (by omega), e72]
          exact t3.1 c q0 q1
        · rw [e72]
          rcases t3.2 with y | ⟨c, y1, y2, y3, y4⟩
          · exact Or.inl y
          · exact Or.inr ⟨c, y1, y2, by rw [fc _ _ _ (by omega)]; exact y3, y4⟩
  · obtain ⟨y1, y2⟩ := hL s0
    refine ⟨by rw [E66, E997]; exact y1, fun j j0 j1 q q0 q1 => ?_⟩
    rw [E997] at j1
    rw [fc _ _ _ (by omega), fm _ _ (by omega)]
    exact y2 j j0 j1 q q0 q1
  · intro s g0 g1
    rw [E216] at g1
    rw [E209]
    by_cases u : s = m 14 216
    · subst u
      exact ⟨z4, sf2⟩
    · obtain ⟨t1, t2⟩ := c5 s g0 (by omega)
      refine ⟨?_, ?_⟩
      · intro c q0 q1
        rw [fm _ (457 + 18 * s + 3 * c) (by omega), fm _ (457 + 18 * s + 3 * c + 1) (by omega), fm _ (457 + 18 * s + 3 * c + 2) (by omega), E2]
        exact t1 c q0 q1
      · unfold SF at *
        rw [fm _ (217 + 8 * s) (by omega), fm _ (217 + 8 * s + 1) (by omega), fm _ (217 + 8 * s + 2) (by omega), fm _ (217 + 8 * s + 3) (by omega), fm _ (217 + 8 * s + 4) (by omega), fm _ (217 + 8 * s + 5) (by omega), fm _ (217 + 8 * s + 6) (by omega), fm _ (217 + 8 * s + 7) (by omega), fm _ (457 + 18 * s + 3 * 0 + 2) (by omega), fm _ (457 + 18 * s + 3 * 1 + 2) (by omega), fm _ (457 + 18 * s + 3 * 2 + 2) (by omega), fm _ (457 + 18 * s + 3 * 3 + 2) (by omega), fm _ (457 + 18 * s + 3 * 4 + 2) (by omega), fm _ (457 + 18 * s + 3 * 5 + 2) (by omega)]
        exact t2
  · refine ⟨⟨by rw [E997]; exact n0, ?_⟩, ⟨?_, ?_⟩⟩
    · rw [E997, E216, c6.2, show (m 14 216 + 1).toNat = (m 14 216).toNat + 1 by omega, zsum_succ]
      rw [zsum_cong (f := fun s => m2 14 (217 + 8 * s + 6)) (g := fun s => m 14 (217 + 8 * s + 6)) (fun j j0 j1 => fm _ _ (by omega)), show (((m 14 216).toNat : Nat) : Int) = m 14 216 by omega, z6 _ _ (by omega), b9]
      omega
    · intro j j0 j1
      rw [E997] at j1
      rw [E216, E2, fm _ (998 + 5 * j) (by omega), fm _ (998 + 5 * j + 1) (by omega), fm _ (998 + 5 * j + 2) (by omega), fm _ (998 + 5 * j + 3) (by omega), fm _ (998 + 5 * j + 4) (by omega)]
      obtain ⟨y1, y2⟩ := c7.1 j j0 j1
      exact ⟨⟨y1.1, by omega⟩, y2⟩
    · intro s g0 g1
      rw [E216] at g1
      rw [E997, zcnt_cong (f := fun j => m2 14 (998 + 5 * j)) (g := fun j => m 14 (998 + 5 * j)) (fun j j0 j1 => fm _ _ (by omega))]
      by_cases u : s = m 14 216
      · subst u
        rw [z6 _ _ (by omega), b9]
        refine zcnt_0 (fun j j0 j1 => ?_)
        have := (c7.1 j j0 (by omega)).1
        omega
      · rw [fm _ _ (by omega)]
        exact c7.2 s g0 (by omega)
/-! shares -/
theorem F214_s {x p : Int} : F214 x p = F65 x p := rfl
theorem F64_s {x : Int} (h0 : 0 ≤ x) (h1 : x < 64) : ∃ r, F64 x = some r ∧ F215 x = some r ∧ 0 ≤ r ∧ r ≤ 6 ∧ (r = 0 → x = 0) := by
  have k : (List.range 64).all (fun q => decide (F64 (q : Int) = F215 (q : Int)) && (match F64 (q : Int) with
    | some r => decide (0 ≤ r ∧ r ≤ 6 ∧ (r = 0 → (q : Int) = 0))
    | none => false)) = true := by decide +kernel
  have e := z_all k (x := x) h0 (by omega)
  have e1 : ((x.toNat : Nat) : Int) = x := by omega
  rw [Bool.and_eq_true, e1] at e
  obtain ⟨e2, e3⟩ := e
  have e2 := of_decide_eq_true e2
  cases e4 : F64 x with
  | none => rw [e4] at e3; cases e3
  | some r =>
    rw [e4] at e3
    have e3 := of_decide_eq_true e3
    exact ⟨r, rfl, by rw [← e2, e4], e3⟩
theorem wand_sh {x p : Int} (h0 : 0 ≤ x) (h1 : x < 64) (p0 : 0 ≤ p) (p1 : p < 6) : 0 ≤ wand x (wsub (wshl 1 p) 1) ∧ wand x (wsub (wshl 1 p) 1) < 64 := by
  have k : (List.range 384).all (fun q => decide (0 ≤ wand ((q / 6 : Nat) : Int) (wsub (wshl 1 ((q % 6 : Nat) : Int)) 1) ∧ wand ((q / 6 : Nat) : Int) (wsub (wshl 1 ((q % 6 : Nat) : Int)) 1) < 64)) = true := by decide +kernel
  have e := of_decide_eq_true (z_all k (x := 6 * x + p) (by omega) (by omega))
  have e1 : (((6 * x + p).toNat / 6 : Nat) : Int) = x := by omega
  have e2 : (((6 * x + p).toNat % 6 : Nat) : Int) = p := by omega
  rw [e1, e2] at e
  exact e
theorem wand_0p {p : Int} (p0 : 0 ≤ p) (p1 : p < 6) : wand (wshr 0 p) 1 = 0 := by
  have k : (List.range 6).all (fun q => decide (wand (wshr 0 (q : Int)) 1 = 0)) = true := by decide +kernel
  have e := of_decide_eq_true (z_all k (x := p) p0 (by omega))
  have e1 : ((p.toNat : Nat) : Int) = p := by omega
  rw [e1] at e
  exact e
theorem F63_s {h : zHC} {i k w : Int} (k0 : 0 ≤ k) (k1 : k < 30) (w0 : 0 ≤ w) (w1 : w < 8) : F63 i k w h = some (h 70 i (k * 8 + w)) := by
  unfold F63
  rw [wmul_eq (by omega) (by omega), wadd_eq (by omega) (by omega), zG_t (by omega)]
theorem F213_s {m : zHM} {s w : Int} (s0 : 0 ≤ s) (s1 : s < 30) (w0 : 0 ≤ w) (w1 : w < 8) : F213 s w m = some (m 14 (217 + 8 * s + w)) := by
  unfold F213
  rw [wmul_eq (by omega) (by omega), wadd_eq (x := 217) (by omega) (by omega), wadd_eq (by omega) (by omega), zG_t (by omega)]
theorem L62 {h : zHC} {m : zHM} {i k s p : Int} (k0 : 0 ≤ k) (k1 : k < 30) (s0 : 0 ≤ s) (s1 : s < 30) (p0 : 0 ≤ p) (p1 : p < 6) (hF : CF h i k (m 14) s) (hS : SF (m 14) s) : ∃ r, F62 i p k h = some r ∧ F212 p s m = some r ∧ 0 ≤ r ∧ r ≤ 100 := by
  obtain ⟨t1, t2, t3, t4, t5, t6, t7, t8⟩ := hS
  have e5 := hF 5 (by decide) (by decide)
  have e0 := hF 0 (by decide) (by decide)
  unfold F62 F212
  rw [F63_s k0 k1 (by decide) (by decide), F213_s s0 s1 (by decide) (by decide), e5]
  simp only [Option.bind_some]
  obtain ⟨r, a1, a2, a3, a4, a5⟩ := F64_s (x := m 14 (217 + 8 * s + 5)) (by omega) t6.2
  obtain ⟨u1, u2⟩ := wand_sh (x := m 14 (217 + 8 * s + 5)) (p := p) (by omega) t6.2 p0 p1
  obtain ⟨q, b1, b2, b3, b4, b5⟩ := F64_s u1 u2
  have rn : ¬ r = 0 := fun w => by have := a5 w; omega
  rw [a1, F214_s]
  simp only [Option.bind_some]
  rw [if_neg rn]
  unfold F65
  by_cases w : wand (wshr (m 14 (217 + 8 * s + 5)) p) 1 = 1
  · rw [if_neg (fun x => x w)]
    simp only [Option.bind_some]
    rw [if_pos (by decide), if_pos (by decide), a2, b1, F63_s k0 k1 (by decide) (by decide), e0, F213_s s0 s1 (by decide) (by decide), Int.add_zero]
    simp only [Option.bind_some]
    rw [b2]
    simp only [Option.bind_some]
    simp only [zG_t rn]
    have d1 : wdiv (m 14 (217 + 8 * s)) r = m 14 (217 + 8 * s) / r := wdiv_eq (by omega) (by omega) (by omega) (by omega)
    have d2 : m 14 (217 + 8 * s) / r ≤ m 14 (217 + 8 * s) := Int.ediv_le_self r (by omega)
    have d3 : 0 ≤ m 14 (217 + 8 * s) / r := Int.ediv_nonneg (by omega) (by omega)
    rw [d1]
    unfold F62_0 F212_0
    rw [wadd_eq (y := 0) (by omega) (by omega), wadd_eq (y := 1) (by omega) (by omega)]
    split
    · exact ⟨_, rfl, rfl, by omega, by omega⟩
    · exact ⟨_, rfl, rfl, by omega, by omega⟩
  · rw [if_pos w]
    simp only [Option.bind_some]
    rw [if_neg (by decide), if_neg (by decide)]
    exact ⟨0, rfl, rfl, by decide, by decide⟩
theorem L101 {h : zHC} {m : zHM} {i p : Int} (p0 : 0 ≤ p) (p1 : p < 6) (hR : CR h i (m 14)) : ∃ r, F101 i p h = some r ∧ F211 p m = some r ∧ 0 ≤ r ∧ r ≤ 3000 := by
  obtain ⟨⟨r1, r2, r3, r4, r5, r6, r7⟩, hL, hW⟩ := hR
  obtain ⟨⟨c1, c2⟩, ⟨c3, c4⟩, c5, c6, c7⟩ := hW
  have key : ∀ (n n' : Nat) (k acc : Int), 0 ≤ k → k ≤ m 14 216 → m 14 216 - k < n → m 14 216 - k < n' → 0 ≤ acc → acc ≤ 100 * k → ∃ r, F101_0 h n i p acc k = some r ∧ F211_0 m n' p acc k = some r ∧ 0 ≤ r ∧ r ≤ 3000 := by
    intro n
    induction n with
    | zero => intro n' k acc k0 k1 g1 g2; omega
    | succ n ih =>
      intro n' k acc k0 k1 g1 g2 a0 a1
      cases n' with
      | zero => omega
      | succ n' =>
        rw [F101_0, F211_0, show h 65 i 0 = m 14 216 by omega]
        by_cases e : k = m 14 216
        · rw [if_pos (by omega), if_pos (by omega)]
          exact ⟨acc, rfl, rfl, a0, by omega⟩
        · have hk : ¬ m 14 216 ≤ k := by omega
          obtain ⟨t1, t2, t3⟩ := r7 k k0 (by omega)
          rw [show (0 : Int) + k = k by omega] at t1
          obtain ⟨q, z1, z2, z3, z4⟩ := L62 (h := h) (m := m) (i := i) (k := k) (s := k) (p := p) k0 (by omega) k0 (by omega) p0 p1 t1 (c5 k k0 (by omega)).2
          rw [if_neg hk, if_neg hk, z1, z2]
          simp only [Option.bind_some]
          rw [wadd_eq (x := acc) (by omega) (by omega), wadd_eq (x := k) (by omega) (by omega)]
          exact ih n' (k + 1) (acc + q) (by omega) (by omega) (by omega) (by omega) (by omega) (by omega)
  have big := zFu_big
  exact key zFu zFu 0 0 (by decide) c3 (by omega) (by omega) (by decide) (by decide)
