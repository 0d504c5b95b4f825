/-! claims() -/
theorem K_so {h : zHC} {m : zHM} {w p s : Int} (hR : CR h 0 (m 14)) (s0 : 0 ≤ s) (w0 : w = 7 ∨ w = 8 ∨ w = 9) : ∃ b, (b = 0 ∨ b = 1) ∧ F132 0 w p s h = some b ∧ ((F217 s m).bind fun r7 => if r7 = 0 then F269_1 m else if ¬ w = 7 then if ¬ w = 8 then (F213 s 7 m).bind fun r8 => (F214 r8 p).bind fun r9 => if r9 = 0 then F269_1 m else F269_2 m else (F213 s 1 m).bind fun r10 => if ¬ r10 = p then F269_1 m else F269_2 m else (F213 s 5 m).bind fun r11 => (F214 r11 p).bind fun r12 => if r12 = 0 then F269_1 m else F269_2 m) = if b = 0 then F269_1 m else F269_2 m := by
  obtain ⟨⟨r1, r2, r3, r4, r5, r6, r7⟩, hL, hW⟩ := hR
  have c34 := hW.2.1
  have e65 : h 65 0 0 = m 14 216 := by omega
  rw [E217 (m := m) (b := m 14 216) rfl, Option.bind_some]
  unfold F132
  rw [e65]
  by_cases q : s < m 14 216
  · obtain ⟨t1, t2, t3⟩ := r7 s s0 (by omega)
    rw [show (0 : Int) + s = s by omega] at t1
    have f1 := t1 1 (by decide) (by decide)
    have f5 := t1 5 (by decide) (by decide)
    have f7 := t1 7 (by decide) (by decide)
    rw [if_pos q, if_pos (show 0 ≤ s ∧ s < m 14 216 by omega), if_neg (show ¬ (1 : Int) = 0 by decide)]
    rcases w0 with u | u | u
    · rw [if_pos (show ¬ w = 8 by omega), if_neg (fun z => z u), if_neg (fun z => z u)]
      unfold F132_0
      rw [F63_s s0 (by omega) (by decide) (by decide), F213_s s0 (by omega) (by decide) (by decide), Option.bind_some, Option.bind_some, f5, F214_s]
      rcases F65_01 (x := m 14 (217 + 8 * s + 5)) (p := p) with v | v
      · rw [v, Option.bind_some, Option.bind_some, zG_t (Or.inl rfl)]
        exact ⟨0, Or.inl rfl, rfl, rfl⟩
      · rw [v, Option.bind_some, Option.bind_some, zG_t (Or.inr rfl)]
        exact ⟨1, Or.inr rfl, rfl, rfl⟩
    · rw [if_neg (fun z => z u), if_pos (show ¬ w = 7 by omega), if_neg (fun z => z u), F63_s s0 (by omega) (by decide) (by decide), F213_s s0 (by omega) (by decide) (by decide), Option.bind_some, Option.bind_some, f1]
      by_cases v : m 14 (217 + 8 * s + 1) = p
      · rw [if_neg (fun z => z v), if_neg (fun z => z v)]
        exact ⟨1, Or.inr rfl, rfl, rfl⟩
      · rw [if_pos v, if_pos v]
        exact ⟨0, Or.inl rfl, rfl, rfl⟩
    · rw [if_pos (show ¬ w = 8 by omega), if_pos (show ¬ w = 7 by omega), if_pos (show ¬ w = 7 by omega), if_pos (show ¬ w = 8 by omega)]
      unfold F132_0
      rw [F63_s s0 (by omega) (by decide) (by decide), F213_s s0 (by omega) (by decide) (by decide), Option.bind_some, Option.bind_some, f7, F214_s]
      rcases F65_01 (x := m 14 (217 + 8 * s + 7)) (p := p) with v | v
      · rw [v, Option.bind_some, Option.bind_some, zG_t (Or.inl rfl)]
        exact ⟨0, Or.inl rfl, rfl, rfl⟩
      · rw [v, Option.bind_some, Option.bind_some, zG_t (Or.inr rfl)]
        exact ⟨1, Or.inr rfl, rfl, rfl⟩
  · rw [if_neg q, if_neg (show ¬ (0 ≤ s ∧ s < m 14 216) by omega), if_pos rfl]
    exact ⟨0, Or.inl rfl, rfl, rfl⟩
def kfC (h h' : zHC) : Prop := ∀ r n j, ¬ ((322 ≤ r ∧ r ≤ 328) ∨ r = 0) → h' r n j = h r n j
def kfM (m m' : zHM) : Prop := ∀ r j, ¬ ((5 ≤ r ∧ r ≤ 13) ∨ r = 36 ∨ r = 37) → m' r j = m r j
def KI (h : zHC) (m : zHM) (line : Int) : Prop := TR h m ∧ h 322 0 0 = m 10 0 ∧ h 0 0 0 = m 37 0 ∧ m 36 0 = line ∧ 0 ≤ line ∧ line ≤ 30 ∧ RVC h m
theorem RVC_t {h h' : zHC} {m m' : zHM} (f1 : kfC h h') (f2 : kfM m m') (hV : RVC h m) : RVC h' m' := RVC_keep (fun r j g => f1 r 0 j (by omega)) (fun j _ _ => f2 14 j (by omega)) (fun j => f2 19 j (by omega)) hV
theorem K_line {h : zHC} {m : zHM} {line : Int} (hK : KI h m line) : (∃ h' m', F131 0 0 line h = some (1, h') ∧ F269 m = some (1, m') ∧ KI h' m' (line + 1) ∧ kfC h h' ∧ kfM m m') ∨ (∃ h' m', F131 0 0 line h = some (0, h') ∧ F269 m = some (0, m') ∧ FT h' m' ∧ kfC h h' ∧ kfM m m') := by
  obtain ⟨hT, hf, hw, hl, l0, l1, hV⟩ := hK
  have fail : ∀ k, (k = 1 ∨ ¬ m 7 0 = 1) → ∃ h' m', (F31 k h).bind (fun r1 => zG (r1.1 = 0 ∨ r1.1 = 1) (some (r1.1, r1.2))) = some (0, h') ∧ (F185 k m).bind (fun r1 => zG (r1.1 = 0 ∨ r1.1 = 1) (some (r1.1, r1.2))) = some (0, m') ∧ FT h' m' ∧ kfC h h' ∧ kfM m m' := by
    intro k hk
    obtain ⟨h', m', a1, a2, a3, a4, a5⟩ := L31 hT hk
    refine ⟨h', m', ?_, ?_, a3, fun r n j hne => a4 r n j (by omega), fun r j hne => a5 r j (by omega)⟩
    · rw [a1, Option.bind_some, zG_t (Or.inl rfl)]
    · rw [a2, Option.bind_some, zG_t (Or.inl rfl)]
  have main : ∀ w, (w = 7 ∨ w = 8 ∨ w = 9) → h 324 0 0 = 3 → h 326 0 0 = w → (∃ h' m', F131_1 0 0 line w h = some (1, h') ∧ F269_0 w m = some (1, m') ∧ KI h' m' (line + 1) ∧ kfC h h' ∧ kfM m m') ∨ (∃ h' m', F131_1 0 0 line w h = some (0, h') ∧ F269_0 w m = some (0, m') ∧ FT h' m' ∧ kfC h h' ∧ kfM m m') := by
    intro w w0 k3 kv
    have n7 : ¬ m 7 0 = 1 := by
      obtain ⟨-, hk, -, -⟩ := hT
      rcases hk with ⟨a, b, c⟩ | ⟨a, b, c⟩ | ⟨a, c⟩ | ⟨a, c, -⟩ | ⟨a, c, -⟩ | ⟨a, c, -⟩ | ⟨a, c, -⟩ <;> omega
    unfold F131_1 F269_0
    rw [if_pos (show ¬ w = -1 by omega), hl]
    by_cases q : line < 30
    · rw [if_pos q, if_pos (show ¬ line = 30 by omega)]
      obtain ⟨h1, m1, a1, a2, a3, a4, a5⟩ := L21 hT (by omega)
      rw [a1, a2, Option.bind_some, Option.bind_some, E191 a3, Option.bind_some]
      have hV1 : RVC h1 m1 := RVC_t (fun r n j hne => a4 r n j (by omega)) (fun r j hne => a5 r j (by omega)) hV
      have w6 := hV1.1.2.2.2.2.2.2.2.1
      unfold WN at w6
      unfold F43
      by_cases u : h1 324 0 0 = 2
      · rw [if_pos u, if_pos u, if_pos (show ¬ (1 : Int) = 0 by decide)]
        have hwr : WR (h1 327 0 0) (m1 12 0) := by
          obtain ⟨-, hk, -, -⟩ := a3
          rcases hk with ⟨a, b, c⟩ | ⟨a, b, c⟩ | ⟨a, c⟩ | ⟨a, c, d, -⟩ | ⟨a, c, -⟩ | ⟨a, c, -⟩ | ⟨a, c, -⟩
          · omega
          · omega
          · omega
          · exact d
          · omega
          · omega
          · omega
        obtain ⟨p, b1, b2, b3⟩ := L38b (h := h1) (m := m1) (v := 0) hV1.1.1.2.2.2.1 (by omega) (by omega) hV1.1.2.2.2.2.2.2.1.2 hwr
        rw [b1, b2, Option.bind_some, Option.bind_some]
        by_cases v : p = -1
        · obtain ⟨h', m', c1, c2, c3, c4, c5⟩ := L31 (k := 3) a3 (Or.inr (by have := (TR_kind a3).1.mp u; omega))
          refine Or.inr ⟨h', m', ?_, ?_, c3, fun r n j hne => by rw [c4 r n j (by omega), a4 r n j (by omega)], fun r j hne => by rw [c5 r j (by omega), a5 r j (by omega)]⟩
          · rw [if_neg (fun z => z v), c1, Option.bind_some, Option.bind_some, if_neg (fun z => z v)]
          · rw [if_neg (fun z => z v), c2, Option.bind_some, zG_t (Or.inl rfl)]
        · rw [if_pos v, Option.bind_some, if_pos v, if_pos v]
          obtain ⟨h2, m2, c1, c2, c3, c4, c5⟩ := L21 a3 (by omega)
          rw [c1, c2, Option.bind_some, Option.bind_some]
          unfold F186
          rcases L33 (lo := 0) (hi := 29) c3 with ⟨d1, d2, d3, d4, d5, d6⟩ | ⟨h', m', d1, d2, d3, d4, d5⟩
          · rw [d5, d6, Option.bind_some, Option.bind_some, if_pos (show ¬ (1 : Int) = 0 by decide), if_pos (show ¬ (1 : Int) = 0 by decide)]
            obtain ⟨h3, m3, e1, e2, e3, e4, e5⟩ := L21 (TR_told (x := m2 8 0) c3) (by omega)
            have m313 : m3 13 0 = m2 8 0 := by rw [e5 13 0 (by omega), mset_eq]
            have k1 : ∀ r n j, ¬ (324 ≤ r ∧ r ≤ 328) → h2 r n j = h r n j := fun r n j hne => by rw [c4 r n j hne, a4 r n j hne]
            have k2 : ∀ r j, ¬ ((5 ≤ r ∧ r ≤ 9) ∨ r = 12 ∨ r = 13) → m3 r j = m r j := fun r j hne => by rw [e5 r j (by omega), mset_ne (by omega), c5 r j (by omega), a5 r j (by omega)]
            have hV3 : RVC h2 m3 := RVC_t (fun r n j hne => k1 r n j (by omega)) (fun r j hne => k2 r j (by omega)) hV
            rw [e2, Option.bind_some, Option.bind_some, if_pos (show ¬ (1 : Int) = 0 by decide)]
            dsimp only
            rw [m313, d4]
            have fin : ∀ (h2' : zHC) (W : Int), (∀ r n j, ¬ (r = 0 ∧ n = 0 ∧ j = 0) → h2' r n j = h2 r n j) → h2' 0 0 0 = W → (∀ m5, (∀ j, m5 14 j = m 14 j) → m5 36 0 = line → m5 37 0 = m 37 0 → ∃ m6, ((F217 (m2 8 0) m5).bind fun r7 => if r7 = 0 then F269_1 m5 else if ¬ w = 7 then if ¬ w = 8 then (F213 (m2 8 0) 7 m5).bind fun r8 => (F214 r8 p).bind fun r9 => if r9 = 0 then F269_1 m5 else F269_2 m5 else (F213 (m2 8 0) 1 m5).bind fun r10 => if ¬ r10 = p then F269_1 m5 else F269_2 m5 else (F213 (m2 8 0) 5 m5).bind fun r11 => (F214 r11 p).bind fun r12 => if r12 = 0 then F269_1 m5 else F269_2 m5) = F269_4 m6 ∧ m6 37 0 = W ∧ ∀ r j, ¬ (r = 37 ∧ j = 0) → m6 r j = m5 r j) → (∃ h' m', F131_2 h2' = some (1, h') ∧ ((F201 m3).bind fun r6 => if ¬ r6.1 = 0 then ((F217 (m2 8 0) r6.2).bind fun r7 => if r7 = 0 then F269_1 r6.2 else if ¬ w = 7 then if ¬ w = 8 then (F213 (m2 8 0) 7 r6.2).bind fun r8 => (F214 r8 p).bind fun r9 => if r9 = 0 then F269_1 r6.2 else F269_2 r6.2 else (F213 (m2 8 0) 1 r6.2).bind fun r10 => if ¬ r10 = p then F269_1 r6.2 else F269_2 r6.2 else (F213 (m2 8 0) 5 r6.2).bind fun r11 => (F214 r11 p).bind fun r12 => if r12 = 0 then F269_1 r6.2 else F269_2 r6.2) else some (0, r6.2)) = some (1, m') ∧ KI h' m' (line + 1) ∧ kfC h h' ∧ kfM m m') ∨ (∃ h' m', F131_2 h2' = some (0, h') ∧ ((F201 m3).bind fun r6 => if ¬ r6.1 = 0 then ((F217 (m2 8 0) r6.2).bind fun r7 => if r7 = 0 then F269_1 r6.2 else if ¬ w = 7 then if ¬ w = 8 then (F213 (m2 8 0) 7 r6.2).bind fun r8 => (F214 r8 p).bind fun r9 => if r9 = 0 then F269_1 r6.2 else F269_2 r6.2 else (F213 (m2 8 0) 1 r6.2).bind fun r10 => if ¬ r10 = p then F269_1 r6.2 else F269_2 r6.2 else (F213 (m2 8 0) 5 r6.2).bind fun r11 => (F214 r11 p).bind fun r12 => if r12 = 0 then F269_1 r6.2 else F269_2 r6.2) else some (0, r6.2)) = some (0, m') ∧ FT h' m' ∧ kfC h h' ∧ kfM m m') := by
              intro h2' W f1 fW hJ
              have t2 : TR h2' (mset m2 13 0 (m2 8 0)) := TR_keep (TR_told c3) (fun r j g0 g1 => f1 r 0 j (by omega)) (fun _ _ _ => rfl)
              obtain ⟨h4, m4, y1, y2, y3, y4, y5⟩ := L21 t2 (by rw [f1 324 0 0 (by omega)]; omega)
              have em : m4 = m3 := Option.some.inj (y2.symm.trans e2)
              subst em
              unfold F131_2 F50 F201
              rw [y1, Option.bind_some, E51, Option.bind_some, E202 y3, Option.bind_some]
              have gc : ∀ r n j, ¬ ((324 ≤ r ∧ r ≤ 328) ∨ r = 0) → h4 r n j = h r n j := fun r n j hne => by rw [y4 r n j (by omega), f1 r n j (by omega), k1 r n j (by omega)]
              by_cases sg : h4 324 0 0 = 5 ∧ h4 326 0 0 = 59
              · rw [if_pos sg, if_pos (show ¬ (1 : Int) = 0 by decide), if_pos (show ¬ (1 : Int) = 0 by decide)]
                obtain ⟨h5, m5, z1, z2, z3, z4, z5⟩ := L21 y3 (by omega)
                have j14 : ∀ j, m5 14 j = m 14 j := fun j => by rw [z5 14 j (by omega), k2 14 j (by omega)]
                have j36 : m5 36 0 = line := by rw [z5 36 0 (by omega), k2 36 0 (by omega)]; exact hl
                have j37 : m5 37 0 = m 37 0 := by rw [z5 37 0 (by omega), k2 37 0 (by omega)]
                obtain ⟨m6, J1, J2, J3⟩ := hJ m5 j14 j36 j37
                rw [z1, z2, Option.bind_some, Option.bind_some, Option.bind_some, Option.bind_some, zG_t (Or.inr rfl), if_pos (show ¬ (1 : Int) = 0 by decide)]
                dsimp only
                rw [J1]
                unfold F269_4
                rw [J3 36 0 (by omega), j36, wadd_eq (by omega) (by omega)]
                have fc' : kfC h h5 := fun r n j hne => by rw [z4 r n j (by omega), gc r n j (by omega)]
                have fm' : kfM m (mset m6 36 0 (line + 1)) := fun r j hne => by rw [mset_ne (by omega), J3 r j (by omega), z5 r j (by omega), k2 r j (by omega)]
                refine Or.inl ⟨h5, _, rfl, rfl, ⟨TR_keep z3 (fun _ _ _ _ => rfl) (fun r j g => by rw [mset_ne (by omega), J3 r j (by omega)]), ?_, ?_, mset_eq, by omega, by omega, RVC_t fc' fm' hV⟩, fc', fm'⟩
                · rw [z4 322 0 0 (by omega), gc 322 0 0 (by omega), mset_ne (by omega), J3 10 0 (by omega), z5 10 0 (by omega), k2 10 0 (by omega)]
                  exact hf
                · rw [z4 0 0 0 (by omega), y4 0 0 0 (by omega), fW, mset_ne (by omega), J2]
              · rw [if_neg sg, if_neg (show ¬ ¬ (0 : Int) = 0 by decide), if_neg (show ¬ ¬ (0 : Int) = 0 by decide)]
                obtain ⟨h', m', x1, x2, x3, x4, x5⟩ := L31 (k := 1) y3 (Or.inl rfl)
                rw [x1, x2, Option.bind_some, Option.bind_some]
                dsimp only
                rw [zG_t (Or.inl rfl), zG_t (Or.inl rfl), Option.bind_some, Option.bind_some]
                dsimp only
                rw [zG_t (Or.inl rfl), if_neg (show ¬ ¬ (0 : Int) = 0 by decide)]
                exact Or.inr ⟨h', m', rfl, rfl, x3, fun r n j hne => by rw [x4 r n j (by omega), gc r n j (by omega)], fun r j hne => by rw [x5 r j (by omega), k2 r j (by omega)]⟩
            have hR2 : CR h2 0 (m3 14) := hV3.2
            have e37 : h2 0 0 0 = m 37 0 := by rw [k1 0 0 0 (by omega)]; exact hw
            by_cases wl : m 37 0 = -1
            · obtain ⟨b, b0, B1, -⟩ := K_so (w := w) (p := p) (s := m2 8 0) hR2 d2 w0
              rw [if_neg (show ¬ ¬ h2 0 0 0 = -1 from fun z => z (e37.trans wl)), B1, Option.bind_some]
              have same : ∀ m5 : zHM, (∀ j, m5 14 j = m 14 j) → ((F217 (m2 8 0) m5).bind fun r7 => if r7 = 0 then F269_1 m5 else if ¬ w = 7 then if ¬ w = 8 then (F213 (m2 8 0) 7 m5).bind fun r8 => (F214 r8 p).bind fun r9 => if r9 = 0 then F269_1 m5 else F269_2 m5 else (F213 (m2 8 0) 1 m5).bind fun r10 => if ¬ r10 = p then F269_1 m5 else F269_2 m5 else (F213 (m2 8 0) 5 m5).bind fun r11 => (F214 r11 p).bind fun r12 => if r12 = 0 then F269_1 m5 else F269_2 m5) = if b = 0 then F269_1 m5 else F269_2 m5 := by
                intro m5 j14
                have hR5 : CR h2 0 (m5 14) := by
                  have : m5 14 = m3 14 := by funext j; rw [j14, k2 14 j (by omega)]
                  rw [this]; exact hR2
                obtain ⟨b', -, B1', B2'⟩ := K_so (w := w) (p := p) (s := m2 8 0) hR5 d2 w0
                have : b' = b := Option.some.inj (B1'.symm.trans B1)
                subst this
                exact B2'
              rcases b0 with b0 | b0
              · subst b0
                rw [if_neg (show ¬ ¬ (0 : Int) = 0 by decide)]
                refine fin (hset h2 0 0 0 line) line (fun r n j hne => hset_ne (by omega)) hset_eq (fun m5 j14 j36 j37 => ?_)
                rw [same m5 j14, if_pos rfl]
                unfold F269_1 F269_3
                rw [if_neg (show ¬ ¬ (0 : Int) = 0 by decide), if_neg (show ¬ ¬ m5 37 0 = -1 from fun z => z (j37.trans wl)), j36]
                exact ⟨_, rfl, mset_eq, fun r j hne => mset_ne hne⟩
              · subst b0
                rw [if_pos (show ¬ (1 : Int) = 0 by decide)]
                refine fin h2 (-1) (fun _ _ _ _ => rfl) (e37.trans wl) (fun m5 j14 j36 j37 => ?_)
                rw [same m5 j14, if_neg (show ¬ (1 : Int) = 0 by decide)]
                unfold F269_2 F269_3
                rw [if_pos (show ¬ (1 : Int) = 0 by decide)]
                exact ⟨m5, rfl, j37.trans wl, fun _ _ _ => rfl⟩
            · rw [if_pos (show ¬ h2 0 0 0 = -1 from fun z => wl (e37.symm.trans z))]
              refine fin h2 (m 37 0) (fun _ _ _ _ => rfl) e37 (fun m5 j14 j36 j37 => ?_)
              have hR5 : CR h2 0 (m5 14) := by
                have : m5 14 = m3 14 := by funext j; rw [j14, k2 14 j (by omega)]
                rw [this]; exact hR2
              obtain ⟨b', b0', B1', B2'⟩ := K_so (w := w) (p := p) (s := m2 8 0) hR5 d2 w0
              rw [B2']
              unfold F269_1 F269_2 F269_3
              refine ⟨m5, ?_, j37, fun _ _ _ => rfl⟩
              rcases b0' with u' | u'
              · subst u'
                rw [if_pos rfl, if_neg (show ¬ ¬ (0 : Int) = 0 by decide), if_pos (show ¬ m5 37 0 = -1 from fun z => wl (j37.symm.trans z))]
              · subst u'
                rw [if_neg (show ¬ (1 : Int) = 0 by decide), if_pos (show ¬ (1 : Int) = 0 by decide)]
          · refine Or.inr ⟨h', m', ?_, ?_, d3, fun r n j hne => by rw [d4 r n j (by omega), c4 r n j (by omega), a4 r n j (by omega)], fun r j hne => by rw [d5 r j (by omega), c5 r j (by omega), a5 r j (by omega)]⟩
            · rw [d1, Option.bind_some, if_neg (show ¬ ¬ (0 : Int) = 0 by decide)]
            · rw [d2, Option.bind_some, if_neg (show ¬ ¬ (0 : Int) = 0 by decide), Option.bind_some, if_neg (show ¬ ¬ (0 : Int) = 0 by decide)]
      · obtain ⟨h', m', c1, c2, c3, c4, c5⟩ := L31 (k := 1) a3 (Or.inl rfl)
        refine Or.inr ⟨h', m', ?_, ?_, c3, fun r n j hne => by rw [c4 r n j (by omega), a4 r n j (by omega)], fun r j hne => by rw [c5 r j (by omega), a5 r j (by omega)]⟩
        · rw [if_neg u, c1, Option.bind_some, Option.bind_some, if_neg (show ¬ ¬ (-1 : Int) = -1 by decide)]
        · rw [if_neg u, if_neg (show ¬ ¬ (0 : Int) = 0 by decide), c2, Option.bind_some, zG_t (Or.inl rfl)]
    · rw [if_neg q, if_neg (show ¬ ¬ line = 30 by omega)]
      exact Or.inr (fail 4 (Or.inr n7))
  unfold F131 F269
  rw [E181 hT (by decide) (by decide), E181 hT (by decide) (by decide), E181 hT (by decide) (by decide)]
  simp only [Option.bind_some]
  by_cases k3 : h 324 0 0 = 3
  · rw [if_neg (fun z => z k3)]
    unfold F131_0
    by_cases q7 : h 326 0 0 = 7
    · rw [if_pos q7, if_pos (show h 324 0 0 = 3 ∧ h 326 0 0 = 7 from ⟨k3, q7⟩), if_neg (show ¬ (1 : Int) = 0 by decide), q7]
      exact main 7 (Or.inl rfl) k3 q7
    · rw [if_neg q7, if_neg (show ¬ (h 324 0 0 = 3 ∧ h 326 0 0 = 7) from fun z => q7 z.2), if_pos (rfl : (0 : Int) = 0)]
      by_cases q8 : h 326 0 0 = 8
      · rw [if_pos q8, if_pos (show h 324 0 0 = 3 ∧ h 326 0 0 = 8 from ⟨k3, q8⟩), if_neg (show ¬ (1 : Int) = 0 by decide), q8]
        exact main 8 (Or.inr (Or.inl rfl)) k3 q8
      · rw [if_neg q8, if_neg (show ¬ (h 324 0 0 = 3 ∧ h 326 0 0 = 8) from fun z => q8 z.2), if_pos (rfl : (0 : Int) = 0)]
        by_cases q9 : h 326 0 0 = 9
        · rw [if_pos q9, if_pos (show h 324 0 0 = 3 ∧ h 326 0 0 = 9 from ⟨k3, q9⟩), if_neg (show ¬ (1 : Int) = 0 by decide), q9]
          exact main 9 (Or.inr (Or.inr rfl)) k3 q9
        · rw [if_neg q9, if_neg (show ¬ (h 324 0 0 = 3 ∧ h 326 0 0 = 9) from fun z => q9 z.2), if_pos (rfl : (0 : Int) = 0)]
          unfold F269_0
          rw [if_neg (show ¬ ¬ (-1 : Int) = -1 by decide)]
          exact Or.inr (fail 1 (Or.inl rfl))
  · rw [if_pos k3]
    unfold F131_0
    rw [if_neg (show ¬ (-1 : Int) = 7 by decide), if_neg (show ¬ (-1 : Int) = 8 by decide), if_neg (show ¬ (-1 : Int) = 9 by decide), if_neg (show ¬ (h 324 0 0 = 3 ∧ h 326 0 0 = 7) from fun z => k3 z.1), if_pos (rfl : (0 : Int) = 0), if_neg (show ¬ (h 324 0 0 = 3 ∧ h 326 0 0 = 8) from fun z => k3 z.1), if_pos (rfl : (0 : Int) = 0), if_neg (show ¬ (h 324 0 0 = 3 ∧ h 326 0 0 = 9) from fun z => k3 z.1), if_pos (rfl : (0 : Int) = 0)]
    unfold F269_0
    rw [if_neg (show ¬ ¬ (-1 : Int) = -1 by decide)]
    exact Or.inr (fail 1 (Or.inl rfl))
