/-! said, whole. -/
theorem zB_f {m : zHM} {s w x y : Int} (w0 : 13 ≤ w) (w1 : w ≤ 20) (hx : 17 ≤ w → 60 ≤ x ∧ x ≤ 62) : zB m s zCm w x y = zB m s zCc w x y := by
  by_cases g : 17 ≤ w
  · have cc : ∀ r y, zCm r x y = zCc r x y := fun r y => zCm_cc (hx g).1 (hx g).2
    unfold zB
    simp only [cc]
  · have e : w = 13 ∨ w = 14 ∨ w = 15 ∨ w = 16 := by omega
    rcases e with e | e | e | e <;> subst e <;> rfl
theorem K_said {v : Int} : ∀ (n n' : Nat) (q d : Int) (h : zHC) (m : zHM), RG h m → ¬ h 384 0 0 = 0 → 0 ≤ q → q ≤ m 14 216 → 0 ≤ d → d ≤ q → m 14 216 - q < n → m 14 216 - q < n' → ∃ r h', F156_0 n v d q h = some (r, h') ∧ F289_0 n' v d q m = some (r, m) ∧ (∀ r n j, ¬ r = 387 → h' r n j = h r n j) ∧ (v < -1 → r = -1) := by
  have big := zFu_big
  intro n
  induction n with
  | zero => intro n' q d h m _ _ _ _ _ _ g; omega
  | succ n ih =>
    intro n' q d h m hR h4 q0 q1 d0 d1 g1 g2
    cases n' with
    | zero => omega
    | succ n' =>
      have e65 : h 65 0 0 = m 14 216 := by have := hR.2.1.2.1.2.1; omega
      have c4 : m 14 216 ≤ 30 := hR.2.1.2.2.2.2.1.2
      rw [F156_0, F289_0, e65]
      by_cases e : m 14 216 ≤ q
      · rw [if_pos e, if_pos e]
        by_cases u : v = -1
        · rw [if_neg (fun z => z u), if_neg (fun z => z u)]
          exact ⟨_, _, rfl, rfl, fun _ _ _ _ => rfl, fun z => by omega⟩
        · rw [if_pos u, if_pos u]
          exact ⟨_, _, rfl, rfl, fun _ _ _ _ => rfl, fun _ => rfl⟩
      · rw [if_neg e, if_neg e]
        obtain ⟨s1, s2, s3, s4, s5⟩ := hR.2.2.2.2.1
        obtain ⟨b, b1, b2⟩ := s5 h4 (zB m q zCc)
        have b3 : zEv (fun k => m 14 (1900 + k)) (zB m q zCm) 64 (m 14 1899) = some b := by
          rw [zEv_f (fun w x y w0 w1 hx => zB_f w0 w1 hx)]
          exact b2
        have a1 := L290 hR q0 (by omega) 64 _ _ b3
        have eN : h 385 0 0 = ((h 385 0 0).toNat : Int) := by omega
        obtain ⟨h1, a2, a3⟩ := L157 (m := m) (s := q) (b := b) (N := (h 385 0 0).toNat) q0 (by omega) (by omega) zFu 0 h [] hR eN (by omega) (by omega) rfl (by decide) trivial b1
        have a2' : F157 0 0 q h = some ((if b = true then 1 else 0), h1) := a2
        have hR1 : RG h1 m := RG_sc hR (fun r n j g => a3 r n j (by omega)) scM_refl
        rw [a2', a1, Option.bind_some, Option.bind_some]
        dsimp only
        unfold F156_1 F289_1
        rw [wadd_eq (x := q) (by omega) (by omega), wadd_eq (x := d) (by omega) (by omega)]
        have nx : ∀ d', 0 ≤ d' → d' ≤ q + 1 → ∃ r h', F156_0 n v d' (q + 1) h1 = some (r, h') ∧ F289_0 n' v d' (q + 1) m = some (r, m) ∧ (∀ r n j, ¬ r = 387 → h' r n j = h r n j) ∧ (v < -1 → r = -1) := by
          intro d' e0 e1
          obtain ⟨r, h', x1, x2, x3, x4⟩ := ih n' (q + 1) d' h1 m hR1 (by rw [a3 384 0 0 (by decide)]; exact h4) (by omega) (by omega) e0 e1 (by omega) (by omega)
          exact ⟨r, h', x1, x2, fun r n j g => by rw [x3 r n j g, a3 r n j g], x4⟩
        cases b with
        | false =>
          rw [show (if (false = true) then (1 : Int) else 0) = 0 from rfl, if_pos (rfl : (0 : Int) = 0), if_neg (show ¬ ¬ (0 : Int) = 0 by decide)]
          exact nx d d0 (by omega)
        | true =>
          rw [show (if (true = true) then (1 : Int) else 0) = 1 from rfl, if_neg (show ¬ (1 : Int) = 0 by decide), if_pos (show ¬ (1 : Int) = 0 by decide)]
          by_cases u : d = v
          · rw [if_neg (fun z => z u), if_neg (fun z => z u)]
            exact ⟨_, _, rfl, rfl, a3, fun z => by omega⟩
          · rw [if_pos u, if_pos u]
            exact nx (d + 1) (by omega) (by omega)
theorem C_said {hc : zHC} {hm : zHM} {v : Int} (h : RG hc hm) : ∃ r hc' hm', F156 v hc = some (r, hc') ∧ F289 v hm = some (r, hm') ∧ RG hc' hm' := by
  have big := zFu_big
  have h0 := RG_0 (x := 0) h
  have c3 : 0 ≤ hm 14 216 := h.2.1.2.2.2.2.1.1
  have c4 : hm 14 216 ≤ 30 := h.2.1.2.2.2.2.1.2
  have m14 : ∀ j, (mset hm 0 0 0) 14 j = hm 14 j := fun j => m0_ne (by decide)
  obtain ⟨s1, s2, s3, s4, s5⟩ := h.2.2.2.2.1
  unfold F156 F289
  by_cases q : hc 384 0 0 = 0
  · rw [if_pos q, if_neg (show ¬ ¬ hm 14 1898 = 0 from fun z => z (s2.mp q))]
    exact ⟨_, _, _, rfl, rfl, h0⟩
  · rw [if_neg q, if_pos (show ¬ hm 14 1898 = 0 from fun z => q (s2.mpr z))]
    obtain ⟨r, h', a1, a2, a3, a4⟩ := K_said (v := v) zFu zFu 0 0 hc (mset hm 0 0 0) h0 q (by decide) (by rw [m14]; exact c3) (by decide) (by decide) (by rw [m14]; omega) (by rw [m14]; omega)
    by_cases u : -1 ≤ v
    · rw [if_pos u, a1, a2]
      exact ⟨_, _, _, rfl, rfl, RG_sc h0 (fun r n j g => a3 r n j (by omega)) scM_refl⟩
    · rw [if_neg u, a2, a4 (by omega)]
      exact ⟨_, _, _, rfl, rfl, h0⟩
