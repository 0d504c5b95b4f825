/-! claims(), whole. -/
/-- after a text: the tape empty, the fault alike, all else as it was -/
theorem RG_text {hc hc' : zHC} {hm hm' : zHM} (h : RG hc hm) (f1 : ∀ r n j, ¬ ((64 ≤ r ∧ r ≤ 72 ∧ n = 1) ∨ (128 ≤ r ∧ r ≤ 130) ∨ r = 387 ∨ r = 716 ∨ (258 ≤ r ∧ r ≤ 261) ∨ (321 ≤ r ∧ r ≤ 329) ∨ (576 ≤ r ∧ r ≤ 595 ∧ n = 1) ∨ (384 ≤ r ∧ r ≤ 386 ∧ n = 1) ∨ r = 0 ∨ r = 641) → hc' r n j = hc r n j) (f2 : ∀ r j, ¬ (r = 0 ∨ (2 ≤ r ∧ r ≤ 13) ∨ r = 15 ∨ r = 18 ∨ r = 20 ∨ (24 ≤ r ∧ r ≤ 28) ∨ (30 ≤ r ∧ r ≤ 34) ∨ (36 ≤ r ∧ r ≤ 40) ∨ r = 43 ∨ (45 ≤ r ∧ r ≤ 49)) → hm' r j = hm r j) (e1 : hc' 321 0 0 = 0) (e2 : hm' 2 0 = 0) (e3 : hc' 322 0 0 = hm' 10 0) : RG hc' hm' := by
  obtain ⟨a1, a2, a3, a4, a5, a6, a7, a8, a9⟩ := h
  refine ⟨⟨by rw [e1, e2], by rw [e2]; exact Int.le_refl 0, by rw [e2]; decide, fun i i0 i1 => ?_, e3⟩, RVC_keep (fun r j g => f1 r 0 j (by omega)) (fun j _ _ => f2 14 j (by omega)) (fun j => f2 19 j (by omega)) a2, RUn_keep (fun r n j g => f1 r n j (by omega)) (fun j _ _ => f2 14 j (by omega)) (fun r j g => f2 r j (by omega)) (VR_n a2.1) a3, RIm_keep (fun r n j g => f1 r n j (by omega)) (fun r j g => f2 r j (by omega)) a4, RSn_cong (f1 384 0 0 (by omega)) (f1 385 0 0 (by omega)) (fun j _ _ => f1 386 0 j (by omega)) (fun j _ _ => f2 14 j (by omega)) a5, RPc_keep (fun r j g => f1 r 0 j (by omega)) (fun r j g => f2 r j (by omega)) a6, RSt_keep (fun r j g => f1 r 0 j (by omega)) (fun j => f2 41 j (by omega)) a7, RWr_keep (fun r j g => f1 r 0 j (by omega)) (fun r j g => f2 r j (by omega)) a8, RKw_keep (fun j => f1 330 0 j (by omega)) a9⟩
  rw [f1 320 0 i (by omega), f2 1 i (by omega)]
  exact a1.2.2.2.1 i i0 i1
theorem K_loop : ∀ (n n' : Nat) (line : Int) (h : zHC) (m : zHM), KI h m line → 40 - line < n → 40 - line < n' → (∃ h' m', F130_0 n 0 0 line h = some (1, h') ∧ F268_0 n' m = some (h' 0 0 0, m') ∧ h' 322 0 0 = m' 10 0 ∧ kfC h h' ∧ kfM m m') ∨ (∃ h' m', F130_0 n 0 0 line h = some (0, h') ∧ F268_0 n' m = some (wsub (-2) (h' 323 0 0), m') ∧ h' 322 0 0 = m' 10 0 ∧ kfC h h' ∧ kfM m m') := by
  intro n
  induction n with
  | zero => intro n' line h m hK g1 g2; have := hK.2.2.2.2.2.1; omega
  | succ n ih =>
    intro n' line h m hK g1 g2
    have l1 := hK.2.2.2.2.2.1
    have l0 := hK.2.2.2.2.1
    cases n' with
    | zero => omega
    | succ n' =>
      rw [F130_0, F268_0, if_neg (show ¬ 940 ≤ line by omega), E29 hK.1, Option.bind_some]
      by_cases q : m 7 0 = 0
      · rw [if_pos q, if_pos q, if_pos (show ¬ (1 : Int) = 0 by decide), ← hK.2.2.1]
        exact Or.inl ⟨h, m, rfl, rfl, hK.2.1, fun _ _ _ _ => rfl, fun _ _ _ => rfl⟩
      · rw [if_neg q, if_neg q, if_neg (show ¬ ¬ (0 : Int) = 0 by decide)]
        rcases K_line hK with ⟨h1, m1, a1, a2, a3, a4, a5⟩ | ⟨h1, m1, a1, a2, a3, a4, a5⟩
        · rw [a1, a2, Option.bind_some, Option.bind_some, if_pos (show ¬ (1 : Int) = 0 by decide), if_pos (show ¬ (1 : Int) = 0 by decide), wadd_eq (by omega) (by omega)]
          rcases ih n' (line + 1) h1 m1 a3 (by omega) (by omega) with ⟨h2, m2, b1, b2, b3, b4, b5⟩ | ⟨h2, m2, b1, b2, b3, b4, b5⟩
          · exact Or.inl ⟨h2, m2, b1, b2, b3, fun r n j hne => by rw [b4 r n j hne, a4 r n j hne], fun r j hne => by rw [b5 r j hne, a5 r j hne]⟩
          · exact Or.inr ⟨h2, m2, b1, b2, b3, fun r n j hne => by rw [b4 r n j hne, a4 r n j hne], fun r j hne => by rw [b5 r j hne, a5 r j hne]⟩
        · rw [a1, a2, Option.bind_some, Option.bind_some, if_neg (show ¬ ¬ (0 : Int) = 0 by decide), if_neg (show ¬ ¬ (0 : Int) = 0 by decide)]
          dsimp only
          rw [← a3.2]
          exact Or.inr ⟨h1, m1, rfl, rfl, a3.1, a4, a5⟩
theorem C_claims {hc : zHC} {hm : zHM} (h : RG hc hm) : ∃ r hc' hm', F129 hc = some (r, hc') ∧ F268 hm = some (r, hm') ∧ RG hc' hm' := by
  have big := zFu_big
  have h1 : RG (hset hc 0 0 0 (-1)) hm := RG_sc h (fun r n j hne => hset_ne (by omega)) scM_refl
  obtain ⟨h2, m2, a1, a2, a3, a4, a5, a6, a7, a8⟩ := L_open (most := 300) h1 (by decide) (by decide)
  have hV : RVC h2 (mset (mset m2 36 0 0) 37 0 (-1)) := RVC_keep (fun r j g => by rw [a7 r 0 j (by omega), hset_ne (by omega)]) (fun j _ _ => by rw [mset_ne (by omega), mset_ne (by omega), a8 14 j (by omega)]) (fun j => by rw [mset_ne (by omega), mset_ne (by omega), a8 19 j (by omega)]) h.2.1
  have hK : KI h2 (mset (mset m2 36 0 0) 37 0 (-1)) 0 := ⟨TR_keep a3 (fun _ _ _ _ => rfl) (fun r j g => by rw [mset_ne (by omega), mset_ne (by omega)]), by rw [a4, mset_ne (by omega), mset_ne (by omega), a5], by rw [a7 0 0 0 (by omega), hset_eq, mset_eq], by rw [mset_ne (by omega), mset_eq], by decide, by decide, hV⟩
  unfold F129 F130 F268
  rw [a1, a2, Option.bind_some, Option.bind_some]
  have fin : ∀ (h3 : zHC) (m3 : zHM), h3 322 0 0 = m3 10 0 → kfC h2 h3 → kfM (mset (mset m2 36 0 0) 37 0 (-1)) m3 → RG (hset h3 321 0 0 0) m3 := by
    intro h3 m3 e c d
    refine RG_text h (fun r n j hne => by rw [hset_ne (by omega), c r n j (by omega), a7 r n j (by omega), hset_ne (by omega)]) (fun r j hne => by rw [d r j (by omega), mset_ne (by omega), mset_ne (by omega), a8 r j (by omega)]) hset_eq (by rw [d 2 0 (by omega), mset_ne (by omega), mset_ne (by omega)]; exact a6) (by rw [hset_ne (by omega)]; exact e)
  rcases K_loop zFu zFu 0 h2 _ hK (by omega) (by omega) with ⟨h3, m3, b1, b2, b3, b4, b5⟩ | ⟨h3, m3, b1, b2, b3, b4, b5⟩
  · rw [b1, b2, Option.bind_some, if_neg (show ¬ (1 : Int) = 0 by decide)]
    exact ⟨_, _, _, rfl, rfl, fin h3 m3 b3 b4 b5⟩
  · rw [b1, b2, Option.bind_some, if_pos (rfl : (0 : Int) = 0)]
    exact ⟨_, _, _, rfl, rfl, fin h3 m3 b3 b4 b5⟩
