/-! said, the class's steps. -/
def zSk (h : zHC) : List Bool → Prop
  | [] => True
  | b :: r => h 387 0 (r.length : Int) = (if b = true then 1 else 0) ∧ zSk h r
theorem zSk_ne {h h' : zHC} : ∀ (stk : List Bool), (∀ j : Int, 0 ≤ j → j < (stk.length : Int) → h' 387 0 j = h 387 0 j) → zSk h stk → zSk h' stk := by
  intro stk
  induction stk with
  | nil => intro _ _; trivial
  | cons b r ih =>
    intro hj hS
    have e : ((b :: r).length : Int) = (r.length : Int) + 1 := by rw [List.length_cons]; omega
    exact ⟨by rw [hj _ (by omega) (by omega)]; exact hS.1, ih (fun j j0 j1 => hj j j0 (by omega)) hS.2⟩
theorem K157_push {k0 : Int → Int → Int → Int → Int → zHC → Option (Int × zHC)} {h : zHC} {m : zHM} {s k v : Int} (hR : RG h m) (s0 : 0 ≤ s) (s1 : s < m 14 216) (k0' : 0 ≤ k) (k1 : k < 40) (v0 : 0 ≤ v) (v1 : v < 40) : F157_7 k0 0 0 s v k h = k0 0 0 s (v + 1) (k + 1) (hset h 387 0 v (if zB m s zCc (h 386 0 (k * 3)) (h 386 0 (k * 3 + 1)) (h 386 0 (k * 3 + 2)) = true then 1 else 0)) := by
  unfold F157_7 F157_3
  rw [if_neg (by omega), wmul_eq (by omega) (by omega), L158 hR s0 s1 (by omega) (by omega), Option.bind_some, zG_t (by omega), wadd_eq (by omega) (by omega), wadd_eq (by omega) (by omega)]
  cases zB m s zCc (h 386 0 (k * 3)) (h 386 0 (k * 3 + 1)) (h 386 0 (k * 3 + 2)) <;> rfl
theorem zEx_s {f : Int → Int → Int → Bool} {c : Int → Int} {k : Nat} : zEx f (zCl c (k + 1)) [] = zEx1 f (c (k * 3), c (k * 3 + 1), c (k * 3 + 2)) (zEx f (zCl c k) []) := by
  unfold zEx
  rw [zCl, List.foldl_append]
  rfl
theorem zb01 {b : Bool} : (if b = true then (1 : Int) else 0) = 0 ↔ b = false := by cases b <;> decide
theorem L157 {m : zHM} {s : Int} {b : Bool} {N : Nat} (s0 : 0 ≤ s) (s1 : s < m 14 216) (hN : N ≤ 40) : ∀ (n k : Nat) (h : zHC) (stk : List Bool), RG h m → h 385 0 0 = (N : Int) → k ≤ N → N - k < n → stk = zEx (zB m s zCc) (zCl (h 386 0) k) [] → stk.length ≤ k → zSk h stk → zEx (zB m s zCc) (zCl (h 386 0) N) [] = [b] → ∃ h', F157_0 n 0 0 s (stk.length : Int) (k : Int) h = some ((if b = true then 1 else 0), h') ∧ (∀ r n j, ¬ r = 387 → h' r n j = h r n j) := by
  intro n
  induction n with
  | zero => intro k h stk _ _ _ g; omega
  | succ n ih =>
    intro k h stk hR h5 k1 g1 hs hl hS hE
    rw [F157_0, h5]
    by_cases q : k = N
    · rw [if_pos (by omega)]
      have e : stk = [b] := by rw [hs, q]; exact hE
      subst e
      have e1 : h 387 0 0 = (if b = true then 1 else 0) := hS.1
      rw [show ((([b] : List Bool).length : Nat) : Int) = 1 from rfl, if_neg (by decide), show wsub 1 1 = 0 by decide, zG_t (by decide), e1]
      refine ⟨h, ?_, fun _ _ _ _ => rfl⟩
      cases b <;> rfl
    · rw [if_neg (by omega), wmul_eq (by omega) (by omega), zG_t (by omega)]
      have fin : ∀ (S : List Bool) (h1 : zHC) (v v' : Int), (∀ r n j, ¬ r = 387 → h1 r n j = h r n j) → S = zEx1 (zB m s zCc) (h 386 0 (k * 3), h 386 0 (k * 3 + 1), h 386 0 (k * 3 + 2)) stk → (S.length : Int) = v → v ≤ (k : Int) + 1 → v' = (k : Int) + 1 → zSk h1 S → ∃ h', F157_0 n 0 0 s v v' h1 = some ((if b = true then 1 else 0), h') ∧ (∀ r n j, ¬ r = 387 → h' r n j = h r n j) := by
        intro S h1 v v' f1 eS e1 e2 e3 hS1
        have e386 : h1 386 0 = h 386 0 := funext fun j => f1 386 0 j (by decide)
        obtain ⟨h', a1, a2⟩ := ih (k + 1) h1 S (RG_sc hR (fun r n j g => f1 r n j (by omega)) scM_refl) (by rw [f1 385 0 0 (by decide)]; exact h5) (by omega) (by omega) (by rw [e386, zEx_s, ← hs]; exact eS) (by omega) hS1 (by rw [e386]; exact hE)
        rw [e1, show ((k + 1 : Nat) : Int) = v' by omega] at a1
        exact ⟨h', a1, fun r n j g => by rw [a2 r n j g, f1 r n j g]⟩
      have push : zEx1 (zB m s zCc) (h 386 0 (k * 3), h 386 0 (k * 3 + 1), h 386 0 (k * 3 + 2)) stk = zB m s zCc (h 386 0 (k * 3)) (h 386 0 (k * 3 + 1)) (h 386 0 (k * 3 + 2)) :: stk → ∃ h', F157_7 (F157_0 n) 0 0 s (stk.length : Int) (k : Int) h = some ((if b = true then 1 else 0), h') ∧ (∀ r n j, ¬ r = 387 → h' r n j = h r n j) := by
        intro e
        rw [K157_push hR s0 s1 (by omega) (by omega) (by omega) (by omega)]
        refine fin _ _ _ _ (fun r n j g => hset_ne (by omega)) e.symm (by rw [List.length_cons]; omega) (by omega) rfl ⟨hset_eq, zSk_ne stk (fun j j0 j1 => hset_ne (by omega)) hS⟩
      by_cases w12 : h 386 0 (k * 3) = 12
      · rw [if_neg (fun z => z w12)]
        cases stk with
        | nil =>
          rw [if_pos (by decide), w12]
          unfold F157_1 F157_4
          rw [if_pos (by decide), if_pos (by decide)]
          refine push ?_
          unfold zEx1
          rw [if_pos w12]
        | cons c r =>
          have el : ((c :: r).length : Int) = (r.length : Int) + 1 := by rw [List.length_cons]; omega
          rw [el]
          rw [if_neg (by omega), wsub_eq (by omega) (by omega), Int.add_sub_cancel, zG_t (by omega), hS.1]
          unfold F157_2 F157_3
          rw [wadd_eq (by omega) (by omega)]
          have st : ∀ x : Int, x = (if (!c) = true then 1 else 0) → ∃ h', F157_0 n 0 0 s ((r.length : Int) + 1) ((k : Int) + 1) (hset h 387 0 (r.length : Int) x) = some ((if b = true then 1 else 0), h') ∧ (∀ r n j, ¬ r = 387 → h' r n j = h r n j) := by
            intro x hx
            refine fin ((!c) :: r) _ _ _ (fun r n j g => hset_ne (by omega)) ?_ (by rw [List.length_cons]; omega) (by omega) rfl ⟨by rw [hset_eq]; exact hx, zSk_ne r (fun j j0 j1 => hset_ne (by omega)) hS.2⟩
            unfold zEx1
            rw [if_pos w12]
          by_cases u : c = true
          · rw [if_pos u, if_pos (by decide), zG_t (by omega), zG_t (by omega)]
            exact st 0 (by rw [u]; rfl)
          · rw [if_neg u, if_neg (by decide), zG_t (by omega), zG_t (by omega)]
            exact st 1 (by rw [Bool.not_eq_true] at u; rw [u]; rfl)
      · rw [if_pos w12]
        unfold F157_1 F157_4
        by_cases w11 : h 386 0 (k * 3) = 11
        · rw [if_neg (fun z => z w11)]
          have go10 : ¬ h 386 0 (k * 3) = 10 := by omega
          match stk, hs, hl, hS, fin, push with
          | [], hs, hl, hS, fin, push =>
            rw [if_pos (by decide), if_pos go10]
            refine push ?_
            unfold zEx1
            rw [if_neg w12, if_pos w11]
          | [c], hs, hl, hS, fin, push =>
            rw [if_pos (show ((([c] : List Bool).length : Nat) : Int) ≤ 1 from Int.le_refl 1), if_pos go10]
            refine push ?_
            unfold zEx1
            rw [if_neg w12, if_pos w11]
          | c :: d :: r, hs, hl, hS, fin, push =>
            have el : ((c :: d :: r).length : Int) = (r.length : Int) + 2 := by rw [List.length_cons, List.length_cons]; omega
            have el2 : ((d :: r).length : Int) = (r.length : Int) + 1 := by rw [List.length_cons]; omega
            have hl2 : (r.length : Int) + 2 ≤ k := by omega
            have c1 := hS.1
            have c2 := hS.2.1
            rw [el2] at c1
            rw [el]
            rw [if_neg (by omega), wadd_eq (x := (r.length : Int) + 2) (by omega) (by omega), show (r.length : Int) + 2 + -1 = (r.length : Int) + 1 by omega, wsub_eq (by omega) (by omega), Int.add_sub_cancel, zG_t (by omega), zG_t (by omega), c1, c2]
            unfold F157_5 F157_6 F157_3
            rw [wadd_eq (by omega) (by omega)]
            have st : ∀ x : Int, x = (if (d && c) = true then 1 else 0) → ∃ h', F157_0 n 0 0 s ((r.length : Int) + 1) ((k : Int) + 1) (hset h 387 0 (r.length : Int) x) = some ((if b = true then 1 else 0), h') ∧ (∀ r n j, ¬ r = 387 → h' r n j = h r n j) := by
              intro x hx
              refine fin ((d && c) :: r) _ _ _ (fun r n j g => hset_ne (by omega)) ?_ (by rw [List.length_cons]; omega) (by omega) rfl ⟨by rw [hset_eq]; exact hx, zSk_ne r (fun j j0 j1 => hset_ne (by omega)) hS.2.2⟩
              unfold zEx1
              rw [if_neg w12, if_pos w11]
            simp (disch := first | omega | decide) only [zG_t]
            cases d <;> cases c
            · exact st 0 rfl
            · exact st 0 rfl
            · exact st 0 rfl
            · exact st 1 rfl
        · rw [if_pos w11]
          by_cases w10 : h 386 0 (k * 3) = 10
          · rw [if_neg (fun z => z w10)]
            match stk, hs, hl, hS, fin, push with
            | [], hs, hl, hS, fin, push =>
              rw [if_pos (by decide)]
              refine push ?_
              unfold zEx1
              rw [if_neg w12, if_neg w11, if_pos w10]
            | [c], hs, hl, hS, fin, push =>
              rw [if_pos (show ((([c] : List Bool).length : Nat) : Int) ≤ 1 from Int.le_refl 1)]
              refine push ?_
              unfold zEx1
              rw [if_neg w12, if_neg w11, if_pos w10]
            | c :: d :: r, hs, hl, hS, fin, push =>
              have el : ((c :: d :: r).length : Int) = (r.length : Int) + 2 := by rw [List.length_cons, List.length_cons]; omega
              have el2 : ((d :: r).length : Int) = (r.length : Int) + 1 := by rw [List.length_cons]; omega
              have hl2 : (r.length : Int) + 2 ≤ k := by omega
              have c1 := hS.1
              have c2 := hS.2.1
              rw [el2] at c1
              rw [el]
              rw [if_neg (by omega), wadd_eq (x := (r.length : Int) + 2) (by omega) (by omega), show (r.length : Int) + 2 + -1 = (r.length : Int) + 1 by omega, wsub_eq (by omega) (by omega), Int.add_sub_cancel, zG_t (by omega), zG_t (by omega), c1, c2]
              unfold F157_8 F157_9 F157_3
              rw [wadd_eq (by omega) (by omega)]
              have st : ∀ x : Int, x = (if (d || c) = true then 1 else 0) → ∃ h', F157_0 n 0 0 s ((r.length : Int) + 1) ((k : Int) + 1) (hset h 387 0 (r.length : Int) x) = some ((if b = true then 1 else 0), h') ∧ (∀ r n j, ¬ r = 387 → h' r n j = h r n j) := by
                intro x hx
                refine fin ((d || c) :: r) _ _ _ (fun r n j g => hset_ne (by omega)) ?_ (by rw [List.length_cons]; omega) (by omega) rfl ⟨by rw [hset_eq]; exact hx, zSk_ne r (fun j j0 j1 => hset_ne (by omega)) hS.2.2⟩
                unfold zEx1
                rw [if_neg w12, if_neg w11, if_pos w10]
              simp (disch := first | omega | decide) only [zG_t]
              cases d <;> cases c
              · exact st 0 rfl
              · exact st 1 rfl
              · exact st 1 rfl
              · exact st 1 rfl
          · rw [if_pos w10]
            refine push ?_
            unfold zEx1
            rw [if_neg w12, if_neg w11, if_neg w10]
