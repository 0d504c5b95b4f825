/-! a name put by both. -/
theorem W_take {k0 : Int → Int → zHM → Option (Int × zHM)} {v1 v2 v3 : Int} : ∀ (r : List Int) (n : Nat) (v4 : Int) (m : zHM), zOkL r → 0 ≤ v4 → v4 + (r.length : Int) ≤ 7 → r.length < n → ∃ m', F276_1 k0 n v1 v2 v3 v4 (zPk 27 r) m = F276_3 k0 zFu v1 v2 v3 (v4 + (r.length : Int) - 1) m' ∧ (∀ j : Nat, j < r.length → m' 43 (v4 + (j : Int)) = r.getD j 0 + 96) ∧ (∀ r j, ¬ (r = 43 ∧ v4 ≤ j) → m' r j = m r j) := by
  intro r
  induction r with
  | nil =>
    intro n v4 m hr v0 vl g
    cases n with
    | zero => exact absurd g (by decide)
    | succ n =>
      rw [F276_1]
      have e : zPk 27 [] = 0 := rfl
      have vl' : v4 ≤ 7 := by have : (([] : List Int).length : Int) = 0 := rfl; omega
      rw [e, if_pos ((qcmp_le (by decide)).mpr rfl), wsub_eq (by omega) (by omega), show v4 + (([] : List Int).length : Int) - 1 = v4 - 1 by show v4 + 0 - 1 = v4 - 1; omega]
      exact ⟨m, rfl, fun j hj => absurd hj (by simp), fun _ _ _ => rfl⟩
  | cons d r ih =>
    intro n v4 m hr v0 vl g
    have el : ((d :: r).length : Int) = (r.length : Int) + 1 := by rw [List.length_cons]; omega
    have hd := hr d (List.mem_cons_self ..)
    have hr2 : zOkL r := fun x hx => hr x (List.mem_cons_of_mem _ hx)
    cases n with
    | zero => exact absurd g (by omega)
    | succ n =>
      have p0 := zPk_pos (b := 27) (Or.inl rfl) hr2
      have p1 := (zPk_lt (n := 7) hr2 (by omega)).2
      have p2 : (27 : Int) ^ 7 = 10460353203 := by decide
      rw [p2] at p1
      have ez : zPk 27 (d :: r) = d + 27 * zPk 27 r := rfl
      rw [F276_1, ez, if_neg (fun z => by have := (qcmp_le (by omega)).mp z; omega), zG_t (by omega), wadd_eq (x := v4) (by omega) (by omega), qdiv_eq (by omega) (by omega) (by decide) (by decide), qrem_eq (by omega) (by omega) (by decide) (by decide), show (d + 27 * zPk 27 r) / 27 = zPk 27 r by omega, show (d + 27 * zPk 27 r) % 27 = d by omega, wl2i_eq (by omega) (by omega), wadd_eq (x := d) (by omega) (by omega)]
      obtain ⟨m', a1, a2, a3⟩ := ih n (v4 + 1) (mset m 43 v4 (d + 96)) hr2 (by omega) (by omega) (by rw [List.length_cons] at g; omega)
      refine ⟨m', ?_, fun j hj => ?_, fun r j q => ?_⟩
      · rw [a1, show v4 + 1 + (r.length : Int) - 1 = v4 + ((d :: r).length : Int) - 1 by omega]
      · cases j with
        | zero =>
          rw [a3 43 _ (by omega), show v4 + ((0 : Nat) : Int) = v4 by omega, mset_eq]
          rfl
        | succ j =>
          rw [show v4 + ((j + 1 : Nat) : Int) = v4 + 1 + (j : Int) by omega, a2 j (by rw [List.length_cons] at hj; omega)]
          rfl
      · rw [a3 r j (by omega), mset_ne (by omega)]
theorem W_dig {l : List Int} {i : Int} (hl : zOkL l) (h7 : l.length ≤ 7) (i0 : 0 ≤ i) (i1 : i ≤ 6) : wand (wl2i (qshr (zPk 32 l) (wmul i 5))) 31 = l.getD i.toNat 0 := by
  have p0 := zPk_pos (b := 32) (Or.inr rfl) hl
  have p1 := (zPk_lt hl h7).1
  have p2 : (32 : Int) ^ 7 = 34359738368 := by decide
  rw [p2] at p1
  rw [q_dig p0 (by omega) i0 i1]
  exact zPk_dig l i.toNat hl
theorem W_skip {l : List Int} {h : zHC} (hl : zOkL l) (h7 : l.length ≤ 7) : ∀ (n : Nat) (i : Int), (l.length : Int) - 1 ≤ i → i ≤ 6 → i + 1 < n → ∃ n' : Nat, (l.length : Int) < n' ∧ F143_0 n (zPk 32 l) i h = F143_0 n' (zPk 32 l) ((l.length : Int) - 1) h := by
  intro n
  induction n with
  | zero => intro i i0 i1 g; omega
  | succ n ih =>
    intro i i0 i1 g
    by_cases q : i = (l.length : Int) - 1
    · exact ⟨n + 1, by omega, by rw [q]⟩
    · rw [F143_0, if_neg (by omega), W_dig hl h7 (by omega) i1]
      have e : l.getD i.toNat 0 = 0 := by rw [List.getD_eq_getElem?_getD, List.getElem?_eq_none (by omega)]; rfl
      unfold F143_1
      rw [e, if_pos (by decide), wadd_eq (by omega) (by omega)]
      exact ih (i + -1) (by omega) (by omega) (by omega)
theorem W_both {k0 : Int → Int → zHM → Option (Int × zHM)} {v1 v2 v3 : Int} {l : List Int} (hl : zOkL l) (h7 : l.length ≤ 7) : ∀ (n n' : Nat) (i : Int) (h : zHC) (m : zHM), zWr h m → -1 ≤ i → i < (l.length : Int) → (∀ j : Int, 0 ≤ j → j ≤ i → m 43 j = l.getD j.toNat 0 + 96) → m 44 0 + i + 1 ≤ 96 → i + 1 < n → i + 1 < n' → ∃ n'' h' m', 0 < n'' ∧ F143_0 n (zPk 32 l) i h = some h' ∧ F276_3 k0 n' v1 v2 v3 i m = F276_3 k0 n'' v1 v2 v3 (-1) m' ∧ zWr h' m' ∧ m' 44 0 = m 44 0 + i + 1 ∧ wfC h h' ∧ wfM m m' := by
  intro n
  induction n with
  | zero => intro n' i h m _ i0 _ _ _ g; omega
  | succ n ih =>
    intro n' i h m hW i0 i1 hm g g1 g2
    cases n' with
    | zero => omega
    | succ n' =>
      by_cases q : i = -1
      · subst q
        rw [F143_0, if_pos (by decide)]
        exact ⟨n' + 1, h, m, by omega, rfl, rfl, hW, by omega, fun _ _ _ _ => rfl, fun _ _ _ => rfl⟩
      · have hi : i.toNat < l.length := by omega
        have hd := hl (l.getD i.toNat 0) (by rw [List.getD_eq_getElem?_getD, List.getElem?_eq_getElem hi]; exact List.getElem_mem hi)
        rw [F143_0, F276_3, if_neg (show ¬ i < 0 by omega), if_neg (show ¬ i < 0 by omega), W_dig hl h7 (by omega) (by omega), if_neg (by omega), wadd_eq (x := 97) (by omega) (by omega), wsub_eq (by omega) (by omega), zG_t (by omega), hm i (by omega) (Int.le_refl _), show 97 + l.getD i.toNat 0 - 1 = l.getD i.toNat 0 + 96 by omega]
        obtain ⟨h1, m1, a1, a2, a3, a4, a5, a6⟩ := W_put (v := l.getD i.toNat 0 + 96) hW (by omega)
        rw [a1, a2, Option.bind_some, Option.bind_some]
        unfold F143_1
        rw [wadd_eq (x := i) (by omega) (by omega)]
        obtain ⟨n'', h2, m2, b0, b1, b2, b3, b4, b5, b6⟩ := ih n' (i + -1) h1 m1 a3 (by omega) (by omega) (fun j j0 j1 => by rw [a6 43 j (by decide)]; exact hm j j0 (by omega)) (by omega) (by omega) (by omega)
        exact ⟨n'', h2, m2, b0, b1, b2, b3, by omega, fun r n j g => by rw [b5 r n j g, a5 r n j g], fun r j g => by rw [b6 r j g, a6 r j g]⟩
