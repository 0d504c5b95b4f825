/-! What the abstract machine's things are on the real one. -/
def cv (b : Nat) (as : List Nat) (a : zAv) : Value := match a.1 with
  | 0 => .int (Int32.ofInt a.2)
  | 1 => .long (Int64.ofInt a.2)
  | 2 => .ref (as.getD a.2.toNat 0)
  | _ => .ref b
def wfv (n : Nat) (sc : Prop) (a : zAv) : Prop := match a.1 with
  | 0 => zR32 a.2
  | 1 => zR64 a.2
  | 2 => 0 ≤ a.2 ∧ a.2 < (n : Int)
  | 5 => sc
  | _ => False
def zFv (as : List Nat) (t : Nat) (x : Int) : Value := match t with
  | 0 => .int (Int32.ofInt x)
  | 1 => .long (Int64.ofInt x)
  | _ => if x < 0 then .null else .ref (as.getD x.toNat 0)
def wff (n : Nat) (t : Nat) (x : Int) : Prop := match t with
  | 0 => zR32 x
  | 1 => zR64 x
  | _ => x < (n : Int)
def zKt (kd : Nat) : Nat := match kd with
  | 20 => 0
  | 21 => 1
  | 22 => 0
  | _ => 2
def wfc (n : Nat) (c : zCe) : Prop := (c.1 < 13 ∧ c.2.1 = zNf c.1 ∧ ∀ k, k < c.2.1 → wff n (zTag c.1 k) (c.2.2 k)) ∨ (20 ≤ c.1 ∧ c.1 < 25 ∧ c.2.1 ≤ 100000 ∧ ∀ k, k < c.2.1 → wff n (zKt c.1) (c.2.2 k))
def zEr (as : List Nat) (x : Int) : Option Nat := if x < 0 then none else some (as.getD x.toNat 0)
def zEnt (as : List Nat) (cA : ClassId) (c : zCe) : va_E := match Nat.ble 20 c.1 with
  | false => .inr (c.1, (List.range c.2.1).map (fun k => zFv as (zTag c.1 k) (c.2.2 k)))
  | true => .inl (cA, c.2.1, match c.1 with
    | 20 => .inl (fun j => Int32.ofInt (c.2.2 j))
    | 22 => .inl (fun j => Int32.ofInt (c.2.2 j))
    | 21 => .inr (.inl (fun j => Int64.ofInt (c.2.2 j)))
    | _ => .inr (.inr (.inr (.inr (fun j => zEr as (c.2.2 j))))))
def zWs (as : List Nat) (ca : Nat → ClassId) (h : zH1) : va_W := h.mapIdx (fun k c => (as.getD k 0, zEnt as (ca k) c))
theorem zWs_at {as : List Nat} {ca : Nat → ClassId} {h : zH1} {k : Nat} {c : zCe} (e : h[k]? = some c) : (zWs as ca h)[k]? = some (as.getD k 0, zEnt as (ca k) c) := by
  simp [zWs, e]
theorem zWs_len {as : List Nat} {ca : Nat → ClassId} {h : zH1} : (zWs as ca h).length = h.length := by simp [zWs]
theorem zWs_set {as : List Nat} {ca : Nat → ClassId} {h : zH1} {k : Nat} {c' : zCe} : (zWs as ca h).set k (as.getD k 0, zEnt as (ca k) c') = zWs as ca (h.set k c') := by
  apply List.ext_getElem?
  intro i
  simp only [zWs, List.getElem?_set, List.getElem?_mapIdx, List.length_mapIdx]
  by_cases hi : k = i
  · subst hi
    by_cases hl : k < h.length <;> simp [hl]
  · simp [hi]
theorem getD_app {as : List Nat} {q k : Nat} (h : k < as.length) : (as ++ [q]).getD k 0 = as.getD k 0 := by
  simp [List.getD_eq_getElem?_getD, List.getElem?_append_left h]
theorem getD_last {as : List Nat} {q : Nat} : (as ++ [q]).getD as.length 0 = q := by
  simp [List.getD_eq_getElem?_getD]
theorem zFv_app {as : List Nat} {q t : Nat} {x : Int} (h : wff as.length t x) : zFv (as ++ [q]) t x = zFv as t x := by
  unfold zFv wff at *
  split
  · rfl
  · rfl
  · rename_i h0 h1
    split
    · rfl
    · rename_i hx
      have : x < (as.length : Int) := by
        revert h; split
        · exact absurd rfl h0
        · exact absurd rfl h1
        · exact id
      rw [getD_app (by omega)]
theorem zEr_app {as : List Nat} {q : Nat} {x : Int} (h : x < (as.length : Int)) : zEr (as ++ [q]) x = zEr as x := by
  unfold zEr
  split
  · rfl
  · rw [getD_app (by omega)]
theorem zEnt_congr {as as' : List Nat} {cA : ClassId} {k n : Nat} {f g : Nat → Int} (hk : k < 20) (h : ∀ j, j < n → zFv as (zTag k j) (f j) = zFv as' (zTag k j) (g j)) : zEnt as cA (k, n, f) = zEnt as' cA (k, n, g) := by
  have hb : Nat.ble 20 k = false := by
    cases e : Nat.ble 20 k with
    | false => rfl
    | true => have := Nat.le_of_ble_eq_true e; omega
  simp only [zEnt, hb]
  congr 2
  apply List.map_congr_left
  intro j hj
  exact h j (List.mem_range.mp hj)
/-- beyond an array's size it doesn't matter what its row holds -/
theorem vp_cell_congr {cA : ClassId} {n : Nat} {f g : Nat → Option Nat} (h : ∀ j, j < n → f j = g j) : vp_cell cA (n, .inr (.inr (.inr (.inr f)))) = vp_cell cA (n, .inr (.inr (.inr (.inr g)))) := by
  simp only [vp_cell, arrV]
  congr 2
  funext j
  rw [h j.val j.isLt]
theorem zAt_app {D : va_G} {as : List Nat} {q a : Nat} {cA : ClassId} {c : zCe} {H : Heap} (hw : wfc as.length c) (h : va_at D vwCl (a, zEnt as cA c) H) : va_at D vwCl (a, zEnt (as ++ [q]) cA c) H := by
  obtain ⟨k, n, f⟩ := c
  rcases hw with ⟨h1, h2, h3⟩ | ⟨h1, h2, h3, h4⟩
  · rw [zEnt_congr (as := as ++ [q]) (as' := as) (g := f) (by omega) (fun j hj => zFv_app (h3 j hj))]
    exact h
  · have hb : Nat.ble 20 k = true := Nat.ble_eq_true_of_le h1
    simp only [zEnt, hb] at h ⊢
    have hk : k = 20 ∨ k = 21 ∨ k = 22 ∨ k = 23 ∨ k = 24 := by simp only at h1 h2; omega
    rcases hk with rfl | rfl | rfl | rfl | rfl
    · exact h
    · exact h
    · exact h
    · show H[a]? = some (vp_cell cA (n, .inr (.inr (.inr (.inr (fun j => zEr (as ++ [q]) (f j)))))))
      rw [vp_cell_congr (g := fun j => zEr as (f j)) (fun j hj => zEr_app (h4 j hj))]
      exact h
    · show H[a]? = some (vp_cell cA (n, .inr (.inr (.inr (.inr (fun j => zEr (as ++ [q]) (f j)))))))
      rw [vp_cell_congr (g := fun j => zEr as (f j)) (fun j hj => zEr_app (h4 j hj))]
      exact h
theorem cv_app {b : Nat} {as : List Nat} {sc : Prop} {q : Nat} {a : zAv} (h : wfv as.length sc a) : cv b (as ++ [q]) a = cv b as a := by
  obtain ⟨t, x⟩ := a
  unfold cv wfv at *
  simp only at *
  split
  · rfl
  · rfl
  · obtain ⟨h1, h2⟩ := h
    rw [getD_app (by omega)]
  · rfl
theorem wfv_up {n n' : Nat} {sc : Prop} {a : zAv} (hn : n ≤ n') (h : wfv n sc a) : wfv n' sc a := by
  obtain ⟨t, x⟩ := a
  unfold wfv at *
  simp only at *
  split at h
  · exact h
  · exact h
  · exact ⟨h.1, by omega⟩
  · exact h
  · exact h
theorem wff_up {n n' t : Nat} {x : Int} (hn : n ≤ n') (h : wff n t x) : wff n' t x := by
  unfold wff at *
  split at h
  · exact h
  · exact h
  · omega
theorem wfc_up {n n' : Nat} {c : zCe} (hn : n ≤ n') (h : wfc n c) : wfc n' c := by
  rcases h with ⟨h1, h2, h3⟩ | ⟨h1, h2, h3, h4⟩
  · exact Or.inl ⟨h1, h2, fun k hk => wff_up hn (h3 k hk)⟩
  · exact Or.inr ⟨h1, h2, h3, fun k hk => wff_up hn (h4 k hk)⟩
/-- the heap -/
def zHR (s : State) (D : va_G) (A : Nat → Prop) (H0 : Heap) (as : List Nat) (ca : Nat → ClassId) (h : zH1) (H : Heap) (locs : List Loc) : Prop :=
  as.length = h.length ∧ (∃ tys, va_K D vwCl tys s ∧ ∀ (k : Nat) (c : zCe), h[k]? = some c → 20 ≤ c.1 → ∃ t0 : Nat, tys[t0]? = some (ca k, zAk c.1)) ∧ va_P D vwCl (zWs as ca h) H ∧ va_D A (zWs as ca h) ∧ va_S A H0 H locs ∧ ∀ (k : Nat) (c : zCe), h[k]? = some c → wfc h.length c
def lvF (b : Nat) (as : List Nat) (ls : Array Slot) (nL : Nat) (L : zLo) : Prop := ls.size = nL ∧ lv_wf ls ∧ ∀ (i : Nat) (a : zAv), zGl L i = some a → ls[i]? = some (.val (cv b as a))
/-- the frame -/
def zFR (b : Nat) (sc : Prop) (as : List Nat) (n : Nat) (L : zLo) (st : List zAv) (ls : Array Slot) (nL : Nat) : Prop :=
  lvF b as ls nL L ∧ L.length = nL ∧ (∀ (i : Nat) (a : zAv), zGl L i = some a → wfv n sc a) ∧ ∀ a ∈ st, wfv n sc a
theorem zGl_set {L : zLo} {i j : Nat} {x : Option zAv} {a : zAv} (h : zGl (L.set i x) j = some a) : (i = j ∧ x = some a) ∨ (i ≠ j ∧ zGl L j = some a) := by
  unfold zGl at *
  rw [List.getElem?_set] at h
  by_cases hi : i = j
  · rw [if_pos hi] at h
    left
    refine ⟨hi, ?_⟩
    by_cases hl : i < L.length
    · rw [if_pos hl] at h
      cases x with
      | none => simp at h
      | some y => simpa using h
    · rw [if_neg hl] at h
      simp at h
  · rw [if_neg hi] at h
    exact Or.inr ⟨hi, h⟩
theorem zGl_kl {L : zLo} {i j : Nat} {a : zAv} (h : zGl (zKl L i) j = some a) : zGl L j = some a ∧ ¬ (j + 1 = i ∧ a.1 = 1) := by
  cases i with
  | zero => exact ⟨h, fun q => by omega⟩
  | succ i =>
    unfold zKl at h
    simp only at h
    split at h
    · rename_i x hx
      rcases zGl_set h with ⟨h1, h2⟩ | ⟨h1, h2⟩
      · cases h2
      · exact ⟨h2, fun q => h1 (by omega)⟩
    · rename_i hx
      refine ⟨h, fun q => ?_⟩
      obtain ⟨q1, q2⟩ := q
      have hj : j = i := by omega
      subst hj
      obtain ⟨t, x⟩ := a
      simp only at q2
      subst q2
      exact hx x h
theorem zKl_len {L : zLo} {i : Nat} : (zKl L i).length = L.length := by
  cases i with
  | zero => rfl
  | succ i => unfold zKl; simp only; split <;> simp
theorem cv_cat2 {b : Nat} {as : List Nat} {a : zAv} (h : (cv b as a).category = 2) : a.1 = 1 := by
  obtain ⟨t, x⟩ := a
  unfold cv at h
  simp only at *
  split at h <;> simp_all [Value.category]
theorem cv_cat1 {b : Nat} {as : List Nat} {a : zAv} (h : ¬ a.1 = 1) : (cv b as a).category = 1 := by
  rcases lv_cat (cv b as a) with h1 | h1
  · exact h1
  · exact absurd (cv_cat2 h1) h
/-- the listed values of the locals -/
def zAs (b : Nat) (as : List Nat) (L : zLo) : List (Nat × Value) := (List.range L.length).filterMap (fun i => (zGl L i).map (fun a => (i, cv b as a)))
theorem zGl_lt {L : zLo} {i : Nat} {a : zAv} (h : zGl L i = some a) : i < L.length := by
  unfold zGl at h
  split at h
  · rename_i e; exact (List.getElem?_eq_some_iff.mp e).1
  · cases h
theorem zAs_in {b : Nat} {as : List Nat} {L : zLo} {i : Nat} {a : zAv} (h : zGl L i = some a) : (i, cv b as a) ∈ zAs b as L :=
  List.mem_filterMap.mpr ⟨i, List.mem_range.mpr (zGl_lt h), by rw [h]; rfl⟩
theorem lvF.has {b : Nat} {as : List Nat} {ls : Array Slot} {nL : Nat} {L : zLo} (h : lvF b as ls nL L) : lv_has ls nL (zAs b as L) := by
  refine ⟨h.1, h.2.1, fun q hq => ?_⟩
  obtain ⟨i, -, hi⟩ := List.mem_filterMap.mp hq
  cases e : zGl L i with
  | none => rw [e] at hi; cases hi
  | some a => rw [e] at hi; cases hi; exact h.2.2 i a e
theorem lvF.sto {b : Nat} {as : List Nat} {ls' : Array Slot} {nL n : Nat} {L : zLo} {a : zAv} (h : lv_has ls' nL ((n, cv b as a) :: (zAs b as L).filter (fun q => !(q.1 == n) && !(q.1 + 1 == n && q.2.category == 2)))) : lvF b as ls' nL (zSt L n a) := by
  refine ⟨h.1, h.2.1, fun j c hj => ?_⟩
  rcases zGl_set hj with ⟨h1, h2⟩ | ⟨h1, h2⟩
  · cases h2
    subst h1
    exact h.2.2 (n, _) List.mem_cons_self
  · obtain ⟨h3, h4⟩ := zGl_kl h2
    refine h.2.2 (j, cv b as c) (List.mem_cons_of_mem _ (List.mem_filter.mpr ⟨zAs_in h3, ?_⟩))
    simp only [Bool.and_eq_true, Bool.not_eq_true', beq_eq_false_iff_ne, Bool.and_eq_false_iff]
    refine ⟨fun e => h1 e.symm, ?_⟩
    by_cases hc : (cv b as c).category = 2
    · left
      intro e
      exact h4 ⟨e, cv_cat2 hc⟩
    · right
      exact hc
theorem lvF.stoL {b : Nat} {as : List Nat} {ls' : Array Slot} {nL n : Nat} {L : zLo} {a : zAv} (h : lv_has ls' nL ((n, cv b as a) :: (zAs b as L).filter (fun q => !(q.1 == n) && (!(q.1 == n + 1) && !(q.1 + 1 == n && q.2.category == 2))))) : lvF b as ls' nL (zStL L n a) := by
  refine ⟨h.1, h.2.1, fun j c hj => ?_⟩
  rcases zGl_set hj with ⟨h1, h2⟩ | ⟨h0, h2⟩
  · cases h2
  · rcases zGl_set h2 with ⟨h1, h2⟩ | ⟨h1, h2⟩
    · cases h2
      subst h1
      exact h.2.2 (n, _) List.mem_cons_self
    · obtain ⟨h3, h4⟩ := zGl_kl h2
      refine h.2.2 (j, cv b as c) (List.mem_cons_of_mem _ (List.mem_filter.mpr ⟨zAs_in h3, ?_⟩))
      simp only [Bool.and_eq_true, Bool.not_eq_true', beq_eq_false_iff_ne, Bool.and_eq_false_iff]
      refine ⟨fun e => h1 e.symm, fun e => h0 e.symm, ?_⟩
      by_cases hc : (cv b as c).category = 2
      · left
        intro e
        exact h4 ⟨e, cv_cat2 hc⟩
      · right
        exact hc
theorem o32 {x : Int} (h : zR32 x) : (Int32.ofInt x).toInt = x := Int32.toInt_ofInt_of_le h.1 h.2
theorem o64 {x : Int} (h : zR64 x) : (Int64.ofInt x).toInt = x := Int64.toInt_ofInt_of_le h.1 h.2
theorem r32 (x : Int32) : zR32 x.toInt := ⟨x.le_toInt, x.toInt_lt⟩
theorem r64 (x : Int64) : zR64 x.toInt := ⟨x.le_toInt, x.toInt_lt⟩
theorem o32_lt {x y : Int} (hx : zR32 x) (hy : zR32 y) : Int32.ofInt x < Int32.ofInt y ↔ x < y := by
  rw [Int32.lt_iff_toInt_lt, o32 hx, o32 hy]
theorem o32_le {x y : Int} (hx : zR32 x) (hy : zR32 y) : Int32.ofInt x ≤ Int32.ofInt y ↔ x ≤ y := by
  rw [Int32.le_iff_toInt_le, o32 hx, o32 hy]
theorem o32_eq {x y : Int} (hx : zR32 x) (hy : zR32 y) : Int32.ofInt x = Int32.ofInt y ↔ x = y := by
  rw [← Int32.toInt_inj, o32 hx, o32 hy]
theorem o64_lt {x y : Int} (hx : zR64 x) (hy : zR64 y) : Int64.ofInt x < Int64.ofInt y ↔ x < y := by
  rw [Int64.lt_iff_toInt_lt, o64 hx, o64 hy]
theorem o64_eq {x y : Int} (hx : zR64 x) (hy : zR64 y) : Int64.ofInt x = Int64.ofInt y ↔ x = y := by
  rw [← Int64.toInt_inj, o64 hx, o64 hy]
theorem o32_0 : Int32.ofInt 0 = 0 := rfl
theorem r32_0 : zR32 0 := ⟨by decide, by decide⟩
theorem o32_cl {x : Int} (h : zR32 x) (h0 : 0 ≤ x) : (Int32.ofInt x).toNatClampNeg = x.toNat := by
  rw [Int32.toNatClampNeg, o32 h]
theorem o32_in {x : Int} {n : Nat} (h : zR32 x) (h0 : 0 ≤ x ∧ x < (n : Int)) : vp_in (Int32.ofInt x) n := by
  unfold vp_in
  rw [Int32.lt_iff_toInt_lt, o32 h, o32_cl h h0.1]
  have : (0 : Int32).toInt = 0 := rfl
  omega
