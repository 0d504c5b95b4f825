/-! A sentence's code and its tree, grown together. -/
theorem zEv_up {nd : Int → Int} {f : Int → Int → Int → Bool} : ∀ (n : Nat) (k : Int) (b : Bool), zEv nd f n k = some b → zEv nd f (n + 1) k = some b := by
  intro n
  induction n with
  | zero => intro k b e; cases e
  | succ n ih =>
    intro k b e
    rw [zEv] at e
    rw [zEv]
    by_cases q : 0 ≤ k ∧ k < 60
    · rw [if_pos q] at e ⊢
      by_cases a : nd (4 * k) = 1
      · rw [if_pos a] at e ⊢
        obtain ⟨b1, y1, y2⟩ := Option.bind_eq_some_iff.mp e
        rw [ih _ _ y1, Option.bind_some]
        exact y2
      · rw [if_neg a] at e ⊢
        by_cases a : nd (4 * k) = 2
        · rw [if_pos a] at e ⊢
          obtain ⟨b1, y1, y2⟩ := Option.bind_eq_some_iff.mp e
          obtain ⟨b2, y3, y4⟩ := Option.bind_eq_some_iff.mp y2
          rw [ih _ _ y1, Option.bind_some, ih _ _ y3, Option.bind_some]
          exact y4
        · rw [if_neg a] at e ⊢
          by_cases a : nd (4 * k) = 3
          · rw [if_pos a] at e ⊢
            obtain ⟨b1, y1, y2⟩ := Option.bind_eq_some_iff.mp e
            obtain ⟨b2, y3, y4⟩ := Option.bind_eq_some_iff.mp y2
            rw [ih _ _ y1, Option.bind_some, ih _ _ y3, Option.bind_some]
            exact y4
          · rw [if_neg a] at e ⊢
            exact e
    · rw [if_neg q] at e
      cases e
theorem zEv_le {nd : Int → Int} {f : Int → Int → Int → Bool} {n : Nat} {k : Int} {b : Bool} (e : zEv nd f n k = some b) : ∀ n' : Nat, n ≤ n' → zEv nd f n' k = some b := by
  intro n'
  induction n' with
  | zero => intro h; rw [show n = 0 by omega] at e; exact e
  | succ n' ih =>
    intro h
    by_cases q : n = n' + 1
    · rw [← q]; exact e
    · exact zEv_up _ _ _ (ih (by omega))
theorem zEx_app {f : Int → Int → Int → Bool} {P Q : List (Int × Int × Int)} {stk : List Bool} : zEx f (P ++ Q) stk = zEx f Q (zEx f P stk) := by
  unfold zEx
  exact List.foldl_append
/-- code that puts one answer on top, and the node that answers alike, whatever the nodes from N on are -/
def zPT (P : List (Int × Int × Int)) (nd : Int → Int) (N : Nat) (k : Int) : Prop := ∀ f, ∃ b, (∀ stk, zEx f P stk = b :: stk) ∧ ∀ nd' : Int → Int, (∀ j, 0 ≤ j → j < 4 * (N : Int) → nd' j = nd j) → zEv nd' f N k = some b
theorem zPT_keep {P : List (Int × Int × Int)} {nd nd2 : Int → Int} {N N2 : Nat} {k : Int} (h : zPT P nd N k) (hN : N ≤ N2) (hn : ∀ j, 0 ≤ j → j < 4 * (N : Int) → nd2 j = nd j) : zPT P nd2 N2 k := by
  intro f
  obtain ⟨b, b1, b2⟩ := h f
  exact ⟨b, b1, fun nd' e => zEv_le (b2 nd' (fun j j0 j1 => by rw [e j j0 (by omega), hn j j0 j1])) N2 hN⟩
theorem zPT_leaf {nd : Int → Int} {N : Nat} {w x y : Int} (hN : N < 60) (w0 : 13 ≤ w) (w1 : w ≤ 20) (n0 : nd (4 * N) = 50 + w) (n3 : nd (4 * N + 3) = x) (ny : nd (4 * N + 1) + nd (4 * N + 2) = y) (g0 : w ≤ 16 → nd (4 * N + 2) = 0) (g1 : 17 ≤ w → nd (4 * N + 1) = 0 ∧ 60 ≤ x ∧ x ≤ 62) : zPT [(w, x, y)] nd (N + 1) N := by
  intro f
  refine ⟨f w x y, fun stk => ?_, fun nd' e => ?_⟩
  · show zEx1 f (w, x, y) stk = _
    unfold zEx1
    dsimp only
    rw [if_neg (by omega), if_neg (by omega), if_neg (by omega)]
  · have e0 : nd' (4 * N) = 50 + w := by rw [e _ (by omega) (by omega)]; exact n0
    have e1 : nd' (4 * N + 1) = nd (4 * N + 1) := e _ (by omega) (by omega)
    have e2 : nd' (4 * N + 2) = nd (4 * N + 2) := e _ (by omega) (by omega)
    have e3 : nd' (4 * N + 3) = x := by rw [e _ (by omega) (by omega)]; exact n3
    rw [zEv, if_pos (by omega), e0, if_neg (by omega), if_neg (by omega), if_neg (by omega), e1, e2, e3, ny, if_pos ⟨by omega, by omega, fun z => g0 (by omega), fun z => g1 (by omega)⟩, show 50 + w - 50 = w by omega]
theorem zPT_not {P : List (Int × Int × Int)} {nd nd2 : Int → Int} {N : Nat} {k : Int} (h : zPT P nd N k) (hN : N < 60) (hn : ∀ j, 0 ≤ j → j < 4 * (N : Int) → nd2 j = nd j) (n0 : nd2 (4 * N) = 1) (n1 : nd2 (4 * N + 1) = k) : zPT (P ++ [(12, 0, 0)]) nd2 (N + 1) N := by
  intro f
  obtain ⟨b, b1, b2⟩ := h f
  refine ⟨!b, fun stk => ?_, fun nd' e => ?_⟩
  · rw [zEx_app, b1]
    rfl
  · have e0 : nd' (4 * N) = 1 := by rw [e _ (by omega) (by omega)]; exact n0
    have e1 : nd' (4 * N + 1) = k := by rw [e _ (by omega) (by omega)]; exact n1
    rw [zEv, if_pos (by omega), if_pos e0, e1, b2 nd' (fun j j0 j1 => by rw [e j j0 (by omega), hn j j0 j1])]
    rfl
theorem zPT_and {P Q : List (Int × Int × Int)} {nd nd2 : Int → Int} {N : Nat} {k k2 : Int} (h : zPT P nd N k) (h2 : zPT Q nd N k2) (hN : N < 60) (hn : ∀ j, 0 ≤ j → j < 4 * (N : Int) → nd2 j = nd j) (n0 : nd2 (4 * N) = 2) (n1 : nd2 (4 * N + 1) = k) (n2 : nd2 (4 * N + 2) = k2) : zPT (P ++ Q ++ [(11, 0, 0)]) nd2 (N + 1) N := by
  intro f
  obtain ⟨b, b1, b2⟩ := h f
  obtain ⟨c, c1, c2⟩ := h2 f
  refine ⟨b && c, fun stk => ?_, fun nd' e => ?_⟩
  · rw [zEx_app, zEx_app, b1, c1]
    rfl
  · have e0 : nd' (4 * N) = 2 := by rw [e _ (by omega) (by omega)]; exact n0
    have e1 : nd' (4 * N + 1) = k := by rw [e _ (by omega) (by omega)]; exact n1
    have e2 : nd' (4 * N + 2) = k2 := by rw [e _ (by omega) (by omega)]; exact n2
    have ag : ∀ j, 0 ≤ j → j < 4 * (N : Int) → nd' j = nd j := fun j j0 j1 => by rw [e j j0 (by omega), hn j j0 j1]
    rw [zEv, if_pos (by omega), if_neg (by omega), if_pos e0, e1, e2, b2 nd' ag, c2 nd' ag]
    rfl
theorem zPT_or {P Q : List (Int × Int × Int)} {nd nd2 : Int → Int} {N : Nat} {k k2 : Int} (h : zPT P nd N k) (h2 : zPT Q nd N k2) (hN : N < 60) (hn : ∀ j, 0 ≤ j → j < 4 * (N : Int) → nd2 j = nd j) (n0 : nd2 (4 * N) = 3) (n1 : nd2 (4 * N + 1) = k) (n2 : nd2 (4 * N + 2) = k2) : zPT (P ++ Q ++ [(10, 0, 0)]) nd2 (N + 1) N := by
  intro f
  obtain ⟨b, b1, b2⟩ := h f
  obtain ⟨c, c1, c2⟩ := h2 f
  refine ⟨b || c, fun stk => ?_, fun nd' e => ?_⟩
  · rw [zEx_app, zEx_app, b1, c1]
    rfl
  · have e0 : nd' (4 * N) = 3 := by rw [e _ (by omega) (by omega)]; exact n0
    have e1 : nd' (4 * N + 1) = k := by rw [e _ (by omega) (by omega)]; exact n1
    have e2 : nd' (4 * N + 2) = k2 := by rw [e _ (by omega) (by omega)]; exact n2
    have ag : ∀ j, 0 ≤ j → j < 4 * (N : Int) → nd' j = nd j := fun j j0 j1 => by rw [e j j0 (by omega), hn j j0 j1]
    rw [zEv, if_pos (by omega), if_neg (by omega), if_neg (by omega), if_pos e0, e1, e2, b2 nd' ag, c2 nd' ag]
    rfl
