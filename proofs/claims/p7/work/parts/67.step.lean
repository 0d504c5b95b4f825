/-! The next token. -/
theorem M8 {m : zHM} {v2 v3 c t : Int} {k0 : Int → Int → zHM → Option zHM} (p0 : 0 ≤ m 5 0) (p1 : m 5 0 < 940) (f0 : 0 ≤ m 6 0) (f1 : m 6 0 ≤ m 5 0) (hc : m 1 (m 5 0) = c) (ht : m 5 0 - m 6 0 = t) (c0 : 0 ≤ c) (c1 : c ≤ 255) : ∃ m1, F176_8 k0 v2 v3 m = k0 v2 (if v3 = 0 then 0 else if (if 97 ≤ c ∧ c ≤ 122 then (1 : Int) else 0) = v2 then 1 else 0) m1 ∧ m1 5 0 = m 5 0 + 1 ∧ m1 12 0 = (if 7 ≤ t then m 12 0 else qsub (qadd (qmul 27 (m 12 0)) c) 96) ∧ m1 8 0 = (if 3 ≤ t then m 8 0 else wsub (wadd (wmul 10 (m 8 0)) c) 48) ∧ ∀ r j, ¬ ((r = 5 ∨ r = 8 ∨ r = 12) ∧ j = 0) → m1 r j = m r j := by
  have w : wsub (m 5 0) (m 6 0) = t := by rw [wsub_eq (by omega) (by omega)]; exact ht
  have w1 : wadd (m 5 0) 1 = m 5 0 + 1 := wadd_eq (by omega) (by omega)
  have key : ∀ s0, ∃ m1, F176_13 k0 v2 c s0 m = k0 v2 s0 m1 ∧ m1 5 0 = m 5 0 + 1 ∧ m1 12 0 = (if 7 ≤ t then m 12 0 else qsub (qadd (qmul 27 (m 12 0)) c) 96) ∧ m1 8 0 = (if 3 ≤ t then m 8 0 else wsub (wadd (wmul 10 (m 8 0)) c) 48) ∧ ∀ r j, ¬ ((r = 5 ∨ r = 8 ∨ r = 12) ∧ j = 0) → m1 r j = m r j := by
    intro s0
    unfold F176_13 F176_14 F176_15
    rw [w]
    by_cases q7 : 7 ≤ t
    · rw [if_pos q7, if_pos q7, if_pos (show 3 ≤ t by omega), if_pos (show 3 ≤ t by omega), w1]
      exact ⟨_, rfl, mset_eq, mset_ne (by omega), mset_ne (by omega), fun r j hne => mset_ne (by omega)⟩
    · rw [if_neg q7, if_neg q7, mset_ne (show ¬ ((5 : Nat) = 12 ∧ (0 : Int) = 0) by omega), mset_ne (show ¬ ((6 : Nat) = 12 ∧ (0 : Int) = 0) by omega), w]
      by_cases q3 : 3 ≤ t
      · rw [if_pos q3, if_pos q3, w1]
        exact ⟨_, rfl, mset_eq, by rw [mset_ne (by omega), mset_eq], by rw [mset_ne (by omega), mset_ne (by omega)], fun r j hne => by rw [mset_ne (by omega), mset_ne (by omega)]⟩
      · rw [if_neg q3, if_neg q3, mset_ne (k' := 8) (show ¬ ((8 : Nat) = 12 ∧ (0 : Int) = 0) by omega)]
        rw [mset_ne (k' := 5) (show ¬ ((5 : Nat) = 8 ∧ (0 : Int) = 0) by omega), mset_ne (k' := 5) (show ¬ ((5 : Nat) = 12 ∧ (0 : Int) = 0) by omega), w1]
        exact ⟨_, rfl, mset_eq, by rw [mset_ne (by omega), mset_ne (by omega), mset_eq], by rw [mset_ne (by omega), mset_eq], fun r j hne => by rw [mset_ne (by omega), mset_ne (by omega), mset_ne (by omega)]⟩
  unfold F176_8 F176_12
  rw [zG_t (by omega), hc]
  by_cases q : v3 = 0
  · rw [if_pos q, if_pos q]
    exact key 0
  · rw [if_neg q, if_neg q, F177_s, Option.bind_some]
    by_cases u : (if 97 ≤ c ∧ c ≤ 122 then (1 : Int) else 0) = v2
    · rw [if_neg (fun z => z u), if_pos u]
      exact key 1
    · rw [if_pos u, if_neg u]
      exact key 0
theorem C2l {h : zHC} {L D c : Int} {k0 : Int → Int → zHC → Option zHC} (p0 : 0 ≤ h 328 0 0) (p1 : h 328 0 0 < 940) (hc : h 320 0 (h 328 0 0) = c) (c0 : 97 ≤ c) (c1 : c ≤ 122) (L0 : 0 ≤ L) (L1 : L ≤ 2000) : ∃ h1, F26_2 k0 L D h = k0 (L + 1) D h1 ∧ h1 328 0 0 = h 328 0 0 + 1 ∧ h1 327 0 0 = (if 7 < L + 1 then 0 else qor (qshl (h 327 0 0) 5) (c - 96)) ∧ ∀ r n j, ¬ ((r = 327 ∨ r = 328) ∧ n = 0 ∧ j = 0) → h1 r n j = h r n j := by
  have w1 : wadd (h 328 0 0) 1 = h 328 0 0 + 1 := wadd_eq (by omega) (by omega)
  have wl : wadd L 1 = L + 1 := wadd_eq (by omega) (by omega)
  unfold F26_2 F26_4 F26_5
  rw [zG_t (by omega), hc, F24_s, Option.bind_some, if_pos (show 97 ≤ c ∧ c ≤ 122 by omega), if_neg (show ¬ (1 : Int) = 0 by decide), wl]
  by_cases q : 7 < L + 1
  · rw [if_pos q, if_pos q, hset_ne (r' := 328) (show ¬ ((328 : Nat) = 327 ∧ (0 : Int) = 0 ∧ (0 : Int) = 0) by omega), w1]
    exact ⟨_, rfl, hset_eq, by rw [hset_ne (by omega), hset_eq], fun r n j hne => by rw [hset_ne (by omega), hset_ne (by omega)]⟩
  · rw [if_neg q, if_neg q, zG_t (by omega)]
    unfold F3
    rw [Option.bind_some, hset_ne (r' := 328) (show ¬ ((328 : Nat) = 327 ∧ (0 : Int) = 0 ∧ (0 : Int) = 0) by omega), w1, wsub_eq (by omega) (by omega), wadd_eq (x := c - 97) (by omega) (by omega), show c - 97 + 1 = c - 96 by omega]
    exact ⟨_, rfl, hset_eq, by rw [hset_ne (by omega), hset_eq], fun r n j hne => by rw [hset_ne (by omega), hset_ne (by omega)]⟩
theorem C2d {h : zHC} {L D c : Int} {k0 : Int → Int → zHC → Option zHC} (p0 : 0 ≤ h 328 0 0) (p1 : h 328 0 0 < 940) (hc : h 320 0 (h 328 0 0) = c) (c0 : 48 ≤ c) (c1 : c ≤ 57) (D0 : 0 ≤ D) (D1 : D ≤ 2000) : ∃ h1, F26_2 k0 L D h = k0 L (D + 1) h1 ∧ h1 328 0 0 = h 328 0 0 + 1 ∧ h1 326 0 0 = (if 3 < D + 1 then 0 else wsub (wadd (wmul (h 326 0 0) 10) c) 48) ∧ ∀ r n j, ¬ ((r = 326 ∨ r = 328) ∧ n = 0 ∧ j = 0) → h1 r n j = h r n j := by
  have w1 : wadd (h 328 0 0) 1 = h 328 0 0 + 1 := wadd_eq (by omega) (by omega)
  have wl : wadd D 1 = D + 1 := wadd_eq (by omega) (by omega)
  unfold F26_2 F26_3 F26_5
  rw [zG_t (by omega), hc, F24_s, Option.bind_some, if_neg (show ¬ (97 ≤ c ∧ c ≤ 122) by omega), if_pos rfl, wl]
  by_cases q : 3 < D + 1
  · rw [if_pos q, if_pos q, hset_ne (r' := 328) (show ¬ ((328 : Nat) = 326 ∧ (0 : Int) = 0 ∧ (0 : Int) = 0) by omega), w1]
    exact ⟨_, rfl, hset_eq, by rw [hset_ne (by omega), hset_eq], fun r n j hne => by rw [hset_ne (by omega), hset_ne (by omega)]⟩
  · rw [if_neg q, if_neg q, zG_t (by omega), hset_ne (r' := 328) (show ¬ ((328 : Nat) = 326 ∧ (0 : Int) = 0 ∧ (0 : Int) = 0) by omega), w1]
    exact ⟨_, rfl, hset_eq, by rw [hset_ne (by omega), hset_eq], fun r n j hne => by rw [hset_ne (by omega), hset_ne (by omega)]⟩
theorem T_run : ∀ (n n' : Nat) (L D t v2 v3 : Int) (h : zHC) (m : zHM), TB h m → RN h m L D t v2 v3 → m 5 0 - m 6 0 = t → h 328 0 0 = m 5 0 → 0 ≤ m 6 0 → m 6 0 ≤ m 5 0 → m 5 0 ≤ m 3 0 → h 325 0 0 = m 6 0 → (t = 0 → m 5 0 < m 3 0 ∧ ((97 ≤ m 1 (m 5 0) ∧ m 1 (m 5 0) ≤ 122 ∧ v2 = 1) ∨ (48 ≤ m 1 (m 5 0) ∧ m 1 (m 5 0) ≤ 57 ∧ v2 = 0))) → m 3 0 - m 5 0 < n → m 3 0 - m 5 0 < n' → ∃ h' m', F26_0 n L D h = some h' ∧ F176_7 n' v2 v3 m = some m' ∧ TR h' m' ∧ (∀ r n j, ¬ ((r = 324 ∨ r = 326 ∨ r = 327 ∨ r = 328) ∧ n = 0 ∧ j = 0) → h' r n j = h r n j) ∧ (∀ r j, ¬ ((r = 5 ∨ r = 7 ∨ r = 8 ∨ r = 12) ∧ j = 0) → m' r j = m r j) := by
  intro n
  induction n with
  | zero => intro n' L D t v2 v3 h m hb hR ht hp f0 f1 p1 hs hf g1 g2; omega
  | succ n ih =>
    intro n' L D t v2 v3 h m hb hR ht hp f0 f1 p1 hs hf g1 g2
    cases n' with
    | zero => omega
    | succ n' =>
      obtain ⟨b1, b2, b3, b4, b5, b6, b7, b8⟩ := id hb
      obtain ⟨r1, r2, r3, r4, r5, r6, r7, r8⟩ := id hR
      have fin : 1 ≤ t → ∃ h' m', F26_1 L D h = some h' ∧ (if v3 = 0 then F176_9 m else if v2 = 0 then F176_10 v2 3 (wsub (m 5 0) (m 6 0)) m else F176_10 v2 7 (wsub (m 5 0) (m 6 0)) m) = some m' ∧ TR h' m' ∧ (∀ r n j, ¬ ((r = 324 ∨ r = 326 ∨ r = 327 ∨ r = 328) ∧ n = 0 ∧ j = 0) → h' r n j = h r n j) ∧ (∀ r j, ¬ ((r = 5 ∨ r = 7 ∨ r = 8 ∨ r = 12) ∧ j = 0) → m' r j = m r j) := by
        intro t1
        obtain ⟨h', m', e1, e2, e3, e4, e5⟩ := T_runEnd (h := h) (m := m) hb t1 hR hp (by omega) p1 hs
        rw [wsub_eq (by omega) (by omega), ht]
        exact ⟨h', m', e1, e2, e3, fun r n j hne => e4 r n j (by omega), fun r j hne => e5 r j (by omega)⟩
      rw [F26_0, F176_7]
      unfold F179
      rw [b1, hp]
      by_cases e : m 3 0 ≤ m 5 0
      · have t1 : 1 ≤ t := by
          by_cases u : t = 0
          · have := (hf u).1; omega
          · omega
        rw [if_pos e, if_pos e, Option.bind_some, F177_s, if_neg (show ¬ (97 ≤ (0 : Int) ∧ (0 : Int) ≤ 122) by decide), Option.bind_some, if_neg (show ¬ ¬ (0 : Int) = 0 by decide), Option.bind_some, F178_s, if_neg (show ¬ (48 ≤ (0 : Int) ∧ (0 : Int) ≤ 57) by decide), Option.bind_some, if_pos rfl]
        exact fin t1
      · obtain ⟨c1, c2, c3⟩ := b7 (m 5 0) (by omega) (by omega)
        rw [if_neg e, if_neg e]
        simp (disch := omega) only [zG_t, Option.bind_some]
        rw [c1]
        generalize hcc : m 1 (m 5 0) = c at c1 c2 c3 hf
        have hcH : h 320 0 (h 328 0 0) = c := by rw [hp]; exact c1
        have kt : (if 97 ≤ c ∧ c ≤ 122 then (1 : Int) else 0) = 1 ∧ 97 ≤ c ∧ c ≤ 122 ∨ (if 97 ≤ c ∧ c ≤ 122 then (1 : Int) else 0) = 0 ∧ ¬ (97 ≤ c ∧ c ≤ 122) := by
          by_cases u : 97 ≤ c ∧ c ≤ 122
          · exact Or.inl ⟨if_pos u, u⟩
          · exact Or.inr ⟨if_neg u, u⟩
        rw [F24_s, F177_s, Option.bind_some, Option.bind_some]
        rcases kt with ⟨k1, k2, k3⟩ | ⟨k1, k2⟩
        · rw [k1, if_pos (show ¬ (1 : Int) = 0 by decide), if_pos (show ¬ (1 : Int) = 0 by decide)]
          obtain ⟨h1, x1, x2, x3, x4⟩ := C2l (h := h) (L := L) (D := D) (c := c) (k0 := F26_0 n) (by omega) (by omega) hcH k2 k3 r1 (by omega)
          obtain ⟨m1, y1, y2, y3, y4, y5⟩ := M8 (m := m) (v2 := v2) (v3 := v3) (c := c) (t := t) (k0 := F176_7 n') (by omega) (by omega) f0 f1 hcc ht c2 c3
          rw [x1, y1]
          have hR1 : RN h1 m1 (L + 1) D (t + 1) v2 (if v3 = 0 then 0 else if (if 97 ≤ c ∧ c ≤ 122 then (1 : Int) else 0) = v2 then 1 else 0) := by
            refine ⟨by omega, r2, by omega, r4, ?_, fun d0 t7 => ?_, fun l0 => by omega, fun _ => ⟨fun _ => by omega, fun u => ?_⟩⟩
            · rw [k1, r5]
              rcases r4 with u | u
              · subst u
                rw [if_neg (show ¬ ((0 : Int) = 1 ∧ D = 0 ∨ (0 : Int) = 0 ∧ L + 1 = 0) by omega), if_neg (show ¬ (1 : Int) = 0 by decide)]
                split <;> rfl
              · subst u
                rw [if_pos (rfl : (1 : Int) = 1)]
                by_cases d0 : D = 0
                · rw [if_pos (Or.inl ⟨rfl, d0⟩), if_pos (Or.inl ⟨rfl, d0⟩), if_neg (by decide)]
                · rw [if_neg (show ¬ ((1 : Int) = 1 ∧ D = 0 ∨ (1 : Int) = 0 ∧ L = 0) by omega), if_neg (show ¬ ((1 : Int) = 1 ∧ D = 0 ∨ (1 : Int) = 0 ∧ L + 1 = 0) by omega), if_pos rfl]
            · obtain ⟨l, l1, l2, l3, l4⟩ := r6 d0 (by omega)
              have bd := zPk_lt (n := 7) l2 (by omega)
              have p32 : (32 : Int) ^ 7 = 34359738368 := by decide
              have p27 : (27 : Int) ^ 7 = 10460353203 := by decide
              have z32 := zPk_pos (Or.inr rfl : (32 : Int) = 27 ∨ (32 : Int) = 32) l2
              have z27 := zPk_pos (Or.inl rfl : (27 : Int) = 27 ∨ (27 : Int) = 32) l2
              refine ⟨(c - 96) :: l, by simp only [List.length_cons]; omega, ?_, ?_, ?_⟩
              · intro d hd
                rcases List.mem_cons.mp hd with u | u
                · subst u; omega
                · exact l2 d u
              · rw [x3, if_neg (by omega), l3, q_letter (by omega) (by omega) (by omega) (by omega)]
                show _ = (c - 96) + 32 * zPk 32 l
                omega
              · rw [y3, if_neg (by omega), l4, qmul_eq (by omega) (by omega), qadd_eq (by omega) (by omega), qsub_eq (by omega) (by omega)]
                show _ = (c - 96) + 27 * zPk 27 l
                omega
            · by_cases u2 : t = 0
              · have := (hf u2).2; omega
              · exact (r8 (by omega)).2 u
          obtain ⟨h', m', z1, z2, z3, z4, z5⟩ := ih n' (L + 1) D (t + 1) v2 _ h1 m1 (TB_keep hb (fun r n j hne => x4 r n j (by omega)) (fun r j hne => y5 r j (by omega))) hR1 (by rw [y2, y5 6 0 (by omega)]; omega) (by rw [x2, y2, hp]) (by rw [y5 6 0 (by omega)]; exact f0) (by rw [y2, y5 6 0 (by omega)]; omega) (by rw [y2, y5 3 0 (by omega)]; omega) (by rw [x4 325 0 0 (by omega), y5 6 0 (by omega)]; exact hs) (fun u => by omega) (by rw [y2, y5 3 0 (by omega)]; omega) (by rw [y2, y5 3 0 (by omega)]; omega)
          exact ⟨h', m', z1, z2, z3, fun r n j hne => by rw [z4 r n j hne, x4 r n j (by omega)], fun r j hne => by rw [z5 r j hne, y5 r j (by omega)]⟩
        · rw [k1, if_neg (show ¬ ¬ (0 : Int) = 0 by decide), if_neg (show ¬ ¬ (0 : Int) = 0 by decide), F25_s, Option.bind_some, F178_s, Option.bind_some]
          by_cases dg : 48 ≤ c ∧ c ≤ 57
          · rw [if_pos dg, if_neg (show ¬ (1 : Int) = 0 by decide), if_neg (show ¬ (1 : Int) = 0 by decide)]
            obtain ⟨h1, x1, x2, x3, x4⟩ := C2d (h := h) (L := L) (D := D) (c := c) (k0 := F26_0 n) (by omega) (by omega) hcH dg.1 dg.2 r2 (by omega)
            obtain ⟨m1, y1, y2, y3, y4, y5⟩ := M8 (m := m) (v2 := v2) (v3 := v3) (c := c) (t := t) (k0 := F176_7 n') (by omega) (by omega) f0 f1 hcc ht c2 c3
            rw [x1, y1]
            have hR1 : RN h1 m1 L (D + 1) (t + 1) v2 (if v3 = 0 then 0 else if (if 97 ≤ c ∧ c ≤ 122 then (1 : Int) else 0) = v2 then 1 else 0) := by
              refine ⟨r1, by omega, by omega, r4, ?_, fun d0 => by omega, fun l0 t3 => ?_, fun _ => ⟨fun u => ?_, fun _ => by omega⟩⟩
              · rw [k1, r5]
                rcases r4 with u | u
                · subst u
                  rw [if_pos (rfl : (0 : Int) = 0)]
                  by_cases d0 : L = 0
                  · rw [if_pos (Or.inr ⟨rfl, d0⟩), if_pos (Or.inr ⟨rfl, d0⟩), if_neg (by decide)]
                  · rw [if_neg (show ¬ ((0 : Int) = 1 ∧ D = 0 ∨ (0 : Int) = 0 ∧ L = 0) by omega), if_neg (show ¬ ((0 : Int) = 1 ∧ D + 1 = 0 ∨ (0 : Int) = 0 ∧ L = 0) by omega), if_pos rfl]
                · subst u
                  rw [if_neg (show ¬ ((1 : Int) = 1 ∧ D + 1 = 0 ∨ (1 : Int) = 0 ∧ L = 0) by omega), if_neg (show ¬ (0 : Int) = 1 by decide)]
                  split <;> rfl
              · obtain ⟨w1, w2, w3, w4, w5, w6⟩ := r7 l0 (by omega)
                have o : t = 0 ∨ t = 1 ∨ t = 2 := by omega
                have bd : m 8 0 ≤ 99 := by
                  rcases o with o | o | o
                  · have := w3 o; omega
                  · have := w4 o; omega
                  · exact w5 o
                rw [x3, if_neg (by omega), y4, if_neg (by omega), w1, wmul_eq (x := m 8 0) (by omega) (by omega), wmul_eq (x := 10) (by omega) (by omega), wadd_eq (x := m 8 0 * 10) (by omega) (by omega), wadd_eq (x := 10 * m 8 0) (by omega) (by omega), wsub_eq (x := m 8 0 * 10 + c) (by omega) (by omega), wsub_eq (x := 10 * m 8 0 + c) (by omega) (by omega)]
                refine ⟨by omega, by omega, fun u => by omega, fun u => ?_, fun u => ?_, fun u => ?_⟩
                · have := w3 (by omega); omega
                · have := w4 (by omega); omega
                · have := w5 (by omega); omega
              · by_cases u2 : t = 0
                · have := (hf u2).2; omega
                · exact (r8 (by omega)).1 u
            obtain ⟨h', m', z1, z2, z3, z4, z5⟩ := ih n' L (D + 1) (t + 1) v2 _ h1 m1 (TB_keep hb (fun r n j hne => x4 r n j (by omega)) (fun r j hne => y5 r j (by omega))) hR1 (by rw [y2, y5 6 0 (by omega)]; omega) (by rw [x2, y2, hp]) (by rw [y5 6 0 (by omega)]; exact f0) (by rw [y2, y5 6 0 (by omega)]; omega) (by rw [y2, y5 3 0 (by omega)]; omega) (by rw [x4 325 0 0 (by omega), y5 6 0 (by omega)]; exact hs) (fun u => by omega) (by rw [y2, y5 3 0 (by omega)]; omega) (by rw [y2, y5 3 0 (by omega)]; omega)
            exact ⟨h', m', z1, z2, z3, fun r n j hne => by rw [z4 r n j hne, x4 r n j (by omega)], fun r j hne => by rw [z5 r j hne, y5 r j (by omega)]⟩
          · have t1 : 1 ≤ t := by
              by_cases u : t = 0
              · have := (hf u).2; omega
              · omega
            rw [if_neg dg, if_pos rfl, if_pos rfl]
            exact fin t1
