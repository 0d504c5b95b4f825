/-! The way to the throw of cliff, person, saying over the second heap. -/
set_option maxRecDepth 100000 in
theorem xq_cliff {hc : zHC} {hm : zHM} {o : Int → Int} {c w b : Int} {d : Nat} (hd : 1 ≤ d) (e : hc 578 0 0 = b) (hn : ¬ ((0 ≤ c ∧ c < b) ∧ (0 ≤ w ∧ w ≤ 3))) : zTo 0 (fun _ => 0) (zRu2 (fun _ _ _ _ _ => False) d) 163 (fun cf => cf.1 = 17 ∧ cf.2.2.1 = [] ∧ cf.2.2.2 = (hc, hm, o)) (0, zEntry [(21, 0), (0, c), (0, w)] (zmMax 163), [], (hc, hm, o)) := by
  have hmx : zmMax 163 = 3 := by decide +kernel
  rw [hmx]
  refine zT_b (d := 0) (b := [(0, .aload_n 0, 1, (0, 0, 0)), (1, .iload_n 1, 1, (0, 0, 0))]) (gs := []) (c' := (2, [some (21, 0), some (0, c), some (0, w)], [(0, c), (21, 0)], (hc, hm, o))) (by decide +kernel) rfl trivial ?_
  have e9 := E59 (v := c) e
  by_cases q : 0 ≤ c ∧ c < b
  · rw [if_pos q] at e9
    refine zT_call (k := 59) (cl := 11) (n := 2) (i := .invokevirtual 139) (args := [(21, 0), (0, c)]) (rest := []) (g1 := (hc, hm, o)) (r1 := some (0, 1)) (by decide +kernel) rfl rfl rfl (st' := [(0, 1)]) rfl (S59 hd c hc _ e9) ?_
    refine zT_b (d := 0) (b := [(5, .ifCond .eq 12, 3, (0, 0, 0))]) (gs := [¬ (1 : Int) = 0]) (c' := (8, [some (21, 0), some (0, c), some (0, w)], [], (hc, hm, o))) (by decide +kernel) rfl ⟨by decide, trivial⟩ ?_
    by_cases q2 : w < 0
    · refine zT_b (d := 1) (b := [(8, .iload_n 2, 1, (0, 0, 0)), (9, .ifCond .lt 8, 3, (0, 0, 0))]) (gs := [w < 0]) (c' := (17, [some (21, 0), some (0, c), some (0, w)], [], (hc, hm, o))) (by decide +kernel) rfl ⟨q2, trivial⟩ ?_
      exact zT_0 ⟨rfl, rfl, rfl⟩
    · refine zT_b (d := 0) (b := [(8, .iload_n 2, 1, (0, 0, 0)), (9, .ifCond .lt 8, 3, (0, 0, 0))]) (gs := [¬ w < 0]) (c' := (12, [some (21, 0), some (0, c), some (0, w)], [], (hc, hm, o))) (by decide +kernel) rfl ⟨q2, trivial⟩ ?_
      refine zT_b (d := 0) (b := [(12, .iload_n 2, 1, (0, 0, 0)), (13, .iconst 3, 1, (0, 0, 0)), (14, .if_icmp .le 13, 3, (0, 0, 0))]) (gs := [¬ w ≤ 3]) (c' := (17, [some (21, 0), some (0, c), some (0, w)], [], (hc, hm, o))) (by decide +kernel) rfl ⟨by omega, trivial⟩ ?_
      exact zT_0 ⟨rfl, rfl, rfl⟩
  · rw [if_neg q] at e9
    refine zT_call (k := 59) (cl := 11) (n := 2) (i := .invokevirtual 139) (args := [(21, 0), (0, c)]) (rest := []) (g1 := (hc, hm, o)) (r1 := some (0, 0)) (by decide +kernel) rfl rfl rfl (st' := [(0, 0)]) rfl (S59 hd c hc _ e9) ?_
    refine zT_b (d := 1) (b := [(5, .ifCond .eq 12, 3, (0, 0, 0))]) (gs := [(0 : Int) = 0]) (c' := (17, [some (21, 0), some (0, c), some (0, w)], [], (hc, hm, o))) (by decide +kernel) rfl ⟨rfl, trivial⟩ ?_
    exact zT_0 ⟨rfl, rfl, rfl⟩
set_option maxRecDepth 100000 in
theorem xq_person {hc : zHC} {hm : zHM} {o : Int → Int} {c w b : Int} {d : Nat} (hd : 1 ≤ d) (e : hc 579 0 0 = b) (hn : ¬ ((0 ≤ c ∧ c < b) ∧ (0 ≤ w ∧ w ≤ 5))) : zTo 0 (fun _ => 0) (zRu2 (fun _ _ _ _ _ => False) d) 164 (fun cf => cf.1 = 17 ∧ cf.2.2.1 = [] ∧ cf.2.2.2 = (hc, hm, o)) (0, zEntry [(21, 0), (0, c), (0, w)] (zmMax 164), [], (hc, hm, o)) := by
  have hmx : zmMax 164 = 3 := by decide +kernel
  rw [hmx]
  refine zT_b (d := 0) (b := [(0, .aload_n 0, 1, (0, 0, 0)), (1, .iload_n 1, 1, (0, 0, 0))]) (gs := []) (c' := (2, [some (21, 0), some (0, c), some (0, w)], [(0, c), (21, 0)], (hc, hm, o))) (by decide +kernel) rfl trivial ?_
  have e9 := E61 (v := c) e
  by_cases q : 0 ≤ c ∧ c < b
  · rw [if_pos q] at e9
    refine zT_call (k := 61) (cl := 11) (n := 2) (i := .invokevirtual 172) (args := [(21, 0), (0, c)]) (rest := []) (g1 := (hc, hm, o)) (r1 := some (0, 1)) (by decide +kernel) rfl rfl rfl (st' := [(0, 1)]) rfl (S61 hd c hc _ e9) ?_
    refine zT_b (d := 0) (b := [(5, .ifCond .eq 12, 3, (0, 0, 0))]) (gs := [¬ (1 : Int) = 0]) (c' := (8, [some (21, 0), some (0, c), some (0, w)], [], (hc, hm, o))) (by decide +kernel) rfl ⟨by decide, trivial⟩ ?_
    by_cases q2 : w < 0
    · refine zT_b (d := 1) (b := [(8, .iload_n 2, 1, (0, 0, 0)), (9, .ifCond .lt 8, 3, (0, 0, 0))]) (gs := [w < 0]) (c' := (17, [some (21, 0), some (0, c), some (0, w)], [], (hc, hm, o))) (by decide +kernel) rfl ⟨q2, trivial⟩ ?_
      exact zT_0 ⟨rfl, rfl, rfl⟩
    · refine zT_b (d := 0) (b := [(8, .iload_n 2, 1, (0, 0, 0)), (9, .ifCond .lt 8, 3, (0, 0, 0))]) (gs := [¬ w < 0]) (c' := (12, [some (21, 0), some (0, c), some (0, w)], [], (hc, hm, o))) (by decide +kernel) rfl ⟨q2, trivial⟩ ?_
      refine zT_b (d := 0) (b := [(12, .iload_n 2, 1, (0, 0, 0)), (13, .iconst 5, 1, (0, 0, 0)), (14, .if_icmp .le 13, 3, (0, 0, 0))]) (gs := [¬ w ≤ 5]) (c' := (17, [some (21, 0), some (0, c), some (0, w)], [], (hc, hm, o))) (by decide +kernel) rfl ⟨by omega, trivial⟩ ?_
      exact zT_0 ⟨rfl, rfl, rfl⟩
  · rw [if_neg q] at e9
    refine zT_call (k := 61) (cl := 11) (n := 2) (i := .invokevirtual 172) (args := [(21, 0), (0, c)]) (rest := []) (g1 := (hc, hm, o)) (r1 := some (0, 0)) (by decide +kernel) rfl rfl rfl (st' := [(0, 0)]) rfl (S61 hd c hc _ e9) ?_
    refine zT_b (d := 1) (b := [(5, .ifCond .eq 12, 3, (0, 0, 0))]) (gs := [(0 : Int) = 0]) (c' := (17, [some (21, 0), some (0, c), some (0, w)], [], (hc, hm, o))) (by decide +kernel) rfl ⟨rfl, trivial⟩ ?_
    exact zT_0 ⟨rfl, rfl, rfl⟩
set_option maxRecDepth 100000 in
theorem xq_saying {hc : zHC} {hm : zHM} {o : Int → Int} {c w b : Int} {d : Nat} (hd : 1 ≤ d) (e : hc 65 0 0 = b) (hn : ¬ ((0 ≤ c ∧ c < b) ∧ (0 ≤ w ∧ w ≤ 7))) : zTo 0 (fun _ => 0) (zRu2 (fun _ _ _ _ _ => False) d) 167 (fun cf => cf.1 = 18 ∧ cf.2.2.1 = [] ∧ cf.2.2.2 = (hc, hm, o)) (0, zEntry [(21, 0), (0, c), (0, w)] (zmMax 167), [], (hc, hm, o)) := by
  have hmx : zmMax 167 = 3 := by decide +kernel
  rw [hmx]
  refine zT_b (d := 0) (b := [(0, .aload_n 0, 1, (0, 0, 0)), (1, .iload_n 1, 1, (0, 0, 0))]) (gs := []) (c' := (2, [some (21, 0), some (0, c), some (0, w)], [(0, c), (21, 0)], (hc, hm, o))) (by decide +kernel) rfl trivial ?_
  have e9 := E58 (v := c) e
  by_cases q : 0 ≤ c ∧ c < b
  · rw [if_pos q] at e9
    refine zT_call (k := 58) (cl := 11) (n := 2) (i := .invokevirtual 191) (args := [(21, 0), (0, c)]) (rest := []) (g1 := (hc, hm, o)) (r1 := some (0, 1)) (by decide +kernel) rfl rfl rfl (st' := [(0, 1)]) rfl (S58 hd c hc _ e9) ?_
    refine zT_b (d := 0) (b := [(5, .ifCond .eq 13, 3, (0, 0, 0))]) (gs := [¬ (1 : Int) = 0]) (c' := (8, [some (21, 0), some (0, c), some (0, w)], [], (hc, hm, o))) (by decide +kernel) rfl ⟨by decide, trivial⟩ ?_
    by_cases q2 : w < 0
    · refine zT_b (d := 1) (b := [(8, .iload_n 2, 1, (0, 0, 0)), (9, .ifCond .lt 9, 3, (0, 0, 0))]) (gs := [w < 0]) (c' := (18, [some (21, 0), some (0, c), some (0, w)], [], (hc, hm, o))) (by decide +kernel) rfl ⟨q2, trivial⟩ ?_
      exact zT_0 ⟨rfl, rfl, rfl⟩
    · refine zT_b (d := 0) (b := [(8, .iload_n 2, 1, (0, 0, 0)), (9, .ifCond .lt 9, 3, (0, 0, 0))]) (gs := [¬ w < 0]) (c' := (12, [some (21, 0), some (0, c), some (0, w)], [], (hc, hm, o))) (by decide +kernel) rfl ⟨q2, trivial⟩ ?_
      refine zT_b (d := 0) (b := [(12, .iload_n 2, 1, (0, 0, 0)), (13, .bipush 8, 2, (0, 0, 0)), (15, .if_icmp .lt 13, 3, (0, 0, 0))]) (gs := [¬ w < 8]) (c' := (18, [some (21, 0), some (0, c), some (0, w)], [], (hc, hm, o))) (by decide +kernel) rfl ⟨by omega, trivial⟩ ?_
      exact zT_0 ⟨rfl, rfl, rfl⟩
  · rw [if_neg q] at e9
    refine zT_call (k := 58) (cl := 11) (n := 2) (i := .invokevirtual 191) (args := [(21, 0), (0, c)]) (rest := []) (g1 := (hc, hm, o)) (r1 := some (0, 0)) (by decide +kernel) rfl rfl rfl (st' := [(0, 0)]) rfl (S58 hd c hc _ e9) ?_
    refine zT_b (d := 1) (b := [(5, .ifCond .eq 13, 3, (0, 0, 0))]) (gs := [(0 : Int) = 0]) (c' := (18, [some (21, 0), some (0, c), some (0, w)], [], (hc, hm, o))) (by decide +kernel) rfl ⟨rfl, trivial⟩ ?_
    exact zT_0 ⟨rfl, rfl, rfl⟩
theorem sp_rr {d : Nat} : zRRs zlO zlA (zRu2 (fun _ _ _ _ _ => False) d) (zRun (zHop1 0 (fun _ => 0)) zRc1 spec1 d) := z_parRs zAp_ok (fun _ _ _ _ _ _ _ q _ _ => q.elim) d
theorem xq_run {d k t0 : Nat} {c w : Int} {g : zH2} {h : zH1} (hR : zR2 zlO zlA g h) (ht : zTo 0 (fun _ => 0) (zRu2 (fun _ _ _ _ _ => False) d) k (fun cf => cf.1 = t0 ∧ cf.2.2.1 = [] ∧ cf.2.2.2 = g) (0, zEntry [(21, 0), (0, c), (0, w)] (zmMax k), [], g)) : ∃ (n : Nat) (L' : zLo) (h' : zH1), zReach (zHop1 0 (fun _ => 0)) zRc1 (zRun (zHop1 0 (fun _ => 0)) zRc1 spec1 d) k n (0, zEntry [(2, 0), (0, c), (0, w)] (zmMax k), [], h) (t0, L', [], h') ∧ zLn2 h h' ∧ zR2 zlO zlA g h' := by
  obtain ⟨n, c2, h1, h2, h3, h4⟩ := ht
  have hS : zSR zlO zlA False [(21, 0), (0, c), (0, w)] [(2, 0), (0, c), (0, w)] := ⟨Or.inr (Or.inr (Or.inr (Or.inr (Or.inl ⟨11, by decide, rfl, by decide, by decide, by decide⟩)))), Or.inl ⟨rfl, rfl⟩, Or.inl ⟨rfl, rfl⟩, trivial⟩
  obtain ⟨f1, f2⟩ := zSR_fl hS
  have hC : zCR zlO zlA False (0, zEntry [(21, 0), (0, c), (0, w)] (zmMax k), [], g) (0, zEntry [(2, 0), (0, c), (0, w)] (zmMax k), [], h) := by
    refine ⟨rfl, ⟨?_, fun i a ha => ?_⟩, trivial, hR⟩
    · unfold zEntry
      simp only [List.length_append, List.length_replicate, f1]
    · unfold zEntry at ha ⊢
      rw [f1]
      exact f2 _ i a ha
  obtain ⟨n', c1', k1, ⟨k2, k3, k4, k5⟩, k6⟩ := z_parNs zAp_ok sp_rr hC h1
  obtain ⟨pc1, L1, st1, h1'⟩ := c1'
  obtain ⟨pc2, L2, st2, g2⟩ := c2
  dsimp only at k2 k4 k5 k6 h2 h3 h4
  subst h2
  subst h3
  subst h4
  subst k2
  have := zSR_nil k4
  subst this
  exact ⟨n', L1, h1', k1, k6, k5⟩
