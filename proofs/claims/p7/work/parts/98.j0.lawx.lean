/-! Cases 4, 5, 6 of the law: before and behind the call that catches. -/
set_option maxRecDepth 100000 in
theorem LX_4 {Ls : Nat} {xs : Nat → Int} {run : zRn zH2} {i : Int} {g : zH2} (hi : 0 ≤ i ∧ i + 6 ≤ (Ls : Int) ∧ Ls ≤ 3072) (hw : wand (xs i.toNat) 63 = 4) : zTo Ls xs run 295 (fun c => c = (358, Lh i, [(6, 0), (0, xs (wadd i 2).toNat), (0, xs (wadd i 1).toNat), (21, 0)], g)) (33, Lh i, [], g) := by
  refine zT_b (d := 4) (b := LBs) (gs := [0 ≤ i ∧ i < (Ls : Int), wand (xs i.toNat) 63 = 4]) (c' := (344, Lh i, [], g)) LBs_ok rfl ⟨by omega, hw, trivial⟩ ?_
  refine zT_b (d := 0) (b := [(344, .aload_n 1, 1, (0, 0, 0)), (345, .aload_n 0, 1, (0, 0, 0)), (346, .iload 4, 2, (0, 0, 0)), (348, .iconst 1, 1, (0, 0, 0)), (349, .iadd, 1, (0, 0, 0)), (350, .iaload, 1, (1, 0, 0)), (351, .aload_n 0, 1, (0, 0, 0)), (352, .iload 4, 2, (0, 0, 0)), (354, .iconst 2, 1, (0, 0, 0)), (355, .iadd, 1, (0, 0, 0)), (356, .iaload, 1, (1, 0, 0)), (357, .aload_n 3, 1, (0, 0, 0))]) (gs := [0 ≤ wadd i 1 ∧ wadd i 1 < (Ls : Int), 0 ≤ wadd i 2 ∧ wadd i 2 < (Ls : Int)]) (c' := (358, Lh i, [(6, 0), (0, xs (wadd i 2).toNat), (0, xs (wadd i 1).toNat), (21, 0)], g)) (zRw_ok (by decide +kernel)) rfl ⟨gd hi (by decide) (by decide), gd hi (by decide) (by decide), trivial⟩ ?_
  exact zT_0 rfl
set_option maxRecDepth 100000 in
theorem LP_4 {Ls : Nat} {xs : Nat → Int} {spec : zRn zH2} {i kk r : Int} {hc : zHC} {hm hm' : zHM} {o : Int → Int} (hi : 0 ≤ i ∧ i + 6 ≤ (Ls : Int) ∧ Ls ≤ 3072) (_hk : (kk = 0 ∧ o 0 = r) ∨ kk = 1) (q2 : F204 (xs (wadd i 1).toNat) (xs (wadd i 2).toNat) hm = some (r, hm')) (_h0 : hm' 0 0 = kk) (h' : RG hc hm') : zTo Ls xs (zRu2 spec 600) 295 (LN i o) (361, Lh i, [(0, kk)], (hc, hm, o)) := by
  refine zT_b (d := 0) (b := [(361, .istore 5, 2, (0, 0, 0)), (363, .aload_n 2, 1, (0, 0, 0)), (364, .aload_n 0, 1, (0, 0, 0)), (365, .iload 4, 2, (0, 0, 0)), (367, .iconst 1, 1, (0, 0, 0)), (368, .iadd, 1, (0, 0, 0)), (369, .iaload, 1, (1, 0, 0)), (370, .aload_n 0, 1, (0, 0, 0)), (371, .iload 4, 2, (0, 0, 0)), (373, .iconst 2, 1, (0, 0, 0)), (374, .iadd, 1, (0, 0, 0)), (375, .iaload, 1, (1, 0, 0))]) (gs := [0 ≤ wadd i 1 ∧ wadd i 1 < (Ls : Int), 0 ≤ wadd i 2 ∧ wadd i 2 < (Ls : Int)]) (c' := (376, [some (5, 0), some (21, 0), some (22, 0), some (6, 0), some (0, i), some (0, kk), none], [(0, xs (wadd i 2).toNat), (0, xs (wadd i 1).toNat), (22, 0)], (hc, hm, o))) (zRw_ok (by decide +kernel)) rfl ⟨gd hi (by decide) (by decide), gd hi (by decide) (by decide), trivial⟩ ?_
  refine zT_call (k := 204) (cl := 12) (n := 3) (i := .invokevirtual 49) (args := [(22, 0), (0, xs (wadd i 1).toNat), (0, xs (wadd i 2).toNat)]) (rest := []) (g1 := (hc, hm', o)) (r1 := some (0, r)) (zCk1_w (by decide +kernel)) rfl rfl rfl (st' := [(0, r)]) rfl (S204 (Nat.le_of_ble_eq_true rfl) _ _ hm _ q2) ?_
  refine zT_blk (m := [true, true, true, true, true, false, false]) (d := 0) (b := [(379, .istore 6, 2, (0, 0, 0)), (381, .goto 1261, 3, (0, 0, 0))]) (gs := []) (c' := (1642, Lh i, [], (hc, hm', o))) (by decide +kernel) rfl trivial ?_
  exact LE h'
set_option maxRecDepth 100000 in
theorem LX_5 {Ls : Nat} {xs : Nat → Int} {run : zRn zH2} {i : Int} {g : zH2} (hi : 0 ≤ i ∧ i + 6 ≤ (Ls : Int) ∧ Ls ≤ 3072) (hw : wand (xs i.toNat) 63 = 5) : zTo Ls xs run 295 (fun c => c = (398, Lh i, [(6, 0), (0, xs (wadd i 2).toNat), (0, xs (wadd i 1).toNat), (21, 0)], g)) (33, Lh i, [], g) := by
  refine zT_b (d := 5) (b := LBs) (gs := [0 ≤ i ∧ i < (Ls : Int), wand (xs i.toNat) 63 = 5]) (c' := (384, Lh i, [], g)) LBs_ok rfl ⟨by omega, hw, trivial⟩ ?_
  refine zT_b (d := 0) (b := [(384, .aload_n 1, 1, (0, 0, 0)), (385, .aload_n 0, 1, (0, 0, 0)), (386, .iload 4, 2, (0, 0, 0)), (388, .iconst 1, 1, (0, 0, 0)), (389, .iadd, 1, (0, 0, 0)), (390, .iaload, 1, (1, 0, 0)), (391, .aload_n 0, 1, (0, 0, 0)), (392, .iload 4, 2, (0, 0, 0)), (394, .iconst 2, 1, (0, 0, 0)), (395, .iadd, 1, (0, 0, 0)), (396, .iaload, 1, (1, 0, 0)), (397, .aload_n 3, 1, (0, 0, 0))]) (gs := [0 ≤ wadd i 1 ∧ wadd i 1 < (Ls : Int), 0 ≤ wadd i 2 ∧ wadd i 2 < (Ls : Int)]) (c' := (398, Lh i, [(6, 0), (0, xs (wadd i 2).toNat), (0, xs (wadd i 1).toNat), (21, 0)], g)) (zRw_ok (by decide +kernel)) rfl ⟨gd hi (by decide) (by decide), gd hi (by decide) (by decide), trivial⟩ ?_
  exact zT_0 rfl
set_option maxRecDepth 100000 in
theorem LP_5 {Ls : Nat} {xs : Nat → Int} {spec : zRn zH2} {i kk r : Int} {hc : zHC} {hm hm' : zHM} {o : Int → Int} (hi : 0 ≤ i ∧ i + 6 ≤ (Ls : Int) ∧ Ls ≤ 3072) (hk : (kk = 0 ∧ o 0 = r) ∨ kk = 1) (q2 : F209 (xs (wadd i 1).toNat) (xs (wadd i 2).toNat) hm = some (r, hm')) (h0 : hm' 0 0 = kk) (h' : RG hc hm') : zTo Ls xs (zRu2 spec 600) 295 (LN i o) (401, Lh i, [(0, kk)], (hc, hm, o)) := by
  refine zT_b (d := 0) (b := [(401, .istore 5, 2, (0, 0, 0)), (403, .aload_n 2, 1, (0, 0, 0)), (404, .aload_n 0, 1, (0, 0, 0)), (405, .iload 4, 2, (0, 0, 0)), (407, .iconst 1, 1, (0, 0, 0)), (408, .iadd, 1, (0, 0, 0)), (409, .iaload, 1, (1, 0, 0)), (410, .aload_n 0, 1, (0, 0, 0)), (411, .iload 4, 2, (0, 0, 0)), (413, .iconst 2, 1, (0, 0, 0)), (414, .iadd, 1, (0, 0, 0)), (415, .iaload, 1, (1, 0, 0))]) (gs := [0 ≤ wadd i 1 ∧ wadd i 1 < (Ls : Int), 0 ≤ wadd i 2 ∧ wadd i 2 < (Ls : Int)]) (c' := (416, [some (5, 0), some (21, 0), some (22, 0), some (6, 0), some (0, i), some (0, kk), none], [(0, xs (wadd i 2).toNat), (0, xs (wadd i 1).toNat), (22, 0)], (hc, hm, o))) (zRw_ok (by decide +kernel)) rfl ⟨gd hi (by decide) (by decide), gd hi (by decide) (by decide), trivial⟩ ?_
  refine zT_call (k := 209) (cl := 12) (n := 3) (i := .invokevirtual 52) (args := [(22, 0), (0, xs (wadd i 1).toNat), (0, xs (wadd i 2).toNat)]) (rest := []) (g1 := (hc, hm', o)) (r1 := some (0, r)) (zCk1_w (by decide +kernel)) rfl rfl rfl (st' := [(0, r)]) rfl (S209 (Nat.le_of_ble_eq_true rfl) _ _ hm _ q2) ?_
  refine zT_b (d := 0) (b := [(419, .istore 6, 2, (0, 0, 0)), (421, .aload_n 2, 1, (0, 0, 0))]) (gs := []) (c' := (422, [some (5, 0), some (21, 0), some (22, 0), some (6, 0), some (0, i), some (0, kk), some (0, r)], [(22, 0)], (hc, hm', o))) (zRw_ok (by decide +kernel)) rfl trivial ?_
  refine zT_call (k := 169) (cl := 12) (n := 1) (i := .invokevirtual 53) (args := [(22, 0)]) (rest := []) (g1 := (hc, hm', o)) (r1 := some (0, hm' 0 0)) (zCk1_w (by decide +kernel)) rfl rfl rfl (st' := [(0, hm' 0 0)]) rfl (S169 (Nat.le_of_ble_eq_true rfl) hm' _ rfl) ?_
  refine zT_b (d := 1) (b := [(425, .iload 5, 2, (0, 0, 0)), (427, .if_icmp .eq 5, 3, (0, 0, 0))]) (gs := [hm' 0 0 = kk]) (c' := (432, [some (5, 0), some (21, 0), some (22, 0), some (6, 0), some (0, i), some (0, kk), some (0, r)], [], (hc, hm', o))) (zRw_ok (by decide +kernel)) rfl ⟨h0, trivial⟩ ?_
  have fin : zTo Ls xs (zRu2 spec 600) 295 (LN i o) (449, [some (5, 0), some (21, 0), some (22, 0), some (6, 0), some (0, i), some (0, kk), some (0, r)], [], (hc, hm', o)) := by
    refine zT_blk (m := [true, true, true, true, true, false, false]) (d := 0) (b := [(449, .goto 1193, 3, (0, 0, 0))]) (gs := []) (c' := (1642, Lh i, [], (hc, hm', o))) (by decide +kernel) rfl trivial ?_
    exact LE h'
  rcases hk with ⟨rfl, e⟩ | rfl
  · refine zT_b (d := 0) (b := [(432, .iload 5, 2, (0, 0, 0)), (434, .ifCond .ne 15, 3, (0, 0, 0))]) (gs := [¬ ¬ (0 : Int) = 0]) (c' := (437, [some (5, 0), some (21, 0), some (22, 0), some (6, 0), some (0, i), some (0, 0), some (0, r)], [], (hc, hm', o))) (zRw_ok (by decide +kernel)) rfl ⟨fun z => z rfl, trivial⟩ ?_
    refine zT_b (d := 1) (b := [(437, .aload_n 3, 1, (0, 0, 0)), (438, .iconst 0, 1, (0, 0, 0)), (439, .laload, 1, (0, 0, 0)), (440, .iload 6, 2, (0, 0, 0)), (442, .i2l, 1, (0, 0, 0)), (443, .lcmp, 1, (0, 0, 0)), (444, .ifCond .eq 5, 3, (0, 0, 0))]) (gs := [(0 : Int) = 0, qcmp (o 0) r = 0]) (c' := (449, [some (5, 0), some (21, 0), some (22, 0), some (6, 0), some (0, i), some (0, 0), some (0, r)], [], (hc, hm', o))) (zRw_ok (by decide +kernel)) rfl ⟨rfl, ?_, trivial⟩ fin
    rw [e]
    unfold qcmp
    rw [if_neg (by omega), if_pos rfl]
  · exact zT_b (d := 1) (b := [(432, .iload 5, 2, (0, 0, 0)), (434, .ifCond .ne 15, 3, (0, 0, 0))]) (gs := [¬ (1 : Int) = 0]) (c' := (449, [some (5, 0), some (21, 0), some (22, 0), some (6, 0), some (0, i), some (0, 1), some (0, r)], [], (hc, hm', o))) (by decide +kernel) rfl ⟨by decide, trivial⟩ fin
set_option maxRecDepth 100000 in
theorem LX_6 {Ls : Nat} {xs : Nat → Int} {run : zRn zH2} {i : Int} {g : zH2} (hi : 0 ≤ i ∧ i + 6 ≤ (Ls : Int) ∧ Ls ≤ 3072) (hw : wand (xs i.toNat) 63 = 6) : zTo Ls xs run 295 (fun c => c = (466, Lh i, [(6, 0), (0, xs (wadd i 2).toNat), (0, xs (wadd i 1).toNat), (21, 0)], g)) (33, Lh i, [], g) := by
  refine zT_b (d := 6) (b := LBs) (gs := [0 ≤ i ∧ i < (Ls : Int), wand (xs i.toNat) 63 = 6]) (c' := (452, Lh i, [], g)) LBs_ok rfl ⟨by omega, hw, trivial⟩ ?_
  refine zT_b (d := 0) (b := [(452, .aload_n 1, 1, (0, 0, 0)), (453, .aload_n 0, 1, (0, 0, 0)), (454, .iload 4, 2, (0, 0, 0)), (456, .iconst 1, 1, (0, 0, 0)), (457, .iadd, 1, (0, 0, 0)), (458, .iaload, 1, (1, 0, 0)), (459, .aload_n 0, 1, (0, 0, 0)), (460, .iload 4, 2, (0, 0, 0)), (462, .iconst 2, 1, (0, 0, 0)), (463, .iadd, 1, (0, 0, 0)), (464, .iaload, 1, (1, 0, 0)), (465, .aload_n 3, 1, (0, 0, 0))]) (gs := [0 ≤ wadd i 1 ∧ wadd i 1 < (Ls : Int), 0 ≤ wadd i 2 ∧ wadd i 2 < (Ls : Int)]) (c' := (466, Lh i, [(6, 0), (0, xs (wadd i 2).toNat), (0, xs (wadd i 1).toNat), (21, 0)], g)) (zRw_ok (by decide +kernel)) rfl ⟨gd hi (by decide) (by decide), gd hi (by decide) (by decide), trivial⟩ ?_
  exact zT_0 rfl
set_option maxRecDepth 100000 in
theorem LP_6 {Ls : Nat} {xs : Nat → Int} {spec : zRn zH2} {i kk r : Int} {hc : zHC} {hm hm' : zHM} {o : Int → Int} (hi : 0 ≤ i ∧ i + 6 ≤ (Ls : Int) ∧ Ls ≤ 3072) (_hk : (kk = 0 ∧ o 0 = r) ∨ kk = 1) (q2 : F216 (xs (wadd i 1).toNat) (xs (wadd i 2).toNat) hm = some (r, hm')) (_h0 : hm' 0 0 = kk) (h' : RG hc hm') : zTo Ls xs (zRu2 spec 600) 295 (LN i o) (469, Lh i, [(0, kk)], (hc, hm, o)) := by
  refine zT_b (d := 0) (b := [(469, .istore 5, 2, (0, 0, 0)), (471, .aload_n 2, 1, (0, 0, 0)), (472, .aload_n 0, 1, (0, 0, 0)), (473, .iload 4, 2, (0, 0, 0)), (475, .iconst 1, 1, (0, 0, 0)), (476, .iadd, 1, (0, 0, 0)), (477, .iaload, 1, (1, 0, 0)), (478, .aload_n 0, 1, (0, 0, 0)), (479, .iload 4, 2, (0, 0, 0)), (481, .iconst 2, 1, (0, 0, 0)), (482, .iadd, 1, (0, 0, 0)), (483, .iaload, 1, (1, 0, 0))]) (gs := [0 ≤ wadd i 1 ∧ wadd i 1 < (Ls : Int), 0 ≤ wadd i 2 ∧ wadd i 2 < (Ls : Int)]) (c' := (484, [some (5, 0), some (21, 0), some (22, 0), some (6, 0), some (0, i), some (0, kk), none], [(0, xs (wadd i 2).toNat), (0, xs (wadd i 1).toNat), (22, 0)], (hc, hm, o))) (zRw_ok (by decide +kernel)) rfl ⟨gd hi (by decide) (by decide), gd hi (by decide) (by decide), trivial⟩ ?_
  refine zT_call (k := 216) (cl := 12) (n := 3) (i := .invokevirtual 58) (args := [(22, 0), (0, xs (wadd i 1).toNat), (0, xs (wadd i 2).toNat)]) (rest := []) (g1 := (hc, hm', o)) (r1 := some (0, r)) (zCk1_w (by decide +kernel)) rfl rfl rfl (st' := [(0, r)]) rfl (S216 (Nat.le_of_ble_eq_true rfl) _ _ hm _ q2) ?_
  refine zT_blk (m := [true, true, true, true, true, false, false]) (d := 0) (b := [(487, .istore 6, 2, (0, 0, 0)), (489, .goto 1153, 3, (0, 0, 0))]) (gs := []) (c' := (1642, Lh i, [], (hc, hm', o))) (by decide +kernel) rfl trivial ?_
  exact LE h'
theorem LC_all {Ls : Nat} {xs : Nat → Int} {spec : zRn zH2} {i : Int} {hc : zHC} {hm : zHM} {o : Int → Int} (hi : 0 ≤ i ∧ i + 6 ≤ (Ls : Int) ∧ Ls ≤ 3072) (hxs : ∀ j, zR32 (xs j)) (h : RG hc hm) (h4 : ¬ wand (xs i.toNat) 63 = 4) (h5 : ¬ wand (xs i.toNat) 63 = 5) (h6 : ¬ wand (xs i.toNat) 63 = 6) : zTo Ls xs (zRu2 spec 600) 295 (LN i o) (33, Lh i, [], (hc, hm, o)) := by
  by_cases q : wand (xs i.toNat) 63 < 0 ∨ 40 < wand (xs i.toNat) 63
  · exact LH_def hi h q
  · have q2 : wand (xs i.toNat) 63 = 0 ∨ wand (xs i.toNat) 63 = 1 ∨ wand (xs i.toNat) 63 = 2 ∨ wand (xs i.toNat) 63 = 3 ∨ wand (xs i.toNat) 63 = 7 ∨ wand (xs i.toNat) 63 = 8 ∨ wand (xs i.toNat) 63 = 9 ∨ wand (xs i.toNat) 63 = 10 ∨ wand (xs i.toNat) 63 = 11 ∨ wand (xs i.toNat) 63 = 12 ∨ wand (xs i.toNat) 63 = 13 ∨ wand (xs i.toNat) 63 = 14 ∨ wand (xs i.toNat) 63 = 15 ∨ wand (xs i.toNat) 63 = 16 ∨ wand (xs i.toNat) 63 = 17 ∨ wand (xs i.toNat) 63 = 18 ∨ wand (xs i.toNat) 63 = 19 ∨ wand (xs i.toNat) 63 = 20 ∨ wand (xs i.toNat) 63 = 21 ∨ wand (xs i.toNat) 63 = 22 ∨ wand (xs i.toNat) 63 = 23 ∨ wand (xs i.toNat) 63 = 24 ∨ wand (xs i.toNat) 63 = 25 ∨ wand (xs i.toNat) 63 = 26 ∨ wand (xs i.toNat) 63 = 27 ∨ wand (xs i.toNat) 63 = 28 ∨ wand (xs i.toNat) 63 = 29 ∨ wand (xs i.toNat) 63 = 30 ∨ wand (xs i.toNat) 63 = 31 ∨ wand (xs i.toNat) 63 = 32 ∨ wand (xs i.toNat) 63 = 33 ∨ wand (xs i.toNat) 63 = 34 ∨ wand (xs i.toNat) 63 = 35 ∨ wand (xs i.toNat) 63 = 36 ∨ wand (xs i.toNat) 63 = 37 ∨ wand (xs i.toNat) 63 = 38 ∨ wand (xs i.toNat) 63 = 39 ∨ wand (xs i.toNat) 63 = 40 := by omega
    rcases q2 with q2 | q2 | q2 | q2 | q2 | q2 | q2 | q2 | q2 | q2 | q2 | q2 | q2 | q2 | q2 | q2 | q2 | q2 | q2 | q2 | q2 | q2 | q2 | q2 | q2 | q2 | q2 | q2 | q2 | q2 | q2 | q2 | q2 | q2 | q2 | q2 | q2 | q2
    · exact LC_0 hi hxs h q2
    · exact LC_1 hi hxs h q2
    · exact LC_2 hi hxs h q2
    · exact LC_3 hi hxs h q2
    · exact LC_7 hi hxs h q2
    · exact LC_8 hi hxs h q2
    · exact LC_9 hi hxs h q2
    · exact LC_10 hi hxs h q2
    · exact LC_11 hi hxs h q2
    · exact LC_12 hi hxs h q2
    · exact LC_13 hi hxs h q2
    · exact LC_14 hi hxs h q2
    · exact LC_15 hi hxs h q2
    · exact LC_16 hi hxs h q2
    · exact LC_17 hi hxs h q2
    · exact LC_18 hi hxs h q2
    · exact LC_19 hi hxs h q2
    · exact LC_20 hi hxs h q2
    · exact LC_21 hi hxs h q2
    · exact LC_22 hi hxs h q2
    · exact LC_23 hi hxs h q2
    · exact LC_24 hi hxs h q2
    · exact LC_25 hi hxs h q2
    · exact LC_26 hi hxs h q2
    · exact LC_27 hi hxs h q2
    · exact LC_28 hi hxs h q2
    · exact LC_29 hi hxs h q2
    · exact LC_30 hi hxs h q2
    · exact LC_31 hi hxs h q2
    · exact LC_32 hi hxs h q2
    · exact LC_33 hi hxs h q2
    · exact LC_34 hi hxs h q2
    · exact LC_35 hi hxs h q2
    · exact LC_36 hi hxs h q2
    · exact LC_37 hi hxs h q2
    · exact LC_38 hi hxs h q2
    · exact LC_39 hi hxs h q2
    · exact LC_40 hi hxs h q2
