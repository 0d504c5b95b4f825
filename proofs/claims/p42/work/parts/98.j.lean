section
/-! Cases 4, 5, 6 of the law: before and behind the call that catches. -/
set_option maxRecDepth 100000 in
theorem LX_4 {Ls : Nat} {xs : Nat → Int} {run : zRn zH2} {i : Int} {g : zH2} (hi : 0 ≤ i ∧ i + 6 ≤ (Ls : Int) ∧ Ls ≤ 3072) (hw : wand (xs i.toNat) 63 = 4) : zTo Ls xs run 295 (fun c => c = (358, Lh i, [(6, 0), (0, xs (wadd i 2).toNat), (0, xs (wadd i 1).toNat), (21, 0)], g)) (33, Lh i, [], g) := by
  refine zT_b (d := 4) (b := LBs) (gs := [0 ≤ i ∧ i < (Ls : Int), wand (xs i.toNat) 63 = 4]) (c' := (344, Lh i, [], g)) LBs_ok rfl ⟨by omega, hw, trivial⟩ ?_
  refine zT_b (d := 0) (b := [(344, .aload_n 1, 1, (0, 0, 0)), (345, .aload_n 0, 1, (0, 0, 0)), (346, .iload 4, 2, (0, 0, 0)), (348, .iconst 1, 1, (0, 0, 0)), (349, .iadd, 1, (0, 0, 0)), (350, .iaload, 1, (1, 0, 0)), (351, .aload_n 0, 1, (0, 0, 0)), (352, .iload 4, 2, (0, 0, 0)), (354, .iconst 2, 1, (0, 0, 0)), (355, .iadd, 1, (0, 0, 0)), (356, .iaload, 1, (1, 0, 0)), (357, .aload_n 3, 1, (0, 0, 0))]) (gs := [0 ≤ wadd i 1 ∧ wadd i 1 < (Ls : Int), 0 ≤ wadd i 2 ∧ wadd i 2 < (Ls : Int)]) (c' := (358, Lh i, [(6, 0), (0, xs (wadd i 2).toNat), (0, xs (wadd i 1).toNat), (21, 0)], g)) (zRw_ok (by decide +kernel)) rfl ⟨gd hi (by decide) (by decide), gd hi (by decide) (by decide), trivial⟩ ?_
  exact zT_0 rfl
set_option maxRecDepth 100000 in
theorem LP_4 {Ls : Nat} {xs : Nat → Int} {spec : zRn zH2} {i kk r : Int} {hc : zHC} {hm hm' : zHM} {o : Int → Int} (hi : 0 ≤ i ∧ i + 6 ≤ (Ls : Int) ∧ Ls ≤ 3072) (_hk : (kk = 0 ∧ o 0 = r) ∨ kk = 1) (q2 : F204 (xs (wadd i 1).toNat) (xs (wadd i 2).toNat) hm = some (r, hm')) (_h0 : hm' 0 0 = kk) (h' : RG hc hm') : zTo Ls xs (zRu2 spec 600) 295 (LN i o) (361, Lh i, [(0, kk)], (hc, hm, o)) := by
  refine zT_b (d := 0) (b := [(361, .istore 5, 2, (0, 0, 0)), (363, .aload_n 2, 1, (0, 0, 0)), (364, .aload_n 0, 1, (0, 0, 0)), (365, .iload 4, 2, (0, 0, 0)), (367, .iconst 1, 1, (0, 0, 0)), (368, .iadd, 1, (0, 0, 0)), (369, .iaload, 1, (1, 0, 0)), (370, .aload_n 0, 1, (0, 0, 0)), (371, .iload 4, 2, (0, 0, 0)), (373, .iconst 2, 1, (0, 0, 0)), (374, .iadd, 1, (0, 0, 0)), (375, .iaload, 1, (1, 0, 0))]) (gs := [0 ≤ wadd i 1 ∧ wadd i 1 < (Ls : Int), 0 ≤ wadd i 2 ∧ wadd i 2 < (Ls : Int)]) (c' := (376, [some (5, 0), some (21, 0), some (22, 0), some (6, 0), some (0, i), some (0, kk), none], [(0, xs (wadd i 2).toNat), (0, xs (wadd i 1).toNat), (22, 0)], (hc, hm, o))) (zRw_ok (by decide +kernel)) rfl ⟨gd hi (by decide) (by decide), gd hi (by decide) (by decide), trivial⟩ ?_
  refine zT_call (k := 204) (cl := 12) (n := 3) (i := .invokevirtual 49) (args := [(22, 0), (0, xs (wadd i 1).toNat), (0, xs (wadd i 2).toNat)]) (rest := []) (g1 := (hc, hm', o)) (r1 := some (0, r)) (zCk1_w (by decide +kernel)) rfl rfl rfl (st' := [(0, r)]) rfl (S204 (Nat.le_of_ble_eq_true rfl) _ _ hm _ q2) ?_
  refine zT_blk (m := [true, true, true, true, true, false, false]) (d := 0) (b := [(379, .istore 6, 2, (0, 0, 0)), (381, .goto 1233, 3, (0, 0, 0))]) (gs := []) (c' := (1614, Lh i, [], (hc, hm', o))) (by decide +kernel) rfl trivial ?_
  exact LE h'
set_option maxRecDepth 100000 in
theorem LX_5 {Ls : Nat} {xs : Nat → Int} {run : zRn zH2} {i : Int} {g : zH2} (hi : 0 ≤ i ∧ i + 6 ≤ (Ls : Int) ∧ Ls ≤ 3072) (hw : wand (xs i.toNat) 63 = 5) : zTo Ls xs run 295 (fun c => c = (398, Lh i, [(6, 0), (0, xs (wadd i 2).toNat), (0, xs (wadd i 1).toNat), (21, 0)], g)) (33, Lh i, [], g) := by
  refine zT_b (d := 5) (b := LBs) (gs := [0 ≤ i ∧ i < (Ls : Int), wand (xs i.toNat) 63 = 5]) (c' := (384, Lh i, [], g)) LBs_ok rfl ⟨by omega, hw, trivial⟩ ?_
  refine zT_b (d := 0) (b := [(384, .aload_n 1, 1, (0, 0, 0)), (385, .aload_n 0, 1, (0, 0, 0)), (386, .iload 4, 2, (0, 0, 0)), (388, .iconst 1, 1, (0, 0, 0)), (389, .iadd, 1, (0, 0, 0)), (390, .iaload, 1, (1, 0, 0)), (391, .aload_n 0, 1, (0, 0, 0)), (392, .iload 4, 2, (0, 0, 0)), (394, .iconst 2, 1, (0, 0, 0)), (395, .iadd, 1, (0, 0, 0)), (396, .iaload, 1, (1, 0, 0)), (397, .aload_n 3, 1, (0, 0, 0))]) (gs := [0 ≤ wadd i 1 ∧ wadd i 1 < (Ls : Int), 0 ≤ wadd i 2 ∧ wadd i 2 < (Ls : Int)]) (c' := (398, Lh i, [(6, 0), (0, xs (wadd i 2).toNat), (0, xs (wadd i 1).toNat), (21, 0)], g)) (zRw_ok (by decide +kernel)) rfl ⟨gd hi (by decide) (by decide), gd hi (by decide) (by decide), trivial⟩ ?_
  exact zT_0 rfl
set_option maxRecDepth 100000 in
theorem LP_5 {Ls : Nat} {xs : Nat → Int} {spec : zRn zH2} {i kk r : Int} {hc : zHC} {hm hm' : zHM} {o : Int → Int} (hi : 0 ≤ i ∧ i + 6 ≤ (Ls : Int) ∧ Ls ≤ 3072) (_hk : (kk = 0 ∧ o 0 = r) ∨ kk = 1) (q2 : F209 (xs (wadd i 1).toNat) (xs (wadd i 2).toNat) hm = some (r, hm')) (_h0 : hm' 0 0 = kk) (h' : RG hc hm') : zTo Ls xs (zRu2 spec 600) 295 (LN i o) (401, Lh i, [(0, kk)], (hc, hm, o)) := by
  refine zT_b (d := 0) (b := [(401, .istore 5, 2, (0, 0, 0)), (403, .aload_n 2, 1, (0, 0, 0)), (404, .aload_n 0, 1, (0, 0, 0)), (405, .iload 4, 2, (0, 0, 0)), (407, .iconst 1, 1, (0, 0, 0)), (408, .iadd, 1, (0, 0, 0)), (409, .iaload, 1, (1, 0, 0)), (410, .aload_n 0, 1, (0, 0, 0)), (411, .iload 4, 2, (0, 0, 0)), (413, .iconst 2, 1, (0, 0, 0)), (414, .iadd, 1, (0, 0, 0)), (415, .iaload, 1, (1, 0, 0))]) (gs := [0 ≤ wadd i 1 ∧ wadd i 1 < (Ls : Int), 0 ≤ wadd i 2 ∧ wadd i 2 < (Ls : Int)]) (c' := (416, [some (5, 0), some (21, 0), some (22, 0), some (6, 0), some (0, i), some (0, kk), none], [(0, xs (wadd i 2).toNat), (0, xs (wadd i 1).toNat), (22, 0)], (hc, hm, o))) (zRw_ok (by decide +kernel)) rfl ⟨gd hi (by decide) (by decide), gd hi (by decide) (by decide), trivial⟩ ?_
  refine zT_call (k := 209) (cl := 12) (n := 3) (i := .invokevirtual 52) (args := [(22, 0), (0, xs (wadd i 1).toNat), (0, xs (wadd i 2).toNat)]) (rest := []) (g1 := (hc, hm', o)) (r1 := some (0, r)) (zCk1_w (by decide +kernel)) rfl rfl rfl (st' := [(0, r)]) rfl (S209 (Nat.le_of_ble_eq_true rfl) _ _ hm _ q2) ?_
  refine zT_blk (m := [true, true, true, true, true, false, false]) (d := 0) (b := [(419, .istore 6, 2, (0, 0, 0)), (421, .goto 1193, 3, (0, 0, 0))]) (gs := []) (c' := (1614, Lh i, [], (hc, hm', o))) (by decide +kernel) rfl trivial ?_
  exact LE h'
set_option maxRecDepth 100000 in
theorem LX_6 {Ls : Nat} {xs : Nat → Int} {run : zRn zH2} {i : Int} {g : zH2} (hi : 0 ≤ i ∧ i + 6 ≤ (Ls : Int) ∧ Ls ≤ 3072) (hw : wand (xs i.toNat) 63 = 6) : zTo Ls xs run 295 (fun c => c = (438, Lh i, [(6, 0), (0, xs (wadd i 2).toNat), (0, xs (wadd i 1).toNat), (21, 0)], g)) (33, Lh i, [], g) := by
  refine zT_b (d := 6) (b := LBs) (gs := [0 ≤ i ∧ i < (Ls : Int), wand (xs i.toNat) 63 = 6]) (c' := (424, Lh i, [], g)) LBs_ok rfl ⟨by omega, hw, trivial⟩ ?_
  refine zT_b (d := 0) (b := [(424, .aload_n 1, 1, (0, 0, 0)), (425, .aload_n 0, 1, (0, 0, 0)), (426, .iload 4, 2, (0, 0, 0)), (428, .iconst 1, 1, (0, 0, 0)), (429, .iadd, 1, (0, 0, 0)), (430, .iaload, 1, (1, 0, 0)), (431, .aload_n 0, 1, (0, 0, 0)), (432, .iload 4, 2, (0, 0, 0)), (434, .iconst 2, 1, (0, 0, 0)), (435, .iadd, 1, (0, 0, 0)), (436, .iaload, 1, (1, 0, 0)), (437, .aload_n 3, 1, (0, 0, 0))]) (gs := [0 ≤ wadd i 1 ∧ wadd i 1 < (Ls : Int), 0 ≤ wadd i 2 ∧ wadd i 2 < (Ls : Int)]) (c' := (438, Lh i, [(6, 0), (0, xs (wadd i 2).toNat), (0, xs (wadd i 1).toNat), (21, 0)], g)) (zRw_ok (by decide +kernel)) rfl ⟨gd hi (by decide) (by decide), gd hi (by decide) (by decide), trivial⟩ ?_
  exact zT_0 rfl
set_option maxRecDepth 100000 in
theorem LP_6 {Ls : Nat} {xs : Nat → Int} {spec : zRn zH2} {i kk r : Int} {hc : zHC} {hm hm' : zHM} {o : Int → Int} (hi : 0 ≤ i ∧ i + 6 ≤ (Ls : Int) ∧ Ls ≤ 3072) (_hk : (kk = 0 ∧ o 0 = r) ∨ kk = 1) (q2 : F216 (xs (wadd i 1).toNat) (xs (wadd i 2).toNat) hm = some (r, hm')) (_h0 : hm' 0 0 = kk) (h' : RG hc hm') : zTo Ls xs (zRu2 spec 600) 295 (LN i o) (441, Lh i, [(0, kk)], (hc, hm, o)) := by
  refine zT_b (d := 0) (b := [(441, .istore 5, 2, (0, 0, 0)), (443, .aload_n 2, 1, (0, 0, 0)), (444, .aload_n 0, 1, (0, 0, 0)), (445, .iload 4, 2, (0, 0, 0)), (447, .iconst 1, 1, (0, 0, 0)), (448, .iadd, 1, (0, 0, 0)), (449, .iaload, 1, (1, 0, 0)), (450, .aload_n 0, 1, (0, 0, 0)), (451, .iload 4, 2, (0, 0, 0)), (453, .iconst 2, 1, (0, 0, 0)), (454, .iadd, 1, (0, 0, 0)), (455, .iaload, 1, (1, 0, 0))]) (gs := [0 ≤ wadd i 1 ∧ wadd i 1 < (Ls : Int), 0 ≤ wadd i 2 ∧ wadd i 2 < (Ls : Int)]) (c' := (456, [some (5, 0), some (21, 0), some (22, 0), some (6, 0), some (0, i), some (0, kk), none], [(0, xs (wadd i 2).toNat), (0, xs (wadd i 1).toNat), (22, 0)], (hc, hm, o))) (zRw_ok (by decide +kernel)) rfl ⟨gd hi (by decide) (by decide), gd hi (by decide) (by decide), trivial⟩ ?_
  refine zT_call (k := 216) (cl := 12) (n := 3) (i := .invokevirtual 55) (args := [(22, 0), (0, xs (wadd i 1).toNat), (0, xs (wadd i 2).toNat)]) (rest := []) (g1 := (hc, hm', o)) (r1 := some (0, r)) (zCk1_w (by decide +kernel)) rfl rfl rfl (st' := [(0, r)]) rfl (S216 (Nat.le_of_ble_eq_true rfl) _ _ hm _ q2) ?_
  refine zT_blk (m := [true, true, true, true, true, false, false]) (d := 0) (b := [(459, .istore 6, 2, (0, 0, 0)), (461, .goto 1153, 3, (0, 0, 0))]) (gs := []) (c' := (1614, Lh i, [], (hc, hm', o))) (by decide +kernel) rfl trivial ?_
  exact LE h'
theorem LC_all {Ls : Nat} {xs : Nat → Int} {spec : zRn zH2} {i : Int} {hc : zHC} {hm : zHM} {o : Int → Int} (hi : 0 ≤ i ∧ i + 6 ≤ (Ls : Int) ∧ Ls ≤ 3072) (hxs : ∀ j, zR32 (xs j)) (h : RG hc hm) (h4 : ¬ wand (xs i.toNat) 63 = 4) (h5 : ¬ wand (xs i.toNat) 63 = 5) (h6 : ¬ wand (xs i.toNat) 63 = 6) : zTo Ls xs (zRu2 spec 600) 295 (LN i o) (33, Lh i, [], (hc, hm, o)) := by
  by_cases q : wand (xs i.toNat) 63 < 0 ∨ 40 < wand (xs i.toNat) 63
  · exact LH_def hi h q
  · have q2 : wand (xs i.toNat) 63 = 0 ∨ wand (xs i.toNat) 63 = 1 ∨ wand (xs i.toNat) 63 = 2 ∨ wand (xs i.toNat) 63 = 3 ∨ wand (xs i.toNat) 63 = 7 ∨ wand (xs i.toNat) 63 = 8 ∨ wand (xs i.toNat) 63 = 9 ∨ wand (xs i.toNat) 63 = 10 ∨ wand (xs i.toNat) 63 = 11 ∨ wand (xs i.toNat) 63 = 12 ∨ wand (xs i.toNat) 63 = 13 ∨ wand (xs i.toNat) 63 = 14 ∨ wand (xs i.toNat) 63 = 15 ∨ wand (xs i.toNat) 63 = 16 ∨ wand (xs i.toNat) 63 = 17 ∨ wand (xs i.toNat) 63 = 18 ∨ wand (xs i.toNat) 63 = 19 ∨ wand (xs i.toNat) 63 = 20 ∨ wand (xs i.toNat) 63 = 21 ∨ wand (xs i.toNat) 63 = 22 ∨ wand (xs i.toNat) 63 = 23 ∨ wand (xs i.toNat) 63 = 24 ∨ wand (xs i.toNat) 63 = 25 ∨ wand (xs i.toNat) 63 = 26 ∨ wand (xs i.toNat) 63 = 27 ∨ wand (xs i.toNat) 63 = 28 ∨ wand (xs i.toNat) 63 = 29 ∨ wand (xs i.toNat) 63 = 30 ∨ wand (xs i.toNat) 63 = 31 ∨ wand (xs i.toNat) 63 = 32 ∨ wand (xs i.toNat) 63 = 33 ∨ wand (xs i.toNat) 63 = 34 ∨ wand (xs i.toNat) 63 = 35 ∨ wand (xs i.toNat) 63 = 36 ∨ wand (xs i.toNat) 63 = 37 ∨ wand (xs i.toNat) 63 = 38 ∨ wand (xs i.toNat) 63 = 39 ∨ wand (xs i.toNat) 63 = 40 := by omega
    rcases q2 with q2 | q2 | q2 | q2 | q2 | q2 | q2 | q2 | q2 | q2 | q2 | q2 | q2 | q2 | q2 | q2 | q2 | q2 | q2 | q2 | q2 | q2 | q2 | q2 | q2 | q2 | q2 | q2 | q2 | q2 | q2 | q2 | q2 | q2 | q2 | q2 | q2 | q2
    · exact LC_0 hi hxs h q2
    · exact LC_1 hi hxs h q2
    · exact LC_2 hi hxs h q2
    · exact LC_3 hi hxs h q2
    · exact LC_7 hi hxs h q2
    · exact LC_8 hi hxs h q2
    · exact LC_9 hi hxs h q2
    · exact LC_10 hi hxs h q2
    · exact LC_11 hi hxs h q2
    · exact LC_12 hi hxs h q2
    · exact LC_13 hi hxs h q2
    · exact LC_14 hi hxs h q2
    · exact LC_15 hi hxs h q2
    · exact LC_16 hi hxs h q2
    · exact LC_17 hi hxs h q2
    · exact LC_18 hi hxs h q2
    · exact LC_19 hi hxs h q2
    · exact LC_20 hi hxs h q2
    · exact LC_21 hi hxs h q2
    · exact LC_22 hi hxs h q2
    · exact LC_23 hi hxs h q2
    · exact LC_24 hi hxs h q2
    · exact LC_25 hi hxs h q2
    · exact LC_26 hi hxs h q2
    · exact LC_27 hi hxs h q2
    · exact LC_28 hi hxs h q2
    · exact LC_29 hi hxs h q2
    · exact LC_30 hi hxs h q2
    · exact LC_31 hi hxs h q2
    · exact LC_32 hi hxs h q2
    · exact LC_33 hi hxs h q2
    · exact LC_34 hi hxs h q2
    · exact LC_35 hi hxs h q2
    · exact LC_36 hi hxs h q2
    · exact LC_37 hi hxs h q2
    · exact LC_38 hi hxs h q2
    · exact LC_39 hi hxs h q2
    · exact LC_40 hi hxs h q2
end
section
/-! The law's three calls that catch, as the loop sees them. -/
theorem zGt_o {hc : zHC} {hm : zHM} {o o' : Int → Int} {r : Nat} {n i : Int} : zGt (hc, hm, o) r n i = zGt (hc, hm, o') r n i := rfl
theorem zR2_out {lO lA : Nat → Int → Nat} (ap : zAp lO lA) {hc : zHC} {hm : zHM} {o o' : Int → Int} {h : zH1} {f f' : Nat → Int} (hR : zR2 lO lA (hc, hm, o) h) (hf : h[lO 20 0]? = some (21, 1, f)) (e : f' 0 = o' 0) : zR2 lO lA (hc, hm, o') (h.set (lO 20 0) (21, 1, f')) := by
  obtain ⟨r1, r2, r3⟩ := hR
  have hlt : lO 20 0 < h.length := (List.getElem?_eq_some_iff.mp hf).1
  refine ⟨fun ci n hc' h0 h1 => ?_, fun ci k x n hc' hk hw h0 h1 => ?_, ⟨f', ?_, e⟩⟩
  · obtain ⟨f2, e2, e3⟩ := r1 ci n hc' h0 h1
    have hne : lO 20 0 ≠ lO ci n := by
      intro q
      rw [q, e2] at hf
      have := (Prod.mk.inj (Option.some.inj hf)).1
      omega
    refine ⟨f2, by rw [List.getElem?_set_ne hne]; exact e2, fun k hk => ?_⟩
    have := e3 k hk
    unfold zFl2 at this ⊢
    exact this
  · obtain ⟨f2, e2, e3⟩ := r2 ci k x n hc' hk hw h0 h1
    have hne : lO 20 0 ≠ lA (ci * 64 + k) n := fun q => ap.1 ci k x n hc' hk hw h0 h1 q.symm
    refine ⟨f2, by rw [List.getElem?_set_ne hne]; exact e2, fun i hi => ?_⟩
    have := e3 i hi
    unfold zRw2 at this ⊢
    exact this
  · rw [List.getElem?_set_self hlt]
theorem hm_K {l : Launch} {bs : Nat} {sk sv : Nat → Nat} {ac : Nat × Nat × Nat} (d : Nat) : ∀ k args h r h', zRun (zHop1 0 (fun _ => 0)) zRc1 spec1 d k args h r h' → zMetK l bs (KK bs sk sv ac) d k args h r h' :=
  z_metK KK_keep (fun d k args h r h' hd hs => by
    obtain ⟨rfl, rfl, rfl, rfl⟩ := hs
    exact z_pack hd) d
theorem xl_sr {c w : Int} : zSR zlO zlA False [(21, 0), (0, c), (0, w)] [(2, 0), (0, c), (0, w)] := ⟨Or.inr (Or.inr (Or.inr (Or.inr (Or.inl ⟨11, by decide, rfl, by decide, by decide, by decide⟩)))), Or.inl ⟨rfl, rfl⟩, Or.inl ⟨rfl, rfl⟩, trivial⟩
/-- what such a call gives the loop -/
def wC (l : Launch) (bs : Nat) (sk sv : Nat → Nat) (ac : Nat × Nat × Nat) (yL : MethodName) (bL : ByteArray) (v1 v2 : Int) (Ls : Nat) (xs : Nat → Int) (i : Int) (p2 : Nat) (hc : zHC) (hm : zHM) (h : zH1) : Prop :=
  ∃ (kk : Int) (o' : Int → Int) (h2 : zH1), zLn2 h h2 ∧ zR2 zlO zlA (hc, hm, o') h2 ∧ (∀ (D : va_G) (b : Nat) (as : List Nat) (ca : Nat → ClassId) (sz : Nat), Met l yL (Cond.codeWith yL bL 5 (some .int) xlh :: zGW) (zRm1 22 1 6) (va_Pc ([(2, 0), (0, v1), (0, v2), (2, 196)].map (cv b as)) (fun U => U.heap.size = sz ∧ zPreK bs (KK bs sk sv ac) D as ca h U)) (zQc D b as ca h sz (some (0, kk)) h2) 1 6 (va_A (zWs as ca h) sz)) ∧
    zTo Ls xs (zRu2 (fun _ _ _ _ _ => False) 600) 295 (LN i o') (p2, Lh i, [(0, kk)], (hc, hm, o'))
abbrev yL_cliff : MethodName := ⟨"EchoValeLaw", "cliff", "(LEchoVale;II[J)I"⟩
theorem xd_cliff : xl_dec method_3_code 7 := by
  unfold xl_dec
  decide +kernel
theorem xw_cliff : xl_wds 163 7 := ⟨by decide, by decide +kernel, by decide +kernel, zG_at (i := 1153) (by decide +kernel) (by decide +kernel), zG_at (i := 1154) (by decide +kernel) (by decide +kernel), zG_at (i := 1155) (by decide +kernel) (by decide +kernel)⟩
theorem lw_cliff : Cond.methodLink "EchoValeLaw" 44 yL_cliff ∈ zGW ∧ Cond.static yL_cliff ∈ zGW ∧ Cond.codeWith yL_cliff method_3_code 5 (some .int) xlh ∈ zGW := ⟨zG_at (i := 1149) (by decide +kernel) (by decide +kernel), zG_at (i := 1150) (by decide +kernel) (by decide +kernel), zG_at (i := 1151) (by decide +kernel) (by decide +kernel)⟩
theorem wc_cliff {l : Launch} (hl0 : l.stackTraces = false) {bs : Nat} {sk sv : Nat → Nat} {ac : Nat × Nat × Nat} {Ls : Nat} {xs : Nat → Int} {i : Int} {hc : zHC} {hm : zHM} {o : Int → Int} {h : zH1} (hi : 0 ≤ i ∧ i + 6 ≤ (Ls : Int) ∧ Ls ≤ 3072) (hxs : ∀ j, zR32 (xs j)) (hG : RG hc hm) (hR : zR2 zlO zlA (hc, hm, o) h) (hln : 197 ≤ h.length) :
    wC l bs sk sv ac yL_cliff method_3_code (xs (wadd i 1).toNat) (xs (wadd i 2).toNat) Ls xs i 361 hc hm h := by
  have hmet := fun k args h r h' => hm_K (l := l) (bs := bs) (sk := sk) (sv := sv) (ac := ac) 20 k args h r h'
  obtain ⟨f0, e0, -⟩ := hR.1 11 0 (by decide) (by decide) (by decide)
  rw [show zlO 11 0 = 0 from by decide] at e0
  have e578 : hc 578 0 0 = hm 14 2 := hG.2.1.1.1.2.2.1
  by_cases q : 0 ≤ xs (wadd i 1).toNat ∧ xs (wadd i 1).toNat < hm 14 2 ∧ 0 ≤ xs (wadd i 2).toNat ∧ xs (wadd i 2).toNat ≤ 3
  · obtain ⟨r, hm', q1, q2, q3, q4⟩ := (C_cliff hG).1 q
    obtain ⟨r1, h2, g1, g2, g3, g4⟩ := sp_rr (d := 20) 163 [(21, 0), (0, xs (wadd i 1).toNat), (0, xs (wadd i 2).toNat)] [(2, 0), (0, xs (wadd i 1).toNat), (0, xs (wadd i 2).toNat)] (hc, hm, o) (some (0, r)) (hc, hm, o) h (S163 (by decide) _ _ hc _ q1) xl_sr hR
    cases r1 with
    | none => exact g2.elim
    | some y =>
      have := zVR0 g2
      subst this
      obtain ⟨f1, e1, -⟩ := g3.2.2
      rw [show zlO 20 0 = 196 from by decide] at e1
      have hz := zR2_out zAp_ok (o' := fun _ => r) (f' := zUp f1 0 r) g3 (by rw [show zlO 20 0 = 196 from by decide]; exact e1) (by unfold zUp; rw [if_pos rfl])
      rw [show zlO 20 0 = 196 from by decide] at hz
      exact ⟨0, fun _ => r, _, ⟨by rw [List.length_set]; exact g4.1, (zSl_set (c' := (21, 1, zUp f1 0 r)) e1 rfl).trans g4.2⟩, hz, fun D b as ca sz => xl_ret hmet (by decide) rfl xd_cliff xw_cliff g1 g4 e0 e1 hln (hxs _) (hxs _) D b as ca sz, LP_4 hi (Or.inl ⟨rfl, rfl⟩) q2 q3 q4⟩
  · obtain ⟨r, hm', q2, q3, q4⟩ := (C_cliff hG).2 q
    obtain ⟨n, L', h2, g1, g2, g3⟩ := xq_run (d := 20) hR (xq_cliff (o := o) (by decide) e578 (fun z => q ⟨z.1.1, z.1.2, z.2.1, z.2.2⟩))
    exact ⟨1, o, h2, g2, g3, fun D b as ca sz => xl_thr hl0 hmet (by decide) (by decide) rfl xd_cliff xw_cliff (by decide +kernel) g1 g2 (by decide +kernel) (by decide +kernel) (by decide +kernel) (by decide +kernel) (by decide +kernel) (fun U H hK => hK.2.2.1) e0 hln (hxs _) (hxs _) D b as ca sz, LP_4 hi (Or.inr rfl) q2 q3 q4⟩
abbrev yL_person : MethodName := ⟨"EchoValeLaw", "person", "(LEchoVale;II[J)I"⟩
theorem xd_person : xl_dec method_4_code 15 := by
  unfold xl_dec
  decide +kernel
theorem xw_person : xl_wds 164 15 := ⟨by decide, by decide +kernel, by decide +kernel, zG_at (i := 1225) (by decide +kernel) (by decide +kernel), zG_at (i := 1226) (by decide +kernel) (by decide +kernel), zG_at (i := 1227) (by decide +kernel) (by decide +kernel)⟩
theorem lw_person : Cond.methodLink "EchoValeLaw" 50 yL_person ∈ zGW ∧ Cond.static yL_person ∈ zGW ∧ Cond.codeWith yL_person method_4_code 5 (some .int) xlh ∈ zGW := ⟨zG_at (i := 1222) (by decide +kernel) (by decide +kernel), zG_at (i := 1223) (by decide +kernel) (by decide +kernel), zG_at (i := 1224) (by decide +kernel) (by decide +kernel)⟩
theorem wc_person {l : Launch} (hl0 : l.stackTraces = false) {bs : Nat} {sk sv : Nat → Nat} {ac : Nat × Nat × Nat} {Ls : Nat} {xs : Nat → Int} {i : Int} {hc : zHC} {hm : zHM} {o : Int → Int} {h : zH1} (hi : 0 ≤ i ∧ i + 6 ≤ (Ls : Int) ∧ Ls ≤ 3072) (hxs : ∀ j, zR32 (xs j)) (hG : RG hc hm) (hR : zR2 zlO zlA (hc, hm, o) h) (hln : 197 ≤ h.length) :
    wC l bs sk sv ac yL_person method_4_code (xs (wadd i 1).toNat) (xs (wadd i 2).toNat) Ls xs i 401 hc hm h := by
  have hmet := fun k args h r h' => hm_K (l := l) (bs := bs) (sk := sk) (sv := sv) (ac := ac) 20 k args h r h'
  obtain ⟨f0, e0, -⟩ := hR.1 11 0 (by decide) (by decide) (by decide)
  rw [show zlO 11 0 = 0 from by decide] at e0
  have e579 : hc 579 0 0 = hm 14 3 := hG.2.1.1.1.2.2.2.1
  by_cases q : 0 ≤ xs (wadd i 1).toNat ∧ xs (wadd i 1).toNat < hm 14 3 ∧ 0 ≤ xs (wadd i 2).toNat ∧ xs (wadd i 2).toNat ≤ 5
  · obtain ⟨r, hm', q1, q2, q3, q4⟩ := (C_person hG).1 q
    obtain ⟨r1, h2, g1, g2, g3, g4⟩ := sp_rr (d := 20) 164 [(21, 0), (0, xs (wadd i 1).toNat), (0, xs (wadd i 2).toNat)] [(2, 0), (0, xs (wadd i 1).toNat), (0, xs (wadd i 2).toNat)] (hc, hm, o) (some (0, r)) (hc, hm, o) h (S164 (by decide) _ _ hc _ q1) xl_sr hR
    cases r1 with
    | none => exact g2.elim
    | some y =>
      have := zVR0 g2
      subst this
      obtain ⟨f1, e1, -⟩ := g3.2.2
      rw [show zlO 20 0 = 196 from by decide] at e1
      have hz := zR2_out zAp_ok (o' := fun _ => r) (f' := zUp f1 0 r) g3 (by rw [show zlO 20 0 = 196 from by decide]; exact e1) (by unfold zUp; rw [if_pos rfl])
      rw [show zlO 20 0 = 196 from by decide] at hz
      exact ⟨0, fun _ => r, _, ⟨by rw [List.length_set]; exact g4.1, (zSl_set (c' := (21, 1, zUp f1 0 r)) e1 rfl).trans g4.2⟩, hz, fun D b as ca sz => xl_ret hmet (by decide) rfl xd_person xw_person g1 g4 e0 e1 hln (hxs _) (hxs _) D b as ca sz, LP_5 hi (Or.inl ⟨rfl, rfl⟩) q2 q3 q4⟩
  · obtain ⟨r, hm', q2, q3, q4⟩ := (C_person hG).2 q
    obtain ⟨n, L', h2, g1, g2, g3⟩ := xq_run (d := 20) hR (xq_person (o := o) (by decide) e579 (fun z => q ⟨z.1.1, z.1.2, z.2.1, z.2.2⟩))
    exact ⟨1, o, h2, g2, g3, fun D b as ca sz => xl_thr hl0 hmet (by decide) (by decide) rfl xd_person xw_person (by decide +kernel) g1 g2 (by decide +kernel) (by decide +kernel) (by decide +kernel) (by decide +kernel) (by decide +kernel) (fun U H hK => hK.2.2.2.1) e0 hln (hxs _) (hxs _) D b as ca sz, LP_5 hi (Or.inr rfl) q2 q3 q4⟩
abbrev yL_saying : MethodName := ⟨"EchoValeLaw", "saying", "(LEchoVale;II[J)I"⟩
theorem xd_saying : xl_dec method_5_code 18 := by
  unfold xl_dec
  decide +kernel
theorem xw_saying : xl_wds 167 18 := ⟨by decide, by decide +kernel, by decide +kernel, zG_at (i := 1241) (by decide +kernel) (by decide +kernel), zG_at (i := 1242) (by decide +kernel) (by decide +kernel), zG_at (i := 1243) (by decide +kernel) (by decide +kernel)⟩
theorem lw_saying : Cond.methodLink "EchoValeLaw" 53 yL_saying ∈ zGW ∧ Cond.static yL_saying ∈ zGW ∧ Cond.codeWith yL_saying method_5_code 5 (some .int) xlh ∈ zGW := ⟨zG_at (i := 1238) (by decide +kernel) (by decide +kernel), zG_at (i := 1239) (by decide +kernel) (by decide +kernel), zG_at (i := 1240) (by decide +kernel) (by decide +kernel)⟩
theorem wc_saying {l : Launch} (hl0 : l.stackTraces = false) {bs : Nat} {sk sv : Nat → Nat} {ac : Nat × Nat × Nat} {Ls : Nat} {xs : Nat → Int} {i : Int} {hc : zHC} {hm : zHM} {o : Int → Int} {h : zH1} (hi : 0 ≤ i ∧ i + 6 ≤ (Ls : Int) ∧ Ls ≤ 3072) (hxs : ∀ j, zR32 (xs j)) (hG : RG hc hm) (hR : zR2 zlO zlA (hc, hm, o) h) (hln : 197 ≤ h.length) :
    wC l bs sk sv ac yL_saying method_5_code (xs (wadd i 1).toNat) (xs (wadd i 2).toNat) Ls xs i 441 hc hm h := by
  have hmet := fun k args h r h' => hm_K (l := l) (bs := bs) (sk := sk) (sv := sv) (ac := ac) 20 k args h r h'
  obtain ⟨f0, e0, -⟩ := hR.1 11 0 (by decide) (by decide) (by decide)
  rw [show zlO 11 0 = 0 from by decide] at e0
  have e65 : hc 65 0 0 = hm 14 216 := (by have := hG.2.1.2.1.2.1; omega)
  by_cases q : 0 ≤ xs (wadd i 1).toNat ∧ xs (wadd i 1).toNat < hm 14 216 ∧ 0 ≤ xs (wadd i 2).toNat ∧ xs (wadd i 2).toNat ≤ 7
  · obtain ⟨r, hm', q1, q2, q3, q4⟩ := (C_saying hG).1 q
    obtain ⟨r1, h2, g1, g2, g3, g4⟩ := sp_rr (d := 20) 167 [(21, 0), (0, xs (wadd i 1).toNat), (0, xs (wadd i 2).toNat)] [(2, 0), (0, xs (wadd i 1).toNat), (0, xs (wadd i 2).toNat)] (hc, hm, o) (some (0, r)) (hc, hm, o) h (S167 (by decide) _ _ hc _ q1) xl_sr hR
    cases r1 with
    | none => exact g2.elim
    | some y =>
      have := zVR0 g2
      subst this
      obtain ⟨f1, e1, -⟩ := g3.2.2
      rw [show zlO 20 0 = 196 from by decide] at e1
      have hz := zR2_out zAp_ok (o' := fun _ => r) (f' := zUp f1 0 r) g3 (by rw [show zlO 20 0 = 196 from by decide]; exact e1) (by unfold zUp; rw [if_pos rfl])
      rw [show zlO 20 0 = 196 from by decide] at hz
      exact ⟨0, fun _ => r, _, ⟨by rw [List.length_set]; exact g4.1, (zSl_set (c' := (21, 1, zUp f1 0 r)) e1 rfl).trans g4.2⟩, hz, fun D b as ca sz => xl_ret hmet (by decide) rfl xd_saying xw_saying g1 g4 e0 e1 hln (hxs _) (hxs _) D b as ca sz, LP_6 hi (Or.inl ⟨rfl, rfl⟩) q2 q3 q4⟩
  · obtain ⟨r, hm', q2, q3, q4⟩ := (C_saying hG).2 q
    obtain ⟨n, L', h2, g1, g2, g3⟩ := xq_run (d := 20) hR (xq_saying (o := o) (by decide) e65 (fun z => q ⟨z.1.1, z.1.2, z.2.1, z.2.2⟩))
    exact ⟨1, o, h2, g2, g3, fun D b as ca sz => xl_thr hl0 hmet (by decide) (by decide) rfl xd_saying xw_saying (by decide +kernel) g1 g2 (by decide +kernel) (by decide +kernel) (by decide +kernel) (by decide +kernel) (by decide +kernel) (fun U H hK => hK.2.2.2.2.1) e0 hln (hxs _) (hxs _) D b as ca sz, LP_6 hi (Or.inr rfl) q2 q3 q4⟩
end
section
/-! The law's loop. -/
section WL
variable {p : Program} {l : Launch} {e : Env} {R : Room} {s : State} {m : MethodId} {args : Array Value} {below : List Frame} {meth : Method} {c : Code} {Q : State → Prop}
variable {D : va_G} {b Ls : Nat} {xs : Nat → Int32} {sk sv : Nat → Nat} {ac : Nat × Nat × Nat}
/-- what stands all along -/
def wX (p : Program) (l : Launch) (R : Room) (s : State) (m : MethodId) (args : Array Value) (meth : Method) (c : Code) (b Ls : Nat) (xs : Nat → Int32) (sk sv : Nat → Nat) (ac : Nat × Nat × Nat) : Prop :=
  601 ≤ R.frames ∧ 36040 ≤ R.locals ∧ zCx p R s m args meth c (fun q => s.heap.size ≤ q) s.heap b Ls xs 295 ∧ KK s.heap.size sk sv ac s s.heap ∧ Ls ≤ 3072 ∧ l.stackTraces = false
theorem w_go {P : zCf zH2 → Prop} {c2 : zCf zH2} {c1 : zCf zH1} {as : List Nat} {ca : Nat → ClassId} {ls : Array Slot} {H : Heap} {locs : List Loc} {k1 k2 : Nat} (hX : wX p l R s m args meth c b Ls xs sk sv ac) (hk1 : k1 ≤ R.cells) (hk2 : k2 ≤ R.slots) (ht : zTo Ls (fun j => (xs j).toInt) (zRu2 (fun _ _ _ _ _ => False) 600) 295 P c2) (hC : zCR zlO zlA True c2 c1)
    (hH : zHR s D (fun q => s.heap.size ≤ q) s.heap as ca c1.2.2.2 H locs) (hF : zFR b (zmC 295 = 16) as c1.2.2.2.length c1.2.1 c1.2.2.1 ls (zmMax 295))
    (kk : ∀ (c2' : zCf zH2) (c1' : zCf zH1) (as' : List Nat) (ca' : Nat → ClassId) (ls' : Array Slot) (H' : Heap) (locs' : List Loc), P c2' → zCR zlO zlA True c2' c1' → zLn2 c1.2.2.2 c1'.2.2.2 → zHR s D (fun q => s.heap.size ≤ q) s.heap as' ca' c1'.2.2.2 H' locs' → zFR b (zmC 295 = 16) as' c1'.2.2.2.length c1'.2.1 c1'.2.2.1 ls' (zmMax 295) → W p l e R s m args below meth c H' locs' k1 k2 Q (F0 m c1'.1 ls' (c1'.2.2.1.map (cv b as')))) :
    W p l e R s m args below meth c H locs k1 k2 Q (F0 m c1.1 ls (c1.2.2.1.map (cv b as))) := by
  obtain ⟨x1, x2, x3, x4, x5, x6⟩ := hX
  obtain ⟨n, c2', g1, g2⟩ := ht
  obtain ⟨n', c1', q1, q2, q3⟩ := z_parNs zAp_ok sp_rr hC g1
  exact z_any (d := 600) (bs := s.heap.size) (K := KK s.heap.size sk sv ac) x1 x2 hk1 hk2 KK_keep ⟨x4, Nat.le_refl _, fun q h => h⟩ x3 (hm_K 600) q1 q3.1 q3.2 hH hF (fun as' ca' ls' H' locs' h1 h2 h3 => kk c2' c1' as' ca' ls' H' locs' g2 q2 q3 h1 h2)
theorem w_call {yL : MethodName} {bL : ByteArray} {idL p1 : Nat} {v1 v2 k9 : Int} {L' : zLo} {h1 h2 : zH1} {as : List Nat} {ca : Nat → ClassId} {ls : Array Slot} {H : Heap} {locs : List Loc} {k1 k2 : Nat} (hX : wX p l R s m args meth c b Ls xs sk sv ac) (hk1 : k1 + 1 ≤ R.cells) (hk2 : k2 + 6 ≤ R.slots)
    (hM : Met l yL (Cond.codeWith yL bL 5 (some .int) xlh :: zGW) (zRm1 22 1 6) (va_Pc ([(2, 0), (0, v1), (0, v2), (2, 196)].map (cv b as)) (fun U => U.heap.size = H.size ∧ zPreK s.heap.size (KK s.heap.size sk sv ac) D as ca h1 U)) (zQc D b as ca h1 H.size (some (0, k9)) h2) 1 6 (va_A (zWs as ca h1) H.size))
    (hwd : Cond.methodLink "EchoValeLaw" idL yL ∈ zGW ∧ Cond.static yL ∈ zGW ∧ Cond.codeWith yL bL 5 (some .int) xlh ∈ zGW) (hini : Cond.initialized yL.cls ∈ zGW) (hyn : yL.cls ≠ "java/lang/invoke/MethodHandle" ∧ yL.cls ≠ "java/lang/invoke/VarHandle") (hpar : (parseMethodDescriptor yL.desc).map (fun d => d.parameters.length) = some 4) (hdec : decode (zmCode 295) p1 = .ok (.invokestatic idL, 3))
    (hH : zHR s D (fun q => s.heap.size ≤ q) s.heap as ca h1 H locs) (hF : zFR b (zmC 295 = 16) as h1.length L' [(2, 196), (0, v2), (0, v1), (2, 0)] ls (zmMax 295)) (eL : zLn2 h1 h2)
    (kk : ∀ (as' : List Nat) (ca' : Nat → ClassId) (H' : Heap) (locs' : List Loc), zHR s D (fun q => s.heap.size ≤ q) s.heap as' ca' h2 H' locs' → zFR b (zmC 295 = 16) as' h2.length L' [(0, k9)] ls (zmMax 295) → W p l e R s m args below meth c H' locs' (k1 + 1) (k2 + 6) Q (F0 m (p1 + 3) ls ([(0, k9)].map (cv b as')))) :
    W p l e R s m args below meth c H locs k1 k2 Q (F0 m p1 ls ([(2, 196), (0, v2), (0, v1), (2, 0)].map (cv b as))) := by
  obtain ⟨x1, x2, ⟨hx, hb, hml, hown, hts, hkn, hA, hnm, hscr, hf, hlo⟩, x4, x5, x6⟩ := hX
  have hown' : s.vm.findClass "EchoValeLaw" = some m.cls := by
    rw [← hown]
    exact congrArg _ (by decide +kernel)
  obtain ⟨a1, a2, a3, a4, a5, a6⟩ := id hH
  have hp4 : ∀ sig, parseMethodDescriptor yL.desc = some sig → 4 = sig.parameters.length := by
    intro sig q
    rw [q] at hpar
    exact (Option.some.inj hpar).symm
  have hrr := vx_runSW (p := p) (l := l) (e := e) (R := R) (below := below) (meth := meth) (H := H) (locs := locs) (cells := k1) (slots := k2) (own := "EchoValeLaw") (index := idL) (As := [.ref (as.getD 0 0), .int (Int32.ofInt v1), .int (Int32.ofInt v2), .ref (as.getD 196 0)]) (rest := []) (g := F0 m p1 ls ([(2, 196), (0, v2), (0, v1), (2, 0)].map (cv b as))) (n := 4) (hh := xlh) (cc := zmCode 295) (nL := zmMax 295) (Ts := zGW) ⟨hx, hb, hml, hown', hts⟩ hM
    ⟨⟨rfl, rfl, by show 22 + 1 ≤ R.frames; omega, by show 8 + (5 + 11) + 60 * 22 ≤ R.locals; omega, pay_in hts (jc_good hwd.2.2 (fun _ hx => List.mem_cons.mp hx)), List.mem_cons_self⟩, hts _ hwd.2.2, hts _ hini, hyn, hp4, hts _ hwd.1, hts _ hwd.2.1⟩
    ⟨zBlindK KK_keep, fun U hU hW => ⟨rfl, by rw [hU], ⟨a1, zKnH.moved hW.alike a2, by rw [hU]; exact a3, ⟨a4.1, fun _ _ _ => trivial⟩, a6, zKnS_warm hW hkn⟩, by rw [hU]; exact KK_keep s U s.heap H hW x4 (fun a ha hb => a5.2.1 a ha hb), by rw [hU]; exact a5.1, fun k hk => zAsA a4 hk⟩⟩ rfl rfl hF.1.1 rfl (lv_room (Nat.le_of_ble_eq_true rfl)) hdec ⟨hk1, hk2⟩
  refine z_backW (b := b) (r := some (0, k9)) (h1 := h2) hA hH hrr ?_
  intro as' ca' H' locs' hH' hp' hwr
  have hcv : ∀ x, wfv h1.length (zmC 295 = 16) x → cv b as' x = cv b as x := fun x hx => cv_pre hp' (by rw [a1]; exact hx)
  refine kk as' ca' H' locs' hH' ⟨⟨hF.1.1, hF.1.2.1, fun i x hx => by rw [hcv x (hF.2.2.1 i x hx)]; exact hF.1.2.2 i x hx⟩, hF.2.1, fun i x hx => wfv_up (Nat.le_of_eq eL.1.symm) (hF.2.2.1 i x hx), fun x hx => ?_⟩
  have : x = (0, k9) := by simpa using hx
  subst this
  exact wfv_sc (hwr _ rfl)
theorem zVR6 {lO lA : Nat → Int → Nat} {sc : Prop} {x : Int} {a1 : zAv} (h : zVR lO lA sc (6, x) a1) : a1 = (2, (lO 20 0 : Int)) := by
  rcases h with ⟨h, -⟩ | ⟨h, -⟩ | ⟨h, -⟩ | ⟨-, h⟩ | ⟨ci, -, h, -⟩ | ⟨ci, k, y, q1, q2, -, h, -⟩
  · exact absurd h (by show ¬ (6 : Nat) = 0; decide)
  · exact absurd h (by show ¬ (6 : Nat) = 1; decide)
  · exact absurd h (by show ¬ (6 : Nat) = 5; decide)
  · exact h
  · have h : (6 : Nat) = 10 + ci := h
    omega
  · have h : (6 : Nat) = zTg2 (ci * 64 + k) y := h
    have := (zTg2_r (r := ci * 64 + k) (x := y) (zNf_le2 q1 q2).1).2.2.2
    omega
theorem w_sp {yL : MethodName} {bL : ByteArray} {idL p1 : Nat} {i : Int} {hc : zHC} {hm : zHM} {o : Int → Int} {h : zH1} {L1 : zLo} {as : List Nat} {ca : Nat → ClassId} {ls : Array Slot} {H : Heap} {locs : List Loc} {k1 k2 : Nat} (hX : wX p l R s m args meth c b Ls xs sk sv ac) (hk1 : k1 + 1 ≤ R.cells) (hk2 : k2 + 6 ≤ R.slots)
    (hwd : Cond.methodLink "EchoValeLaw" idL yL ∈ zGW ∧ Cond.static yL ∈ zGW ∧ Cond.codeWith yL bL 5 (some .int) xlh ∈ zGW) (hini : Cond.initialized yL.cls ∈ zGW) (hyn : yL.cls ≠ "java/lang/invoke/MethodHandle" ∧ yL.cls ≠ "java/lang/invoke/VarHandle") (hpar : (parseMethodDescriptor yL.desc).map (fun d => d.parameters.length) = some 4) (hdec : decode (zmCode 295) p1 = .ok (.invokestatic idL, 3))
    (v1 v2 : Int) (ht : zTo Ls (fun j => (xs j).toInt) (zRu2 (fun _ _ _ _ _ => False) 600) 295 (fun c => c = (p1, Lh i, [(6, 0), (0, v2), (0, v1), (21, 0)], (hc, hm, o))) (23, Lh i, [], (hc, hm, o)))
    (hw : ∀ h1 : zH1, zR2 zlO zlA (hc, hm, o) h1 → 197 ≤ h1.length → wC l s.heap.size sk sv ac yL bL v1 v2 Ls (fun j => (xs j).toInt) i (p1 + 3) hc hm h1)
    (hC : zCR zlO zlA True (23, Lh i, [], (hc, hm, o)) (23, L1, [], h)) (hln : 197 ≤ h.length) (hH : zHR s D (fun q => s.heap.size ≤ q) s.heap as ca h H locs) (hF : zFR b (zmC 295 = 16) as h.length L1 [] ls (zmMax 295))
    (kk : ∀ (o' : Int → Int) (c2' : zCf zH2) (c1' : zCf zH1) (as' : List Nat) (ca' : Nat → ClassId) (ls' : Array Slot) (H' : Heap) (locs' : List Loc), LN i o' c2' → zCR zlO zlA True c2' c1' → 197 ≤ c1'.2.2.2.length → zHR s D (fun q => s.heap.size ≤ q) s.heap as' ca' c1'.2.2.2 H' locs' → zFR b (zmC 295 = 16) as' c1'.2.2.2.length c1'.2.1 c1'.2.2.1 ls' (zmMax 295) → W p l e R s m args below meth c H' locs' (k1 + 1) (k2 + 6) Q (F0 m c1'.1 ls' (c1'.2.2.1.map (cv b as')))) :
    W p l e R s m args below meth c H locs k1 k2 Q (F0 m 23 ls []) := by
  refine w_go (c1 := (23, L1, [], h)) hX (by omega) (by omega) ht hC hH hF ?_
  intro c2' c1' as1 ca1 ls1 H1 locs1 hP hC1 hLn hH1 hF1
  subst hP
  obtain ⟨pc1, L2, st1, h1⟩ := c1'
  obtain ⟨e1, e2, e3, e4⟩ := hC1
  dsimp only at e1 e2 e3 e4 hH1 hF1 hLn
  have e1' := e1.symm; subst e1'
  obtain ⟨b0, s0, rfl, q1, r1⟩ := zSR_cons e3
  have := zVR6 q1; subst this
  obtain ⟨b1, s1, rfl, q2, r2⟩ := zSR_cons r1
  have := zVR0 q2; subst this
  obtain ⟨b2, s2, rfl, q3, r3⟩ := zSR_cons r2
  have := zVR0 q3; subst this
  obtain ⟨b3, s3, rfl, q4, r4⟩ := zSR_cons r3
  have := (zVR_obj (ci := 11) (by decide) q4).2.2; subst this
  have := zSR_nil r4; subst this
  rw [show zlO 20 0 = 196 from by decide, show zlO 11 0 = 0 from by decide] at hF1
  rw [show zlO 20 0 = 196 from by decide, show zlO 11 0 = 0 from by decide]
  have hln1 : 197 ≤ h1.length := by have := hLn.1; omega
  obtain ⟨k9, o', h2, g1, g2, g3, g4⟩ := hw h1 e4 hln1
  refine w_call (v1 := v1) (v2 := v2) (k9 := k9) (h1 := h1) (h2 := h2) (L' := L2) hX hk1 hk2 (g3 D b as1 ca1 H1.size) hwd hini hyn hpar hdec hH1 hF1 g1 ?_
  intro as2 ca2 H2 locs2 hH2 hF2
  refine w_go (c1 := (p1 + 3, L2, [(0, k9)], h2)) hX hk1 hk2 g4 ⟨rfl, e2, ⟨Or.inl ⟨rfl, rfl⟩, trivial⟩, g2⟩ hH2 hF2 ?_
  intro c2' c1' as3 ca3 ls3 H3 locs3 hP hC3 hLn3 hH3 hF3
  exact kk o' c2' c1' as3 ca3 ls3 H3 locs3 hP hC3 (by have := hLn3.1; have := g1.1; dsimp only at *; omega) hH3 hF3
theorem gw_0 : Cond.initialized "EchoValeLaw" ∈ zGW := zG_at (i := 0) (by decide +kernel) (by decide +kernel)
theorem w_loop {KC KS : Nat} (hKC : KC ≤ R.cells) (hKS : KS ≤ R.slots) (hX : wX p l R s m args meth c b Ls xs sk sv ac)
    (fin : ∀ (ls : Array Slot) (H : Heap) (locs : List Loc) (k1 k2 : Nat), k1 ≤ KC → k2 ≤ KS → (∀ q ∈ locs, s.heap.size ≤ q.base) → W p l e R s m args below meth c H locs k1 k2 Q (F0 m 1621 ls [.int 1])) :
    ∀ (n : Nat) (i : Int) (hc : zHC) (hm : zHM) (o : Int → Int) (h : zH1) (L1 : zLo) (as : List Nat) (ca : Nat → ClassId) (ls : Array Slot) (H : Heap) (locs : List Loc) (k1 k2 : Nat), 0 ≤ i → (Ls : Int) < i + 6 + 6 * (n : Int) → RG hc hm → zCR zlO zlA True (23, Lh i, [], (hc, hm, o)) (23, L1, [], h) → 197 ≤ h.length → zHR s D (fun q => s.heap.size ≤ q) s.heap as ca h H locs → zFR b (zmC 295 = 16) as h.length L1 [] ls (zmMax 295) → k1 + n ≤ KC → k2 + 6 * n ≤ KS → W p l e R s m args below meth c H locs k1 k2 Q (F0 m 23 ls []) := by
  have hLs : Ls ≤ 3072 := hX.2.2.2.2.1
  have hl0 := hX.2.2.2.2.2
  have hxs : ∀ j, zR32 ((fun j => (xs j).toInt) j) := fun j => r32 _
  have out : ∀ (i : Int) (hc : zHC) (hm : zHM) (o : Int → Int) (h : zH1) (L1 : zLo) (as : List Nat) (ca : Nat → ClassId) (ls : Array Slot) (H : Heap) (locs : List Loc) (k1 k2 : Nat), (Ls : Int) < i + 6 → zCR zlO zlA True (23, Lh i, [], (hc, hm, o)) (23, L1, [], h) → zHR s D (fun q => s.heap.size ≤ q) s.heap as ca h H locs → zFR b (zmC 295 = 16) as h.length L1 [] ls (zmMax 295) → k1 ≤ KC → k2 ≤ KS → W p l e R s m args below meth c H locs k1 k2 Q (F0 m 23 ls []) := by
    intro i hc hm o h L1 as ca ls H locs k1 k2 hlt hC hH hF hk1 hk2
    refine w_go (c1 := (23, L1, [], h)) hX (by omega) (by omega) (LH_out hLs hlt) hC hH hF ?_
    intro c2' c1' as1 ca1 ls1 H1 locs1 hP hC1 hLn hH1 hF1
    subst hP
    obtain ⟨pc1, L2, st1, h1⟩ := c1'
    obtain ⟨e1, e2, e3, e4⟩ := hC1
    dsimp only at e1 e2 e3 e4 hH1 hF1
    subst e1
    obtain ⟨b0, s0, rfl, q1, r1⟩ := zSR_cons e3
    have := zVR0 q1; subst this
    have := zSR_nil r1; subst this
    exact fin ls1 H1 locs1 k1 k2 hk1 hk2 hH1.2.2.2.2.1.2.2
  intro n
  induction n with
  | zero =>
    intro i hc hm o h L1 as ca ls H locs k1 k2 h0 hlt hG hC hln hH hF hk1 hk2
    exact out i hc hm o h L1 as ca ls H locs k1 k2 (by omega) hC hH hF (by omega) (by omega)
  | succ n ih =>
    intro i hc hm o h L1 as ca ls H locs k1 k2 h0 hlt hG hC hln hH hF hk1 hk2
    by_cases hin : (Ls : Int) < i + 6
    · exact out i hc hm o h L1 as ca ls H locs k1 k2 hin hC hH hF (by omega) (by omega)
    · have hi : 0 ≤ i ∧ i + 6 ≤ (Ls : Int) ∧ Ls ≤ 3072 := ⟨h0, by omega, hLs⟩
      have e6 : wadd i 6 = i + 6 := wadd_eq (by omega) (by omega)
      have nx : ∀ (o' : Int → Int) (j1 j2 : Nat) (c2' : zCf zH2) (c1' : zCf zH1) (as' : List Nat) (ca' : Nat → ClassId) (ls' : Array Slot) (H' : Heap) (locs' : List Loc), j1 + n ≤ KC → j2 + 6 * n ≤ KS → LN i o' c2' → zCR zlO zlA True c2' c1' → 197 ≤ c1'.2.2.2.length → zHR s D (fun q => s.heap.size ≤ q) s.heap as' ca' c1'.2.2.2 H' locs' → zFR b (zmC 295 = 16) as' c1'.2.2.2.length c1'.2.1 c1'.2.2.1 ls' (zmMax 295) → W p l e R s m args below meth c H' locs' j1 j2 Q (F0 m c1'.1 ls' (c1'.2.2.1.map (cv b as'))) := by
        intro o' j1 j2 c2' c1' as' ca' ls' H' locs' hj1 hj2 hP hC' hln' hH' hF'
        obtain ⟨hc', hm', hG', rfl⟩ := hP
        obtain ⟨pc1, L2, st1, h1⟩ := c1'
        obtain ⟨e1, e2, e3, e4⟩ := id hC'
        dsimp only at e1 e2 e3 e4 hH' hF' hln'
        subst e1
        have := zSR_nil e3; subst this
        exact ih (wadd i 6) hc' hm' o' h1 L2 as' ca' ls' H' locs' j1 j2 (by rw [e6]; omega) (by rw [e6]; omega) hG' hC' hln' hH' hF' hj1 hj2
      by_cases q4 : wand ((xs i.toNat).toInt) 63 = 4
      · exact w_sp (yL := yL_cliff) (bL := method_3_code) (idL := 44) (p1 := 358) hX (by omega) (by omega) lw_cliff gw_0 (by decide) (by decide +kernel) (by decide +kernel) _ _ (LH_in hi (LX_4 hi q4)) (fun h1 hR1 hl1 => wc_cliff hl0 hi hxs hG hR1 hl1) hC hln hH hF (fun o' c2' c1' as' ca' ls' H' locs' a1 a2 a3 a4 a5 => nx o' (k1 + 1) (k2 + 6) c2' c1' as' ca' ls' H' locs' (by omega) (by omega) a1 a2 a3 a4 a5)
      by_cases q5 : wand ((xs i.toNat).toInt) 63 = 5
      · exact w_sp (yL := yL_person) (bL := method_4_code) (idL := 50) (p1 := 398) hX (by omega) (by omega) lw_person gw_0 (by decide) (by decide +kernel) (by decide +kernel) _ _ (LH_in hi (LX_5 hi q5)) (fun h1 hR1 hl1 => wc_person hl0 hi hxs hG hR1 hl1) hC hln hH hF (fun o' c2' c1' as' ca' ls' H' locs' a1 a2 a3 a4 a5 => nx o' (k1 + 1) (k2 + 6) c2' c1' as' ca' ls' H' locs' (by omega) (by omega) a1 a2 a3 a4 a5)
      by_cases q6 : wand ((xs i.toNat).toInt) 63 = 6
      · exact w_sp (yL := yL_saying) (bL := method_5_code) (idL := 53) (p1 := 438) hX (by omega) (by omega) lw_saying gw_0 (by decide) (by decide +kernel) (by decide +kernel) _ _ (LH_in hi (LX_6 hi q6)) (fun h1 hR1 hl1 => wc_saying hl0 hi hxs hG hR1 hl1) hC hln hH hF (fun o' c2' c1' as' ca' ls' H' locs' a1 a2 a3 a4 a5 => nx o' (k1 + 1) (k2 + 6) c2' c1' as' ca' ls' H' locs' (by omega) (by omega) a1 a2 a3 a4 a5)
      refine w_go (c1 := (23, L1, [], h)) (P := LN i o) hX (by omega) (by omega) (LH_in hi (LC_all hi hxs hG q4 q5 q6)) hC hH hF ?_
      intro c2' c1' as' ca' ls' H' locs' a1 a2 a3 a4 a5
      exact nx o k1 k2 c2' c1' as' ca' ls' H' locs' (by omega) (by omega) a1 a2 (by have := a3.1; dsimp only at this; omega) a4 a5
end WL
end
section
/-! The law's entry: the claim's words, and the walk put together. -/
/-! THE CLAIM OUT OF ONE WALK OF THE LAW'S BODY.  -/
def R_law : String := "EchoValeLaw"
def lw_P (b : Addr) (xs : List Int32) (args : Array Value) (s : State) : Prop := args = #[.ref b] ∧ s.IntsAt b xs ∧ xs.length ≤ 3072 ∧ (Jvm.Cond.and given_1 narrow_1).before args s = true
def lw_Q (_ : Array Value) (s : State) (o : Outcome) (t : State) : Prop := o = .returned (some (.int 1)) ∧ Framed s o t [] 601024 7293034
def lw_Z (below : List Frame) (a : Array Value) (s : State) : State → Prop := fun t => ∃ o, t.status = .running ∧ Ended t below o ∧ lw_Q a s o t
/-- the law's own end, with 1 on the stack, nothing written that was there before, its room as the claim has it -/
theorem lw_ret {p : Program} {l : Launch} {e : Env} {s : State} {m : MethodId} {below : List Frame} {meth : Method} {c : Code} {b : Nat} (hx : p.tables.exec = Jvm.exec) (hb : c.code = code) (hr : meth.sig.returnType = ret) (hlocks : meth.locks = false) {pc : Nat} {H : Heap} {ls : Array Slot} (hdg : decode code pc = .ok (.ireturn, 1)) : W p l e room_1 s m #[Value.ref b] below meth c H [] 601024 7293034 (lw_Z below #[Value.ref b] s) (F0 m pc ls [.int 1]) := by
  intro T hT X
  obtain ⟨fs, hret, hrun, hended, hW, hframe⟩ := X.leave (v := some (.int 1)) (hlocks := hlocks) (fun h => by rw [hr] at h; cases h)
  have hmeth' : T.vm.method? m = some meth := X.method'
  refine ⟨T.setFrames fs, ?_, .returned (some (.int 1)), hrun, hended, rfl, ⟨_, rfl⟩, hW, hframe⟩
  jvm_step X.here [X.here.top, hx, hb, hdg, hmeth', hr, ret, narrow_b1]
  (try refine ⟨rfl, ?_⟩); (try refine ⟨rfl, ?_⟩)
  first | (intro acts; rw [hret _ acts rfl rfl rfl]) | rw [hret _ _ rfl rfl rfl]
  exact Steps.refl _
/-- what holds at the law's entry: the machine, the code, the tables' words (any of lw_tbl by 'hts w (by decide +kernel)'), the script of L ints xs at the cell b, what the Statement gives of the start (any of its parts by flat_of_before) -/
def lw_At (p : Program) (s : State) (m : MethodId) (meth : Method) (c : Code) (b L : Nat) (xs : Nat → Int32) : Prop :=
  p.tables.exec = Jvm.exec ∧ c.code = code ∧ meth.sig.returnType = ret ∧ c.maxLocals = 7 ∧ s.vm.findClass R_law = some m.cls ∧ (∀ w ∈ lw_tbl, w.before #[Value.ref b] s = true) ∧ va_X b L xs s s.heap ∧ b < s.heap.size ∧ meth.locks = false ∧ (Jvm.Cond.and given_1 narrow_1).before #[Value.ref b] s = true ∧ meth.name = "law"
theorem zInst {ci : Nat} (h : ci < 13) : Cond.instantiable (zOw ci) (zNf ci) ∈ lw_tbl := by
  match ci, h with
  | 0, _ => exact tb_in (i := 272) (by decide +kernel)
  | 1, _ => exact tb_in (i := 324) (by decide +kernel)
  | 2, _ => exact tb_in (i := 445) (by decide +kernel)
  | 3, _ => exact tb_in (i := 390) (by decide +kernel)
  | 4, _ => exact tb_in (i := 418) (by decide +kernel)
  | 5, _ => exact tb_in (i := 35) (by decide +kernel)
  | 6, _ => exact tb_in (i := 286) (by decide +kernel)
  | 7, _ => exact tb_in (i := 308) (by decide +kernel)
  | 8, _ => exact tb_in (i := 369) (by decide +kernel)
  | 9, _ => exact tb_in (i := 145) (by decide +kernel)
  | 10, _ => exact tb_in (i := 252) (by decide +kernel)
  | 11, _ => exact tb_in (i := 27) (by decide +kernel)
  | 12, _ => exact tb_in (i := 1247) (by decide +kernel)
theorem zKc {args : Array Value} {s : State} (hts : ∀ w ∈ lw_tbl, w.before args s = true) (c0 : ClassId) : ∃ D : va_G, va_K D vwCl [] s := by
  have hk : ∀ ci : Nat, ∃ cC : ClassId, ∃ iS : Nat → Nat, ci < 13 → u_Kn s (zOw ci) (zTX ci) (zNf ci) cC iS := by
    intro ci
    by_cases h : ci < 13
    · obtain ⟨cC, iS, q⟩ := u_known (ws := zGW) (args := args) (s := s) (C := zOw ci) (T := zTX ci) (N := zNf ci) (n := zNf ci) (fun w hw => hts w (List.mem_filter.mp hw).1) (zCl_in h) (hts _ (zInst h))
      exact ⟨cC, iS, fun _ => q⟩
    · exact ⟨c0, fun _ => 0, fun q => absurd q h⟩
  refine ⟨(fun ci => Classical.choose (hk ci), fun ci => Classical.choose (Classical.choose_spec (hk ci))), fun c q hq => ?_, fun k q hq => by cases hq⟩
  have hc : c < 13 := (List.getElem?_eq_some_iff.mp hq).1
  rw [zCl_at hc] at hq
  cases hq
  exact Classical.choose_spec (Classical.choose_spec (hk c)) hc
theorem wh_l0 {l : Launch} (hflags : l.flags = flags0) : l.stackTraces = false := by
  show (!l.flags.contains noTraceFlag) = false
  rw [hflags]
  decide +kernel
theorem wh_cr {h : zH1} (hk : zChk h = true) : zCR zlO zlA True (23, Lh 0, [], zGs h) (23, [some (5, 0), some (2, 0), some (2, 172), some (2, 196), some (0, 0), none, none], [], h) := by
  have ho : zOk h = true := by
    unfold zChk at hk
    simp only [Bool.and_eq_true] at hk
    exact hk.2.1
  refine ⟨rfl, ⟨rfl, fun i a ha => ?_⟩, trivial, zOk_s ho⟩
  match i with
  | 0 => cases ha; exact ⟨_, rfl, Or.inr (Or.inr (Or.inl ⟨rfl, rfl, trivial⟩))⟩
  | 1 => cases ha; exact ⟨_, rfl, Or.inr (Or.inr (Or.inr (Or.inr (Or.inl ⟨11, by decide, rfl, by decide, by decide, by decide⟩))))⟩
  | 2 => cases ha; exact ⟨_, rfl, Or.inr (Or.inr (Or.inr (Or.inr (Or.inl ⟨12, by decide, rfl, by decide, by decide, by decide⟩))))⟩
  | 3 => cases ha; exact ⟨_, rfl, Or.inr (Or.inr (Or.inr (Or.inl ⟨rfl, by decide⟩)))⟩
  | 4 => cases ha; exact ⟨_, rfl, Or.inl ⟨rfl, rfl⟩⟩
  | 5 => cases ha
  | 6 => cases ha
  | k + 7 => cases ha
theorem whole_start {p : Program} {e : Env} {s : State} {m : MethodId} {below : List Frame} {meth : Method} {c : Code} (l : Launch) (hflags : l.flags = flags0) {b L : Nat} {xs : Nat → Int32} (hL : L ≤ 3072) (C0 : lw_At p s m meth c b L xs) : W p l e room_1 s m #[Value.ref b] below meth c s.heap [] 0 0 (lw_Z below #[Value.ref b] s) (entryFrame m ([Value.ref b] : List Value).toArray 7) := by
  obtain ⟨hx, hb, hr, hml, hown, hts, hX, hbl, hlk, hgv, hnm⟩ := C0
  obtain ⟨sk, sv, ac, hKK⟩ := KK_of hts hgv
  obtain ⟨D, hK⟩ := zKc hts m.cls
  have X : zCx p room_1 s m #[Value.ref b] meth c (fun q => s.heap.size ≤ q) s.heap b L xs 295 := ⟨hx, hb.trans (by rfl), hml.trans (by rfl), by rw [show zOw (zmC 295) = R_law from by decide +kernel]; exact hown, fun w hw => hts w (List.mem_filter.mp hw).1, kn_of hts, fun _ h => h, hnm.trans (by decide +kernel), fun _ => ⟨hX, hbl, Nat.not_le.mpr hbl, by omega⟩, by decide, by decide⟩
  have hX0 : wX p l room_1 s m #[Value.ref b] meth c b L xs sk sv ac := ⟨by decide, by decide, X, hKK, hL, wh_l0 hflags⟩
  obtain ⟨h3, k1, k2, k3, n, c', hS, rfl⟩ := st_run (Ls := L) (xs := fun j => (xs j).toInt)
  have hl := lv_entry ([Value.ref b] : List Value) (n := 7) (Nat.le_of_ble_eq_true rfl)
  rw [lg_entry_eq]
  generalize (lg_sl ([Value.ref b] : List Value) ++ List.replicate (7 - (lg_sl ([Value.ref b] : List Value)).length) Slot.unset).toArray = ls at hl ⊢
  have hF : zFR b (zmC 295 = 16) [] 0 [some (5, 0), none, none, none, none, none, none] [] ls (zmMax 295) := by
    refine ⟨⟨hl.1, hl.2.1, fun i a ha => ?_⟩, rfl, fun i a ha => ?_, fun a ha => by cases ha⟩
    · have := zEntry_in (b := b) (as := []) (n := 6) [(5, 0)] 0 i a ha
      rw [Nat.zero_add] at this
      exact hl.2.2 _ this
    · match i with
      | 0 => cases ha; exact (show zmC 295 = 16 from by decide +kernel)
      | 1 => cases ha
      | 2 => cases ha
      | 3 => cases ha
      | 4 => cases ha
      | 5 => cases ha
      | 6 => cases ha
      | k + 7 => cases ha
  have hH : zHR s D (fun q => s.heap.size ≤ q) s.heap [] (fun _ => m.cls) [] s.heap [] := ⟨rfl, ⟨[], hK, fun k c h => by cases h⟩, (fun k q h => by cases h), ⟨(fun i j p q h => by cases h), fun k q h => by cases h⟩, va_S.rf, fun k c h => by cases h⟩
  have key : zGoal p l e room_1 s m #[Value.ref b] below meth c (lw_Z below #[Value.ref b] s) D (fun q => s.heap.size ≤ q) s.heap b 295 0 0 [] (0, [some (5, 0), none, none, none, none, none, none], [], []) := by
    refine z_reachK (d := 14) (bs := s.heap.size) (K := KK s.heap.size sk sv ac) (by decide) (by decide) KK_keep ⟨hKK, Nat.le_refl _, fun q h => h⟩ X (hm_K 14) hS (Nat.zero_le _) (Nat.zero_le _) (by show h3.length - 0 ≤ 601024; omega) (by show zSl h3 - 0 ≤ 7293034; omega) ?_
    intro as' ca' ls' H' locs' hH' hF' hp'
    exact w_loop (KC := 601024) (KS := 7293034) (by decide) (by decide) hX0 (fun ls2 H2 locs2 j1 j2 h1 h2 hq => va_forget hq (W.widen h1 h2 (lw_ret hx hb hr hlk (by decide +kernel)))) 513 0 (zGs h3).1 (zGs h3).2.1 (zGs h3).2.2 h3 _ as' ca' ls' H' locs' _ _ (by decide) (by omega) (st_RG k1) (wh_cr k1) (by omega) hH' hF' (by show h3.length - 0 + 513 ≤ 601024; omega) (by show zSl h3 - 0 + 6 * 513 ≤ 7293034; omega)
  exact key [] (fun _ => m.cls) ls s.heap [] hH hF (List.prefix_refl _)
end
