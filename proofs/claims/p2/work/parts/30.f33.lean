/-! Functions of the methods, by wip/gen/lift.py. -/
def B107_0 : List zRow := [(0, .iload_n 1, 1, (0, 0, 0))]
theorem K107_0 : zRk 107 B107_0 = true := by decide +kernel
def B107_1 : List zRow := [(12, .iconst (-1), 1, (0, 0, 0))]
theorem K107_1 : zRk 107 B107_1 = true := by decide +kernel
def B107_2 : List zRow := [(14, .iconst 0, 1, (0, 0, 0)), (15, .istore_n 3, 1, (0, 0, 0))]
theorem K107_2 : zRk 107 B107_2 = true := by decide +kernel
def B107_3 : List zRow := [(7, .iload_n 2, 1, (0, 0, 0)), (8, .iconst (-1), 1, (0, 0, 0)), (9, .if_icmp .ge 5, 3, (0, 0, 0))]
theorem K107_3 : zRk 107 B107_3 = true := by decide +kernel
def B107_4 : List zRow := [(4, .ifCond .eq 8, 3, (0, 0, 0))]
theorem K107_4 : zRk 107 B107_4 = true := by decide +kernel
def B107_5 : List zRow := [(47, .iconst 0, 1, (0, 0, 0)), (48, .istore_n 3, 1, (0, 0, 0)), (49, .iconst 0, 1, (0, 0, 0)), (50, .istore 4, 2, (0, 0, 0))]
theorem K107_5 : zRk 107 B107_5 = true := by decide +kernel
def B107_6 : List zRow := [(22, .aload_n 0, 1, (0, 0, 0)), (23, .iload_n 3, 1, (0, 0, 0))]
theorem K107_6 : zRk 107 B107_6 = true := by decide +kernel
def B107_7 : List zRow := [(30, .aload_n 0, 1, (0, 0, 0)), (31, .iload_n 3, 1, (0, 0, 0)), (32, .iload_n 1, 1, (0, 0, 0))]
theorem K107_7 : zRk 107 B107_7 = true := by decide +kernel
def B107_8 : List zRow := [(36, .aload_n 0, 1, (0, 0, 0)), (37, .iload_n 3, 1, (0, 0, 0))]
theorem K107_8 : zRk 107 B107_8 = true := by decide +kernel
def B107_9 : List zRow := [(27, .ifCond .eq 14, 3, (0, 0, 0))]
theorem K107_9 : zRk 107 B107_9 = true := by decide +kernel
def B107_10 : List zRow := [(16, .iload_n 3, 1, (0, 0, 0)), (17, .bipush 64, 2, (0, 0, 0)), (19, .if_icmp .ge 28, 3, (0, 0, 0))]
theorem K107_10 : zRk 107 B107_10 = true := by decide +kernel
def B107_11 : List zRow := [(41, .iinc 3 1, 3, (0, 0, 0)), (44, .goto (-28), 3, (0, 0, 0))]
theorem K107_11 : zRk 107 B107_11 = true := by decide +kernel
def B107_12 : List zRow := [(103, .iconst (-1), 1, (0, 0, 0))]
theorem K107_12 : zRk 107 B107_12 = true := by decide +kernel
def B107_13 : List zRow := [(99, .iload_n 3, 1, (0, 0, 0)), (100, .goto 4, 3, (0, 0, 0))]
theorem K107_13 : zRk 107 B107_13 = true := by decide +kernel
def B107_14 : List zRow := [(94, .iload_n 2, 1, (0, 0, 0)), (95, .iconst (-1), 1, (0, 0, 0)), (96, .if_icmp .ne 7, 3, (0, 0, 0))]
theorem K107_14 : zRk 107 B107_14 = true := by decide +kernel
def B107_15 : List zRow := [(59, .aload_n 0, 1, (0, 0, 0)), (60, .iload 4, 2, (0, 0, 0))]
theorem K107_15 : zRk 107 B107_15 = true := by decide +kernel
def B107_16 : List zRow := [(68, .aload_n 0, 1, (0, 0, 0)), (69, .iload 4, 2, (0, 0, 0))]
theorem K107_16 : zRk 107 B107_16 = true := by decide +kernel
def B107_17 : List zRow := [(85, .iinc 3 1, 3, (0, 0, 0))]
theorem K107_17 : zRk 107 B107_17 = true := by decide +kernel
def B107_18 : List zRow := [(82, .iload 4, 2, (0, 0, 0))]
theorem K107_18 : zRk 107 B107_18 = true := by decide +kernel
def B107_19 : List zRow := [(77, .iload_n 3, 1, (0, 0, 0)), (78, .iload_n 2, 1, (0, 0, 0)), (79, .if_icmp .ne 6, 3, (0, 0, 0))]
theorem K107_19 : zRk 107 B107_19 = true := by decide +kernel
def B107_20 : List zRow := [(74, .ifCond .eq 14, 3, (0, 0, 0))]
theorem K107_20 : zRk 107 B107_20 = true := by decide +kernel
def B107_21 : List zRow := [(65, .ifCond .eq 23, 3, (0, 0, 0))]
theorem K107_21 : zRk 107 B107_21 = true := by decide +kernel
def B107_22 : List zRow := [(52, .iload 4, 2, (0, 0, 0)), (54, .bipush 64, 2, (0, 0, 0)), (56, .if_icmp .ge 38, 3, (0, 0, 0))]
theorem K107_22 : zRk 107 B107_22 = true := by decide +kernel
def B107_23 : List zRow := [(88, .iinc 4 1, 3, (0, 0, 0)), (91, .goto (-39), 3, (0, 0, 0))]
theorem K107_23 : zRk 107 B107_23 = true := by decide +kernel
def F107_3 (k0 : Int → Int → Int → zHC → Option (Int × zHC)) (v2 : Int) (v3 : Int) (v4 : Int) (h : zHC) : Option (Int × zHC) := k0 v2 v3 (wadd v4 1) h
set_option maxRecDepth 100000 in
theorem T107_3 {spec : zRn zH2} {hm : zHM} {o : Int → Int} {d : Nat} (hd : 7 ≤ d) (k0 : Int → Int → Int → zHC → Option (Int × zHC)) (hk0 : ∀ (v2 : Int) (v3 : Int) (v4 : Int) (h : zHC) (v : (Int × zHC)), k0 v2 v3 v4 h = some v → zFin 0 (fun _ => 0) (zRu2 spec d) 107 (some (0, v.1)) (v.2, hm, o) (52, [some (21, 0), none, some (0, v2), some (0, v3), some (0, v4)], [], (h, hm, o))) (v2 : Int) (v3 : Int) (v4 : Int) (h : zHC) (v : (Int × zHC)) (e : F107_3 k0 v2 v3 v4 h = some v) : zFin 0 (fun _ => 0) (zRu2 spec d) 107 (some (0, v.1)) (v.2, hm, o) (88, [some (21, 0), none, some (0, v2), some (0, v3), some (0, v4)], [], (h, hm, o)) := by
  unfold F107_3 at e
  refine zF_blk (m := []) (d := 0) (b := B107_23) (gs := []) (c' := (52, [some (21, 0), none, some (0, v2), some (0, v3), some (0, (wadd v4 1))], [], (h, hm, o))) K107_23 rfl trivial ?_
  exact hk0 v2 v3 (wadd v4 1) h _ e
def F107_1 : Nat → Int → Int → Int → zHC → Option (Int × zHC)
  | 0, _, _, _, _ => none
  | n + 1, v2, v3, v4, h => if 64 ≤ v4 then if ¬ v2 = (-1) then some ((-1), h) else some (v3, h) else (F104 v4 h).bind fun r1 => if r1 = 0 then F107_3 (F107_1 n) v2 v3 v4 h else (F109 v4 h).bind fun r2 => if r2 = 0 then F107_3 (F107_1 n) v2 v3 v4 h else if ¬ v3 = v2 then F107_3 (F107_1 n) v2 (wadd v3 1) v4 h else some (v4, h)
set_option maxRecDepth 100000 in
theorem T107_1 {spec : zRn zH2} {hm : zHM} {o : Int → Int} {d : Nat} (hd : 7 ≤ d) : ∀ (n : Nat) (v2 : Int) (v3 : Int) (v4 : Int) (h : zHC) (v : (Int × zHC)), F107_1 n v2 v3 v4 h = some v → zFin 0 (fun _ => 0) (zRu2 spec d) 107 (some (0, v.1)) (v.2, hm, o) (52, [some (21, 0), none, some (0, v2), some (0, v3), some (0, v4)], [], (h, hm, o)) := by
  intro n
  induction n with
  | zero => intro v2 v3 v4 h v e; unfold F107_1 at e; cases e
  | succ n hk0 =>
    intro v2 v3 v4 h v e
    unfold F107_1 at e
    rcases zI_s e with ⟨q1, e⟩ | ⟨q1, e⟩
    · refine zF_blk (m := []) (d := 1) (b := B107_22) (gs := [64 ≤ v4]) (c' := (94, [some (21, 0), none, some (0, v2), some (0, v3), some (0, v4)], [], (h, hm, o))) K107_22 rfl ⟨q1, trivial⟩ ?_
      rcases zI_s e with ⟨q2, e⟩ | ⟨q2, e⟩
      · refine zF_blk (m := []) (d := 1) (b := B107_14) (gs := [¬ v2 = (-1)]) (c' := (103, [some (21, 0), none, some (0, v2), some (0, v3), some (0, v4)], [], (h, hm, o))) K107_14 rfl ⟨q2, trivial⟩ ?_
        refine zF_blk (m := []) (d := 0) (b := B107_12) (gs := []) (c' := (104, [some (21, 0), none, some (0, v2), some (0, v3), some (0, v4)], [(0, (-1))], (h, hm, o))) K107_12 rfl trivial ?_
        exact zF_riC (by decide +kernel) e
      · refine zF_blk (m := []) (d := 0) (b := B107_14) (gs := [¬ (¬ v2 = (-1))]) (c' := (99, [some (21, 0), none, some (0, v2), some (0, v3), some (0, v4)], [], (h, hm, o))) K107_14 rfl ⟨q2, trivial⟩ ?_
        refine zF_blk (m := []) (d := 0) (b := B107_13) (gs := []) (c' := (104, [some (21, 0), none, some (0, v2), some (0, v3), some (0, v4)], [(0, v3)], (h, hm, o))) K107_13 rfl trivial ?_
        exact zF_riC (by decide +kernel) e
    · refine zF_blk (m := []) (d := 0) (b := B107_22) (gs := [¬ (64 ≤ v4)]) (c' := (59, [some (21, 0), none, some (0, v2), some (0, v3), some (0, v4)], [], (h, hm, o))) K107_22 rfl ⟨q1, trivial⟩ ?_
      obtain ⟨r1, q3, e⟩ := zB_s e
      refine zF_blk (m := []) (d := 0) (b := B107_15) (gs := []) (c' := (62, [some (21, 0), none, some (0, v2), some (0, v3), some (0, v4)], [(0, v4), (21, 0)], (h, hm, o))) K107_15 rfl trivial ?_
      refine zF_call (k := 104) (cl := 11) (n := 2) (i := .invokevirtual 249) (args := [(21, 0), (0, v4)]) (rest := []) (g1 := (h, hm, o)) (r1 := some (0, r1)) (by decide +kernel) rfl rfl rfl (st' := [(0, r1)]) rfl (S104 (Nat.le_trans (by decide) hd) v4 h _ q3) ?_
      rcases zI_s e with ⟨q4, e⟩ | ⟨q4, e⟩
      · refine zF_blk (m := []) (d := 1) (b := B107_21) (gs := [r1 = 0]) (c' := (88, [some (21, 0), none, some (0, v2), some (0, v3), some (0, v4)], [], (h, hm, o))) K107_21 rfl ⟨q4, trivial⟩ ?_
        exact T107_3 hd (F107_1 n) hk0 v2 v3 v4 h _ e
      · refine zF_blk (m := []) (d := 0) (b := B107_21) (gs := [¬ (r1 = 0)]) (c' := (68, [some (21, 0), none, some (0, v2), some (0, v3), some (0, v4)], [], (h, hm, o))) K107_21 rfl ⟨q4, trivial⟩ ?_
        obtain ⟨r2, q5, e⟩ := zB_s e
        refine zF_blk (m := []) (d := 0) (b := B107_16) (gs := []) (c' := (71, [some (21, 0), none, some (0, v2), some (0, v3), some (0, v4)], [(0, v4), (21, 0)], (h, hm, o))) K107_16 rfl trivial ?_
        refine zF_call (k := 109) (cl := 11) (n := 2) (i := .invokevirtual 259) (args := [(21, 0), (0, v4)]) (rest := []) (g1 := (h, hm, o)) (r1 := some (0, r2)) (by decide +kernel) rfl rfl rfl (st' := [(0, r2)]) rfl (S109 (Nat.le_trans (by decide) hd) v4 h _ q5) ?_
        rcases zI_s e with ⟨q6, e⟩ | ⟨q6, e⟩
        · refine zF_blk (m := []) (d := 1) (b := B107_20) (gs := [r2 = 0]) (c' := (88, [some (21, 0), none, some (0, v2), some (0, v3), some (0, v4)], [], (h, hm, o))) K107_20 rfl ⟨q6, trivial⟩ ?_
          exact T107_3 hd (F107_1 n) hk0 v2 v3 v4 h _ e
        · refine zF_blk (m := []) (d := 0) (b := B107_20) (gs := [¬ (r2 = 0)]) (c' := (77, [some (21, 0), none, some (0, v2), some (0, v3), some (0, v4)], [], (h, hm, o))) K107_20 rfl ⟨q6, trivial⟩ ?_
          rcases zI_s e with ⟨q7, e⟩ | ⟨q7, e⟩
          · refine zF_blk (m := []) (d := 1) (b := B107_19) (gs := [¬ v3 = v2]) (c' := (85, [some (21, 0), none, some (0, v2), some (0, v3), some (0, v4)], [], (h, hm, o))) K107_19 rfl ⟨q7, trivial⟩ ?_
            refine zF_blk (m := []) (d := 0) (b := B107_17) (gs := []) (c' := (88, [some (21, 0), none, some (0, v2), some (0, (wadd v3 1)), some (0, v4)], [], (h, hm, o))) K107_17 rfl trivial ?_
            exact T107_3 hd (F107_1 n) hk0 v2 (wadd v3 1) v4 h _ e
          · refine zF_blk (m := []) (d := 0) (b := B107_19) (gs := [¬ (¬ v3 = v2)]) (c' := (82, [some (21, 0), none, some (0, v2), some (0, v3), some (0, v4)], [], (h, hm, o))) K107_19 rfl ⟨q7, trivial⟩ ?_
            refine zF_blk (m := []) (d := 0) (b := B107_18) (gs := []) (c' := (84, [some (21, 0), none, some (0, v2), some (0, v3), some (0, v4)], [(0, v4)], (h, hm, o))) K107_18 rfl trivial ?_
            exact zF_riC (by decide +kernel) e
def F107_2 (k0 : Int → Int → Int → zHC → Option (Int × zHC)) (v1 : Int) (v2 : Int) (v3 : Int) (h : zHC) : Option (Int × zHC) := k0 v1 v2 (wadd v3 1) h
set_option maxRecDepth 100000 in
theorem T107_2 {spec : zRn zH2} {hm : zHM} {o : Int → Int} {d : Nat} (hd : 7 ≤ d) (k0 : Int → Int → Int → zHC → Option (Int × zHC)) (hk0 : ∀ (v1 : Int) (v2 : Int) (v3 : Int) (h : zHC) (v : (Int × zHC)), k0 v1 v2 v3 h = some v → zFin 0 (fun _ => 0) (zRu2 spec d) 107 (some (0, v.1)) (v.2, hm, o) (16, [some (21, 0), some (0, v1), some (0, v2), some (0, v3), none], [], (h, hm, o))) (v1 : Int) (v2 : Int) (v3 : Int) (h : zHC) (v : (Int × zHC)) (e : F107_2 k0 v1 v2 v3 h = some v) : zFin 0 (fun _ => 0) (zRu2 spec d) 107 (some (0, v.1)) (v.2, hm, o) (41, [some (21, 0), some (0, v1), some (0, v2), some (0, v3), none], [], (h, hm, o)) := by
  unfold F107_2 at e
  refine zF_blk (m := []) (d := 0) (b := B107_11) (gs := []) (c' := (16, [some (21, 0), some (0, v1), some (0, v2), some (0, (wadd v3 1)), none], [], (h, hm, o))) K107_11 rfl trivial ?_
  exact hk0 v1 v2 (wadd v3 1) h _ e
def F107_0 : Nat → Int → Int → Int → zHC → Option (Int × zHC)
  | 0, _, _, _, _ => none
  | n + 1, v1, v2, v3, h => if 64 ≤ v3 then F107_1 zFu v2 0 0 h else (F104 v3 h).bind fun r1 => if r1 = 0 then F107_2 (F107_0 n) v1 v2 v3 h else (F106 v3 v1 h).bind fun r2 => (F108 v3 r2).bind fun r3 => F107_2 (F107_0 n) v1 v2 v3 r3
set_option maxRecDepth 100000 in
theorem T107_0 {spec : zRn zH2} {hm : zHM} {o : Int → Int} {d : Nat} (hd : 7 ≤ d) : ∀ (n : Nat) (v1 : Int) (v2 : Int) (v3 : Int) (h : zHC) (v : (Int × zHC)), F107_0 n v1 v2 v3 h = some v → zFin 0 (fun _ => 0) (zRu2 spec d) 107 (some (0, v.1)) (v.2, hm, o) (16, [some (21, 0), some (0, v1), some (0, v2), some (0, v3), none], [], (h, hm, o)) := by
  intro n
  induction n with
  | zero => intro v1 v2 v3 h v e; unfold F107_0 at e; cases e
  | succ n hk0 =>
    intro v1 v2 v3 h v e
    unfold F107_0 at e
    rcases zI_s e with ⟨q1, e⟩ | ⟨q1, e⟩
    · refine zF_blk (m := []) (d := 1) (b := B107_10) (gs := [64 ≤ v3]) (c' := (47, [some (21, 0), some (0, v1), some (0, v2), some (0, v3), none], [], (h, hm, o))) K107_10 rfl ⟨q1, trivial⟩ ?_
      refine zF_blk (m := []) (d := 0) (b := B107_5) (gs := []) (c' := (52, [some (21, 0), some (0, v1), some (0, v2), some (0, 0), some (0, 0)], [], (h, hm, o))) K107_5 rfl trivial ?_
      refine zF_blk (m := [true, false, true, true, true]) (d := 0) (b := []) (gs := []) (c' := (52, [some (21, 0), none, some (0, v2), some (0, 0), some (0, 0)], [], (h, hm, o))) rfl rfl trivial ?_
      exact T107_1 hd zFu v2 0 0 h _ e
    · refine zF_blk (m := []) (d := 0) (b := B107_10) (gs := [¬ (64 ≤ v3)]) (c' := (22, [some (21, 0), some (0, v1), some (0, v2), some (0, v3), none], [], (h, hm, o))) K107_10 rfl ⟨q1, trivial⟩ ?_
      obtain ⟨r1, q2, e⟩ := zB_s e
      refine zF_blk (m := []) (d := 0) (b := B107_6) (gs := []) (c' := (24, [some (21, 0), some (0, v1), some (0, v2), some (0, v3), none], [(0, v3), (21, 0)], (h, hm, o))) K107_6 rfl trivial ?_
      refine zF_call (k := 104) (cl := 11) (n := 2) (i := .invokevirtual 249) (args := [(21, 0), (0, v3)]) (rest := []) (g1 := (h, hm, o)) (r1 := some (0, r1)) (by decide +kernel) rfl rfl rfl (st' := [(0, r1)]) rfl (S104 (Nat.le_trans (by decide) hd) v3 h _ q2) ?_
      rcases zI_s e with ⟨q3, e⟩ | ⟨q3, e⟩
      · refine zF_blk (m := []) (d := 1) (b := B107_9) (gs := [r1 = 0]) (c' := (41, [some (21, 0), some (0, v1), some (0, v2), some (0, v3), none], [], (h, hm, o))) K107_9 rfl ⟨q3, trivial⟩ ?_
        exact T107_2 hd (F107_0 n) hk0 v1 v2 v3 h _ e
      · refine zF_blk (m := []) (d := 0) (b := B107_9) (gs := [¬ (r1 = 0)]) (c' := (30, [some (21, 0), some (0, v1), some (0, v2), some (0, v3), none], [], (h, hm, o))) K107_9 rfl ⟨q3, trivial⟩ ?_
        obtain ⟨r2, q4, e⟩ := zB_s e
        refine zF_blk (m := []) (d := 0) (b := B107_7) (gs := []) (c' := (33, [some (21, 0), some (0, v1), some (0, v2), some (0, v3), none], [(0, v1), (0, v3), (21, 0)], (h, hm, o))) K107_7 rfl trivial ?_
        refine zF_call (k := 106) (cl := 11) (n := 3) (i := .invokevirtual 252) (args := [(21, 0), (0, v3), (0, v1)]) (rest := []) (g1 := (r2, hm, o)) (r1 := none) (by decide +kernel) rfl rfl rfl (st' := []) rfl (S106 (Nat.le_trans (by decide) hd) v3 v1 h _ q4) ?_
        obtain ⟨r3, q5, e⟩ := zB_s e
        refine zF_blk (m := []) (d := 0) (b := B107_8) (gs := []) (c' := (38, [some (21, 0), some (0, v1), some (0, v2), some (0, v3), none], [(0, v3), (21, 0)], (r2, hm, o))) K107_8 rfl trivial ?_
        refine zF_call (k := 108) (cl := 11) (n := 2) (i := .invokevirtual 256) (args := [(21, 0), (0, v3)]) (rest := []) (g1 := (r3, hm, o)) (r1 := none) (by decide +kernel) rfl rfl rfl (st' := []) rfl (S108 (Nat.le_trans (by decide) hd) v3 r2 _ q5) ?_
        exact T107_2 hd (F107_0 n) hk0 v1 v2 v3 r3 _ e
/-- EchoVale.rests(II)I -/
def F107 (v1 : Int) (v2 : Int) (h : zHC) : Option (Int × zHC) := (F99 v1).bind fun r1 => if r1 = 0 then some ((-1), h) else if (-1) ≤ v2 then F107_0 zFu v1 v2 0 h else some ((-1), h)
set_option maxRecDepth 100000 in
theorem S107 {spec : zRn zH2} {hm : zHM} {o : Int → Int} {d : Nat} (hd : 8 ≤ d) (v1 : Int) (v2 : Int) (h : zHC) (v : (Int × zHC)) (e : F107 v1 v2 h = some v) : zRu2 spec d 107 [(21, 0), (0, v1), (0, v2)] (h, hm, o) (some (0, v.1)) (v.2, hm, o) := by
  refine zF_in (D := 7) (mx := 5) (L := [some (21, 0), some (0, v1), some (0, v2), none, none]) (by decide +kernel) rfl rfl hd (fun d hd => ?_)
  unfold F107 at e
  obtain ⟨r1, q1, e⟩ := zB_s e
  refine zF_blk (m := []) (d := 0) (b := B107_0) (gs := []) (c' := (1, [some (21, 0), some (0, v1), some (0, v2), none, none], [(0, v1)], (h, hm, o))) K107_0 rfl trivial ?_
  refine zF_call (k := 99) (cl := 11) (n := 1) (i := .invokestatic 242) (args := [(0, v1)]) (rest := []) (g1 := (h, hm, o)) (r1 := some (0, r1)) (by decide +kernel) rfl rfl rfl (st' := [(0, r1)]) rfl (S99 (Nat.le_trans (by decide) hd) v1 h _ q1) ?_
  rcases zI_s e with ⟨q2, e⟩ | ⟨q2, e⟩
  · refine zF_blk (m := []) (d := 1) (b := B107_4) (gs := [r1 = 0]) (c' := (12, [some (21, 0), some (0, v1), some (0, v2), none, none], [], (h, hm, o))) K107_4 rfl ⟨q2, trivial⟩ ?_
    refine zF_blk (m := []) (d := 0) (b := B107_1) (gs := []) (c' := (13, [some (21, 0), some (0, v1), some (0, v2), none, none], [(0, (-1))], (h, hm, o))) K107_1 rfl trivial ?_
    exact zF_riC (by decide +kernel) e
  · refine zF_blk (m := []) (d := 0) (b := B107_4) (gs := [¬ (r1 = 0)]) (c' := (7, [some (21, 0), some (0, v1), some (0, v2), none, none], [], (h, hm, o))) K107_4 rfl ⟨q2, trivial⟩ ?_
    rcases zI_s e with ⟨q3, e⟩ | ⟨q3, e⟩
    · refine zF_blk (m := []) (d := 1) (b := B107_3) (gs := [(-1) ≤ v2]) (c' := (14, [some (21, 0), some (0, v1), some (0, v2), none, none], [], (h, hm, o))) K107_3 rfl ⟨q3, trivial⟩ ?_
      refine zF_blk (m := []) (d := 0) (b := B107_2) (gs := []) (c' := (16, [some (21, 0), some (0, v1), some (0, v2), some (0, 0), none], [], (h, hm, o))) K107_2 rfl trivial ?_
      exact T107_0 hd zFu v1 v2 0 h _ e
    · refine zF_blk (m := []) (d := 0) (b := B107_3) (gs := [¬ ((-1) ≤ v2)]) (c' := (12, [some (21, 0), some (0, v1), some (0, v2), none, none], [], (h, hm, o))) K107_3 rfl ⟨q3, trivial⟩ ?_
      refine zF_blk (m := []) (d := 0) (b := B107_1) (gs := []) (c' := (13, [some (21, 0), some (0, v1), some (0, v2), none, none], [(0, (-1))], (h, hm, o))) K107_1 rfl trivial ?_
      exact zF_riC (by decide +kernel) e
def B251_0 : List zRow := [(0, .iconst 0, 1, (0, 0, 0)), (1, .istore_n 3, 1, (0, 0, 0))]
theorem K251_0 : zRk 251 B251_0 = true := by decide +kernel
def B251_1 : List zRow := [(57, .iconst 1, 1, (0, 0, 0))]
theorem K251_1 : zRk 251 B251_1 = true := by decide +kernel
def B251_2 : List zRow := [(12, .iload_n 2, 1, (0, 0, 0)), (13, .iload_n 3, 1, (0, 0, 0))]
theorem K251_2 : zRk 251 B251_2 = true := by decide +kernel
def B251_3 : List zRow := [(20, .aload_n 0, 1, (0, 0, 0)), (21, .getfield 42, 3, (12, 25, 5244418)), (24, .bipush 6, 2, (0, 0, 0)), (26, .iload_n 1, 1, (0, 0, 0)), (27, .iconst 1, 1, (0, 0, 0)), (28, .iload_n 3, 1, (0, 0, 0)), (29, .ishl, 1, (0, 0, 0)), (30, .ixor, 1, (0, 0, 0))]
theorem K251_3 : zRk 251 B251_3 = true := by decide +kernel
def B251_4 : List zRow := [(31, .imul, 1, (0, 0, 0)), (32, .iload_n 3, 1, (0, 0, 0)), (33, .iadd, 1, (0, 0, 0)), (34, .iaload, 1, (0, 0, 0)), (35, .aload_n 0, 1, (0, 0, 0)), (36, .getfield 42, 3, (12, 25, 5244418)), (39, .bipush 6, 2, (0, 0, 0)), (41, .iload_n 1, 1, (0, 0, 0))]
theorem K251_4 : zRk 251 B251_4 = true := by decide +kernel
def B251_5 : List zRow := [(49, .iconst 0, 1, (0, 0, 0))]
theorem K251_5 : zRk 251 B251_5 = true := by decide +kernel
def B251_6 : List zRow := [(42, .imul, 1, (0, 0, 0)), (43, .iload_n 3, 1, (0, 0, 0)), (44, .iadd, 1, (0, 0, 0)), (45, .iaload, 1, (0, 0, 0)), (46, .if_icmp .le 5, 3, (0, 0, 0))]
theorem K251_6 : zRk 251 B251_6 = true := by decide +kernel
def B251_7 : List zRow := [(17, .ifCond .eq 34, 3, (0, 0, 0))]
theorem K251_7 : zRk 251 B251_7 = true := by decide +kernel
def B251_8 : List zRow := [(2, .iload_n 3, 1, (0, 0, 0)), (3, .aload_n 0, 1, (0, 0, 0)), (4, .getfield 13, 3, (12, 14, 5251442)), (7, .iconst 3, 1, (0, 0, 0)), (8, .iaload, 1, (0, 0, 0)), (9, .if_icmp .ge 48, 3, (0, 0, 0))]
theorem K251_8 : zRk 251 B251_8 = true := by decide +kernel
def B251_9 : List zRow := [(51, .iinc 3 1, 3, (0, 0, 0)), (54, .goto (-52), 3, (0, 0, 0))]
theorem K251_9 : zRk 251 B251_9 = true := by decide +kernel
def F251_1 (k0 : Int → Int → Int → Option Int) (h : zHM) (v1 : Int) (v2 : Int) (v3 : Int) : Option Int := k0 v1 v2 (wadd v3 1)
set_option maxRecDepth 100000 in
theorem T251_1 {spec : zRn zH2} {hc : zHC} {o : Int → Int} {d : Nat} (hd : 1 ≤ d) (h : zHM) (k0 : Int → Int → Int → Option Int) (hk0 : ∀ (v1 : Int) (v2 : Int) (v3 : Int) (v : Int), k0 v1 v2 v3 = some v → zFin 0 (fun _ => 0) (zRu2 spec d) 251 (some (0, v)) (hc, h, o) (2, [some (22, 0), some (0, v1), some (0, v2), some (0, v3)], [], (hc, h, o))) (v1 : Int) (v2 : Int) (v3 : Int) (v : Int) (e : F251_1 k0 h v1 v2 v3 = some v) : zFin 0 (fun _ => 0) (zRu2 spec d) 251 (some (0, v)) (hc, h, o) (51, [some (22, 0), some (0, v1), some (0, v2), some (0, v3)], [], (hc, h, o)) := by
  unfold F251_1 at e
  refine zF_blk (m := []) (d := 0) (b := B251_9) (gs := []) (c' := (2, [some (22, 0), some (0, v1), some (0, v2), some (0, (wadd v3 1))], [], (hc, h, o))) K251_9 rfl trivial ?_
  exact hk0 v1 v2 (wadd v3 1) _ e
def F251_0 (h : zHM) : Nat → Int → Int → Int → Option Int
  | 0, _, _, _ => none
  | n + 1, v1, v2, v3 => if (h 14 3) ≤ v3 then some 1 else (F214 v2 v3).bind fun r1 => if r1 = 0 then F251_1 (F251_0 h n) h v1 v2 v3 else zG (0 ≤ (wadd (wmul 6 (wxor v1 (wshl 1 v3))) v3) ∧ (wadd (wmul 6 (wxor v1 (wshl 1 v3))) v3) < 384) (zG (0 ≤ (wadd (wmul 6 v1) v3) ∧ (wadd (wmul 6 v1) v3) < 384) (if (h 25 (wadd (wmul 6 (wxor v1 (wshl 1 v3))) v3)) ≤ (h 25 (wadd (wmul 6 v1) v3)) then F251_1 (F251_0 h n) h v1 v2 v3 else some 0))
set_option maxRecDepth 100000 in
theorem T251_0 {spec : zRn zH2} {hc : zHC} {o : Int → Int} {d : Nat} (hd : 1 ≤ d) (h : zHM) : ∀ (n : Nat) (v1 : Int) (v2 : Int) (v3 : Int) (v : Int), F251_0 h n v1 v2 v3 = some v → zFin 0 (fun _ => 0) (zRu2 spec d) 251 (some (0, v)) (hc, h, o) (2, [some (22, 0), some (0, v1), some (0, v2), some (0, v3)], [], (hc, h, o)) := by
  intro n
  induction n with
  | zero => intro v1 v2 v3 v e; unfold F251_0 at e; cases e
  | succ n hk0 =>
    intro v1 v2 v3 v e
    unfold F251_0 at e
    rcases zI_s e with ⟨q1, e⟩ | ⟨q1, e⟩
    · refine zF_blk (m := []) (d := 1) (b := B251_8) (gs := [0 ≤ 3 ∧ 3 < 2140, (h 14 3) ≤ v3]) (c' := (57, [some (22, 0), some (0, v1), some (0, v2), some (0, v3)], [], (hc, h, o))) K251_8 rfl ⟨by decide, q1, trivial⟩ ?_
      refine zF_blk (m := []) (d := 0) (b := B251_1) (gs := []) (c' := (58, [some (22, 0), some (0, v1), some (0, v2), some (0, v3)], [(0, 1)], (hc, h, o))) K251_1 rfl trivial ?_
      obtain rfl := Option.some.inj e
      exact zF_rb (by decide +kernel) (Or.inr rfl)
    · refine zF_blk (m := []) (d := 0) (b := B251_8) (gs := [0 ≤ 3 ∧ 3 < 2140, ¬ ((h 14 3) ≤ v3)]) (c' := (12, [some (22, 0), some (0, v1), some (0, v2), some (0, v3)], [], (hc, h, o))) K251_8 rfl ⟨by decide, q1, trivial⟩ ?_
      obtain ⟨r1, q2, e⟩ := zB_s e
      refine zF_blk (m := []) (d := 0) (b := B251_2) (gs := []) (c' := (14, [some (22, 0), some (0, v1), some (0, v2), some (0, v3)], [(0, v3), (0, v2)], (hc, h, o))) K251_2 rfl trivial ?_
      refine zF_call (k := 214) (cl := 12) (n := 2) (i := .invokestatic 251) (args := [(0, v2), (0, v3)]) (rest := []) (g1 := (hc, h, o)) (r1 := some (0, r1)) (by decide +kernel) rfl rfl rfl (st' := [(0, r1)]) rfl (S214 (Nat.le_trans (by decide) hd) v2 v3 h _ q2) ?_
      rcases zI_s e with ⟨q3, e⟩ | ⟨q3, e⟩
      · refine zF_blk (m := []) (d := 1) (b := B251_7) (gs := [r1 = 0]) (c' := (51, [some (22, 0), some (0, v1), some (0, v2), some (0, v3)], [], (hc, h, o))) K251_7 rfl ⟨q3, trivial⟩ ?_
        exact T251_1 hd h (F251_0 h n) hk0 v1 v2 v3 _ e
      · refine zF_blk (m := []) (d := 0) (b := B251_7) (gs := [¬ (r1 = 0)]) (c' := (20, [some (22, 0), some (0, v1), some (0, v2), some (0, v3)], [], (hc, h, o))) K251_7 rfl ⟨q3, trivial⟩ ?_
        obtain ⟨q4, e⟩ := zG_s e
        obtain ⟨q5, e⟩ := zG_s e
        refine zF_blk (m := []) (d := 0) (b := B251_3) (gs := []) (c' := (31, [some (22, 0), some (0, v1), some (0, v2), some (0, v3)], [(0, (wxor v1 (wshl 1 v3))), (0, 6), (1342572289, 0)], (hc, h, o))) K251_3 rfl trivial ?_
        refine zF_blk (m := []) (d := 0) (b := B251_4) (gs := [0 ≤ (wadd (wmul 6 (wxor v1 (wshl 1 v3))) v3) ∧ (wadd (wmul 6 (wxor v1 (wshl 1 v3))) v3) < 384]) (c' := (42, [some (22, 0), some (0, v1), some (0, v2), some (0, v3)], [(0, v1), (0, 6), (1342572289, 0), (0, (h 25 (wadd (wmul 6 (wxor v1 (wshl 1 v3))) v3)))], (hc, h, o))) K251_4 rfl ⟨q4, trivial⟩ ?_
        rcases zI_s e with ⟨q6, e⟩ | ⟨q6, e⟩
        · refine zF_blk (m := []) (d := 1) (b := B251_6) (gs := [0 ≤ (wadd (wmul 6 v1) v3) ∧ (wadd (wmul 6 v1) v3) < 384, (h 25 (wadd (wmul 6 (wxor v1 (wshl 1 v3))) v3)) ≤ (h 25 (wadd (wmul 6 v1) v3))]) (c' := (51, [some (22, 0), some (0, v1), some (0, v2), some (0, v3)], [], (hc, h, o))) K251_6 rfl ⟨q5, q6, trivial⟩ ?_
          exact T251_1 hd h (F251_0 h n) hk0 v1 v2 v3 _ e
        · refine zF_blk (m := []) (d := 0) (b := B251_6) (gs := [0 ≤ (wadd (wmul 6 v1) v3) ∧ (wadd (wmul 6 v1) v3) < 384, ¬ ((h 25 (wadd (wmul 6 (wxor v1 (wshl 1 v3))) v3)) ≤ (h 25 (wadd (wmul 6 v1) v3)))]) (c' := (49, [some (22, 0), some (0, v1), some (0, v2), some (0, v3)], [], (hc, h, o))) K251_6 rfl ⟨q5, q6, trivial⟩ ?_
          refine zF_blk (m := []) (d := 0) (b := B251_5) (gs := []) (c' := (50, [some (22, 0), some (0, v1), some (0, v2), some (0, v3)], [(0, 0)], (hc, h, o))) K251_5 rfl trivial ?_
          obtain rfl := Option.some.inj e
          exact zF_rb (by decide +kernel) (Or.inl rfl)
/-- EchoValeModel.isRest(II)Z -/
def F251 (v1 : Int) (v2 : Int) (h : zHM) : Option Int := F251_0 h zFu v1 v2 0
set_option maxRecDepth 100000 in
theorem S251 {spec : zRn zH2} {hc : zHC} {o : Int → Int} {d : Nat} (hd : 2 ≤ d) (v1 : Int) (v2 : Int) (h : zHM) (v : Int) (e : F251 v1 v2 h = some v) : zRu2 spec d 251 [(22, 0), (0, v1), (0, v2)] (hc, h, o) (some (0, v)) (hc, h, o) := by
  refine zF_in (D := 1) (mx := 4) (L := [some (22, 0), some (0, v1), some (0, v2), none]) (by decide +kernel) rfl rfl hd (fun d hd => ?_)
  unfold F251 at e
  refine zF_blk (m := []) (d := 0) (b := B251_0) (gs := []) (c' := (2, [some (22, 0), some (0, v1), some (0, v2), some (0, 0)], [], (hc, h, o))) K251_0 rfl trivial ?_
  exact T251_0 hd h zFu v1 v2 0 _ e
def B250_0 : List zRow := [(0, .aload_n 0, 1, (0, 0, 0)), (1, .iconst 0, 1, (0, 0, 0)), (2, .putfield 81, 3, (12, 0, 0)), (5, .iload_n 1, 1, (0, 0, 0))]
theorem K250_0 : zRk 250 B250_0 = true := by decide +kernel
def B250_1 : List zRow := [(14, .aload_n 0, 1, (0, 0, 0))]
theorem K250_1 : zRk 250 B250_1 = true := by decide +kernel
def B250_2 : List zRow := [(18, .istore_n 3, 1, (0, 0, 0)), (19, .iconst 0, 1, (0, 0, 0)), (20, .istore 4, 2, (0, 0, 0))]
theorem K250_2 : zRk 250 B250_2 = true := by decide +kernel
def B250_3 : List zRow := [(12, .iconst (-1), 1, (0, 0, 0))]
theorem K250_3 : zRk 250 B250_3 = true := by decide +kernel
def B250_4 : List zRow := [(9, .ifCond .ne 5, 3, (0, 0, 0))]
theorem K250_4 : zRk 250 B250_4 = true := by decide +kernel
def B250_5 : List zRow := [(50, .iconst 0, 1, (0, 0, 0)), (51, .istore 4, 2, (0, 0, 0)), (53, .iconst 0, 1, (0, 0, 0)), (54, .istore 5, 2, (0, 0, 0))]
theorem K250_5 : zRk 250 B250_5 = true := by decide +kernel
def B250_6 : List zRow := [(37, .aload_n 0, 1, (0, 0, 0)), (38, .iload 4, 2, (0, 0, 0)), (40, .iload_n 1, 1, (0, 0, 0))]
theorem K250_6 : zRk 250 B250_6 = true := by decide +kernel
def B250_7 : List zRow := [(28, .iload 4, 2, (0, 0, 0)), (30, .iload_n 3, 1, (0, 0, 0)), (31, .iconst (-1), 1, (0, 0, 0)), (32, .ixor, 1, (0, 0, 0)), (33, .iand, 1, (0, 0, 0)), (34, .ifCond .ne 10, 3, (0, 0, 0))]
theorem K250_7 : zRk 250 B250_7 = true := by decide +kernel
def B250_8 : List zRow := [(22, .iload 4, 2, (0, 0, 0)), (24, .iload_n 3, 1, (0, 0, 0)), (25, .if_icmp .gt 25, 3, (0, 0, 0))]
theorem K250_8 : zRk 250 B250_8 = true := by decide +kernel
def B250_9 : List zRow := [(44, .iinc 4 1, 3, (0, 0, 0)), (47, .goto (-25), 3, (0, 0, 0))]
theorem K250_9 : zRk 250 B250_9 = true := by decide +kernel
def B250_10 : List zRow := [(112, .iconst (-1), 1, (0, 0, 0))]
theorem K250_10 : zRk 250 B250_10 = true := by decide +kernel
def B250_11 : List zRow := [(107, .iload 4, 2, (0, 0, 0)), (109, .goto 4, 3, (0, 0, 0))]
theorem K250_11 : zRk 250 B250_11 = true := by decide +kernel
def B250_12 : List zRow := [(102, .iload_n 2, 1, (0, 0, 0)), (103, .iconst (-1), 1, (0, 0, 0)), (104, .if_icmp .ne 8, 3, (0, 0, 0))]
theorem K250_12 : zRk 250 B250_12 = true := by decide +kernel
def B250_13 : List zRow := [(71, .aload_n 0, 1, (0, 0, 0)), (72, .iload 5, 2, (0, 0, 0)), (74, .iload_n 3, 1, (0, 0, 0))]
theorem K250_13 : zRk 250 B250_13 = true := by decide +kernel
def B250_14 : List zRow := [(93, .iinc 4 1, 3, (0, 0, 0))]
theorem K250_14 : zRk 250 B250_14 = true := by decide +kernel
def B250_15 : List zRow := [(90, .iload 5, 2, (0, 0, 0))]
theorem K250_15 : zRk 250 B250_15 = true := by decide +kernel
def B250_16 : List zRow := [(84, .iload 4, 2, (0, 0, 0)), (86, .iload_n 2, 1, (0, 0, 0)), (87, .if_icmp .ne 6, 3, (0, 0, 0))]
theorem K250_16 : zRk 250 B250_16 = true := by decide +kernel
def B250_17 : List zRow := [(81, .goto 15, 3, (0, 0, 0))]
theorem K250_17 : zRk 250 B250_17 = true := by decide +kernel
def B250_18 : List zRow := [(78, .ifCond .ne 6, 3, (0, 0, 0))]
theorem K250_18 : zRk 250 B250_18 = true := by decide +kernel
def B250_19 : List zRow := [(62, .iload 5, 2, (0, 0, 0)), (64, .iload_n 3, 1, (0, 0, 0)), (65, .iconst (-1), 1, (0, 0, 0)), (66, .ixor, 1, (0, 0, 0)), (67, .iand, 1, (0, 0, 0)), (68, .ifCond .ne 28, 3, (0, 0, 0))]
theorem K250_19 : zRk 250 B250_19 = true := by decide +kernel
def B250_20 : List zRow := [(56, .iload 5, 2, (0, 0, 0)), (58, .iload_n 3, 1, (0, 0, 0)), (59, .if_icmp .gt 43, 3, (0, 0, 0))]
theorem K250_20 : zRk 250 B250_20 = true := by decide +kernel
def B250_21 : List zRow := [(96, .iinc 5 1, 3, (0, 0, 0)), (99, .goto (-43), 3, (0, 0, 0))]
theorem K250_21 : zRk 250 B250_21 = true := by decide +kernel
def F250_3 (k0 : Int → Int → Int → Int → zHM → Option (Int × zHM)) (v2 : Int) (v3 : Int) (v4 : Int) (v5 : Int) (h : zHM) : Option (Int × zHM) := k0 v2 v3 v4 (wadd v5 1) h
set_option maxRecDepth 100000 in
theorem T250_3 {spec : zRn zH2} {hc : zHC} {o : Int → Int} {d : Nat} (hd : 7 ≤ d) (k0 : Int → Int → Int → Int → zHM → Option (Int × zHM)) (hk0 : ∀ (v2 : Int) (v3 : Int) (v4 : Int) (v5 : Int) (h : zHM) (v : (Int × zHM)), k0 v2 v3 v4 v5 h = some v → zFin 0 (fun _ => 0) (zRu2 spec d) 250 (some (0, v.1)) (hc, v.2, o) (56, [some (22, 0), none, some (0, v2), some (0, v3), some (0, v4), some (0, v5)], [], (hc, h, o))) (v2 : Int) (v3 : Int) (v4 : Int) (v5 : Int) (h : zHM) (v : (Int × zHM)) (e : F250_3 k0 v2 v3 v4 v5 h = some v) : zFin 0 (fun _ => 0) (zRu2 spec d) 250 (some (0, v.1)) (hc, v.2, o) (96, [some (22, 0), none, some (0, v2), some (0, v3), some (0, v4), some (0, v5)], [], (hc, h, o)) := by
  unfold F250_3 at e
  refine zF_blk (m := []) (d := 0) (b := B250_21) (gs := []) (c' := (56, [some (22, 0), none, some (0, v2), some (0, v3), some (0, v4), some (0, (wadd v5 1))], [], (hc, h, o))) K250_21 rfl trivial ?_
  exact hk0 v2 v3 v4 (wadd v5 1) h _ e
def F250_1 : Nat → Int → Int → Int → Int → zHM → Option (Int × zHM)
  | 0, _, _, _, _, _ => none
  | n + 1, v2, v3, v4, v5, h => if v3 < v5 then if ¬ v2 = (-1) then some ((-1), h) else some (v4, h) else if ¬ (wand v5 (wxor v3 (-1))) = 0 then F250_3 (F250_1 n) v2 v3 v4 v5 h else (F251 v5 v3 h).bind fun r1 => if ¬ r1 = 0 then if ¬ v4 = v2 then F250_3 (F250_1 n) v2 v3 (wadd v4 1) v5 h else some (v5, h) else F250_3 (F250_1 n) v2 v3 v4 v5 h
set_option maxRecDepth 100000 in
theorem T250_1 {spec : zRn zH2} {hc : zHC} {o : Int → Int} {d : Nat} (hd : 7 ≤ d) : ∀ (n : Nat) (v2 : Int) (v3 : Int) (v4 : Int) (v5 : Int) (h : zHM) (v : (Int × zHM)), F250_1 n v2 v3 v4 v5 h = some v → zFin 0 (fun _ => 0) (zRu2 spec d) 250 (some (0, v.1)) (hc, v.2, o) (56, [some (22, 0), none, some (0, v2), some (0, v3), some (0, v4), some (0, v5)], [], (hc, h, o)) := by
  intro n
  induction n with
  | zero => intro v2 v3 v4 v5 h v e; unfold F250_1 at e; cases e
  | succ n hk0 =>
    intro v2 v3 v4 v5 h v e
    unfold F250_1 at e
    rcases zI_s e with ⟨q1, e⟩ | ⟨q1, e⟩
    · refine zF_blk (m := []) (d := 1) (b := B250_20) (gs := [v3 < v5]) (c' := (102, [some (22, 0), none, some (0, v2), some (0, v3), some (0, v4), some (0, v5)], [], (hc, h, o))) K250_20 rfl ⟨q1, trivial⟩ ?_
      rcases zI_s e with ⟨q2, e⟩ | ⟨q2, e⟩
      · refine zF_blk (m := []) (d := 1) (b := B250_12) (gs := [¬ v2 = (-1)]) (c' := (112, [some (22, 0), none, some (0, v2), some (0, v3), some (0, v4), some (0, v5)], [], (hc, h, o))) K250_12 rfl ⟨q2, trivial⟩ ?_
        refine zF_blk (m := []) (d := 0) (b := B250_10) (gs := []) (c' := (113, [some (22, 0), none, some (0, v2), some (0, v3), some (0, v4), some (0, v5)], [(0, (-1))], (hc, h, o))) K250_10 rfl trivial ?_
        exact zF_riM (by decide +kernel) e
      · refine zF_blk (m := []) (d := 0) (b := B250_12) (gs := [¬ (¬ v2 = (-1))]) (c' := (107, [some (22, 0), none, some (0, v2), some (0, v3), some (0, v4), some (0, v5)], [], (hc, h, o))) K250_12 rfl ⟨q2, trivial⟩ ?_
        refine zF_blk (m := []) (d := 0) (b := B250_11) (gs := []) (c' := (113, [some (22, 0), none, some (0, v2), some (0, v3), some (0, v4), some (0, v5)], [(0, v4)], (hc, h, o))) K250_11 rfl trivial ?_
        exact zF_riM (by decide +kernel) e
    · refine zF_blk (m := []) (d := 0) (b := B250_20) (gs := [¬ (v3 < v5)]) (c' := (62, [some (22, 0), none, some (0, v2), some (0, v3), some (0, v4), some (0, v5)], [], (hc, h, o))) K250_20 rfl ⟨q1, trivial⟩ ?_
      rcases zI_s e with ⟨q3, e⟩ | ⟨q3, e⟩
      · refine zF_blk (m := []) (d := 1) (b := B250_19) (gs := [¬ (wand v5 (wxor v3 (-1))) = 0]) (c' := (96, [some (22, 0), none, some (0, v2), some (0, v3), some (0, v4), some (0, v5)], [], (hc, h, o))) K250_19 rfl ⟨q3, trivial⟩ ?_
        exact T250_3 hd (F250_1 n) hk0 v2 v3 v4 v5 h _ e
      · refine zF_blk (m := []) (d := 0) (b := B250_19) (gs := [¬ (¬ (wand v5 (wxor v3 (-1))) = 0)]) (c' := (71, [some (22, 0), none, some (0, v2), some (0, v3), some (0, v4), some (0, v5)], [], (hc, h, o))) K250_19 rfl ⟨q3, trivial⟩ ?_
        obtain ⟨r1, q4, e⟩ := zB_s e
        refine zF_blk (m := []) (d := 0) (b := B250_13) (gs := []) (c' := (75, [some (22, 0), none, some (0, v2), some (0, v3), some (0, v4), some (0, v5)], [(0, v3), (0, v5), (22, 0)], (hc, h, o))) K250_13 rfl trivial ?_
        refine zF_call (k := 251) (cl := 12) (n := 3) (i := .invokevirtual 336) (args := [(22, 0), (0, v5), (0, v3)]) (rest := []) (g1 := (hc, h, o)) (r1 := some (0, r1)) (by decide +kernel) rfl rfl rfl (st' := [(0, r1)]) rfl (S251 (Nat.le_trans (by decide) hd) v5 v3 h _ q4) ?_
        rcases zI_s e with ⟨q5, e⟩ | ⟨q5, e⟩
        · refine zF_blk (m := []) (d := 1) (b := B250_18) (gs := [¬ r1 = 0]) (c' := (84, [some (22, 0), none, some (0, v2), some (0, v3), some (0, v4), some (0, v5)], [], (hc, h, o))) K250_18 rfl ⟨q5, trivial⟩ ?_
          rcases zI_s e with ⟨q6, e⟩ | ⟨q6, e⟩
          · refine zF_blk (m := []) (d := 1) (b := B250_16) (gs := [¬ v4 = v2]) (c' := (93, [some (22, 0), none, some (0, v2), some (0, v3), some (0, v4), some (0, v5)], [], (hc, h, o))) K250_16 rfl ⟨q6, trivial⟩ ?_
            refine zF_blk (m := []) (d := 0) (b := B250_14) (gs := []) (c' := (96, [some (22, 0), none, some (0, v2), some (0, v3), some (0, (wadd v4 1)), some (0, v5)], [], (hc, h, o))) K250_14 rfl trivial ?_
            exact T250_3 hd (F250_1 n) hk0 v2 v3 (wadd v4 1) v5 h _ e
          · refine zF_blk (m := []) (d := 0) (b := B250_16) (gs := [¬ (¬ v4 = v2)]) (c' := (90, [some (22, 0), none, some (0, v2), some (0, v3), some (0, v4), some (0, v5)], [], (hc, h, o))) K250_16 rfl ⟨q6, trivial⟩ ?_
            refine zF_blk (m := []) (d := 0) (b := B250_15) (gs := []) (c' := (92, [some (22, 0), none, some (0, v2), some (0, v3), some (0, v4), some (0, v5)], [(0, v5)], (hc, h, o))) K250_15 rfl trivial ?_
            exact zF_riM (by decide +kernel) e
        · refine zF_blk (m := []) (d := 0) (b := B250_18) (gs := [¬ (¬ r1 = 0)]) (c' := (81, [some (22, 0), none, some (0, v2), some (0, v3), some (0, v4), some (0, v5)], [], (hc, h, o))) K250_18 rfl ⟨q5, trivial⟩ ?_
          refine zF_blk (m := []) (d := 0) (b := B250_17) (gs := []) (c' := (96, [some (22, 0), none, some (0, v2), some (0, v3), some (0, v4), some (0, v5)], [], (hc, h, o))) K250_17 rfl trivial ?_
          exact T250_3 hd (F250_1 n) hk0 v2 v3 v4 v5 h _ e
def F250_2 (k0 : Int → Int → Int → Int → zHM → Option (Int × zHM)) (v1 : Int) (v2 : Int) (v3 : Int) (v4 : Int) (h : zHM) : Option (Int × zHM) := k0 v1 v2 v3 (wadd v4 1) h
set_option maxRecDepth 100000 in
theorem T250_2 {spec : zRn zH2} {hc : zHC} {o : Int → Int} {d : Nat} (hd : 7 ≤ d) (k0 : Int → Int → Int → Int → zHM → Option (Int × zHM)) (hk0 : ∀ (v1 : Int) (v2 : Int) (v3 : Int) (v4 : Int) (h : zHM) (v : (Int × zHM)), k0 v1 v2 v3 v4 h = some v → zFin 0 (fun _ => 0) (zRu2 spec d) 250 (some (0, v.1)) (hc, v.2, o) (22, [some (22, 0), some (0, v1), some (0, v2), some (0, v3), some (0, v4), none], [], (hc, h, o))) (v1 : Int) (v2 : Int) (v3 : Int) (v4 : Int) (h : zHM) (v : (Int × zHM)) (e : F250_2 k0 v1 v2 v3 v4 h = some v) : zFin 0 (fun _ => 0) (zRu2 spec d) 250 (some (0, v.1)) (hc, v.2, o) (44, [some (22, 0), some (0, v1), some (0, v2), some (0, v3), some (0, v4), none], [], (hc, h, o)) := by
  unfold F250_2 at e
  refine zF_blk (m := []) (d := 0) (b := B250_9) (gs := []) (c' := (22, [some (22, 0), some (0, v1), some (0, v2), some (0, v3), some (0, (wadd v4 1)), none], [], (hc, h, o))) K250_9 rfl trivial ?_
  exact hk0 v1 v2 v3 (wadd v4 1) h _ e
def F250_0 : Nat → Int → Int → Int → Int → zHM → Option (Int × zHM)
  | 0, _, _, _, _, _ => none
  | n + 1, v1, v2, v3, v4, h => if v3 < v4 then F250_1 zFu v2 v3 0 0 h else if ¬ (wand v4 (wxor v3 (-1))) = 0 then F250_2 (F250_0 n) v1 v2 v3 v4 h else (F249 v4 v1 h).bind fun r1 => F250_2 (F250_0 n) v1 v2 v3 v4 r1
set_option maxRecDepth 100000 in
theorem T250_0 {spec : zRn zH2} {hc : zHC} {o : Int → Int} {d : Nat} (hd : 7 ≤ d) : ∀ (n : Nat) (v1 : Int) (v2 : Int) (v3 : Int) (v4 : Int) (h : zHM) (v : (Int × zHM)), F250_0 n v1 v2 v3 v4 h = some v → zFin 0 (fun _ => 0) (zRu2 spec d) 250 (some (0, v.1)) (hc, v.2, o) (22, [some (22, 0), some (0, v1), some (0, v2), some (0, v3), some (0, v4), none], [], (hc, h, o)) := by
  intro n
  induction n with
  | zero => intro v1 v2 v3 v4 h v e; unfold F250_0 at e; cases e
  | succ n hk0 =>
    intro v1 v2 v3 v4 h v e
    unfold F250_0 at e
    rcases zI_s e with ⟨q1, e⟩ | ⟨q1, e⟩
    · refine zF_blk (m := []) (d := 1) (b := B250_8) (gs := [v3 < v4]) (c' := (50, [some (22, 0), some (0, v1), some (0, v2), some (0, v3), some (0, v4), none], [], (hc, h, o))) K250_8 rfl ⟨q1, trivial⟩ ?_
      refine zF_blk (m := []) (d := 0) (b := B250_5) (gs := []) (c' := (56, [some (22, 0), some (0, v1), some (0, v2), some (0, v3), some (0, 0), some (0, 0)], [], (hc, h, o))) K250_5 rfl trivial ?_
      refine zF_blk (m := [true, false, true, true, true, true]) (d := 0) (b := []) (gs := []) (c' := (56, [some (22, 0), none, some (0, v2), some (0, v3), some (0, 0), some (0, 0)], [], (hc, h, o))) rfl rfl trivial ?_
      exact T250_1 hd zFu v2 v3 0 0 h _ e
    · refine zF_blk (m := []) (d := 0) (b := B250_8) (gs := [¬ (v3 < v4)]) (c' := (28, [some (22, 0), some (0, v1), some (0, v2), some (0, v3), some (0, v4), none], [], (hc, h, o))) K250_8 rfl ⟨q1, trivial⟩ ?_
      rcases zI_s e with ⟨q2, e⟩ | ⟨q2, e⟩
      · refine zF_blk (m := []) (d := 1) (b := B250_7) (gs := [¬ (wand v4 (wxor v3 (-1))) = 0]) (c' := (44, [some (22, 0), some (0, v1), some (0, v2), some (0, v3), some (0, v4), none], [], (hc, h, o))) K250_7 rfl ⟨q2, trivial⟩ ?_
        exact T250_2 hd (F250_0 n) hk0 v1 v2 v3 v4 h _ e
      · refine zF_blk (m := []) (d := 0) (b := B250_7) (gs := [¬ (¬ (wand v4 (wxor v3 (-1))) = 0)]) (c' := (37, [some (22, 0), some (0, v1), some (0, v2), some (0, v3), some (0, v4), none], [], (hc, h, o))) K250_7 rfl ⟨q2, trivial⟩ ?_
        obtain ⟨r1, q3, e⟩ := zB_s e
        refine zF_blk (m := []) (d := 0) (b := B250_6) (gs := []) (c' := (41, [some (22, 0), some (0, v1), some (0, v2), some (0, v3), some (0, v4), none], [(0, v1), (0, v4), (22, 0)], (hc, h, o))) K250_6 rfl trivial ?_
        refine zF_call (k := 249) (cl := 12) (n := 3) (i := .invokevirtual 332) (args := [(22, 0), (0, v4), (0, v1)]) (rest := []) (g1 := (hc, r1, o)) (r1 := none) (by decide +kernel) rfl rfl rfl (st' := []) rfl (S249 (Nat.le_trans (by decide) hd) v4 v1 h _ q3) ?_
        exact T250_2 hd (F250_0 n) hk0 v1 v2 v3 v4 r1 _ e
/-- EchoValeModel.rests(II)I -/
def F250 (v1 : Int) (v2 : Int) (h : zHM) : Option (Int × zHM) := (F242 v1).bind fun r1 => if ¬ r1 = 0 then (F248 (mset h 0 0 0)).bind fun r2 => F250_0 zFu v1 v2 r2 0 (mset h 0 0 0) else some ((-1), (mset h 0 0 0))
set_option maxRecDepth 100000 in
theorem S250 {spec : zRn zH2} {hc : zHC} {o : Int → Int} {d : Nat} (hd : 8 ≤ d) (v1 : Int) (v2 : Int) (h : zHM) (v : (Int × zHM)) (e : F250 v1 v2 h = some v) : zRu2 spec d 250 [(22, 0), (0, v1), (0, v2)] (hc, h, o) (some (0, v.1)) (hc, v.2, o) := by
  refine zF_in (D := 7) (mx := 6) (L := [some (22, 0), some (0, v1), some (0, v2), none, none, none]) (by decide +kernel) rfl rfl hd (fun d hd => ?_)
  unfold F250 at e
  obtain ⟨r1, q1, e⟩ := zB_s e
  refine zF_blk (m := []) (d := 0) (b := B250_0) (gs := []) (c' := (6, [some (22, 0), some (0, v1), some (0, v2), none, none, none], [(0, v1)], (hc, (mset h 0 0 0), o))) K250_0 rfl trivial ?_
  refine zF_call (k := 242) (cl := 12) (n := 1) (i := .invokestatic 323) (args := [(0, v1)]) (rest := []) (g1 := (hc, (mset h 0 0 0), o)) (r1 := some (0, r1)) (by decide +kernel) rfl rfl rfl (st' := [(0, r1)]) rfl (S242 (Nat.le_trans (by decide) hd) v1 (mset h 0 0 0) _ q1) ?_
  rcases zI_s e with ⟨q2, e⟩ | ⟨q2, e⟩
  · refine zF_blk (m := []) (d := 1) (b := B250_4) (gs := [¬ r1 = 0]) (c' := (14, [some (22, 0), some (0, v1), some (0, v2), none, none, none], [], (hc, (mset h 0 0 0), o))) K250_4 rfl ⟨q2, trivial⟩ ?_
    obtain ⟨r2, q3, e⟩ := zB_s e
    refine zF_blk (m := []) (d := 0) (b := B250_1) (gs := []) (c' := (15, [some (22, 0), some (0, v1), some (0, v2), none, none, none], [(22, 0)], (hc, (mset h 0 0 0), o))) K250_1 rfl trivial ?_
    refine zF_call (k := 248) (cl := 12) (n := 1) (i := .invokevirtual 329) (args := [(22, 0)]) (rest := []) (g1 := (hc, (mset h 0 0 0), o)) (r1 := some (0, r2)) (by decide +kernel) rfl rfl rfl (st' := [(0, r2)]) rfl (S248 (Nat.le_trans (by decide) hd)  (mset h 0 0 0) _ q3) ?_
    refine zF_blk (m := []) (d := 0) (b := B250_2) (gs := []) (c' := (22, [some (22, 0), some (0, v1), some (0, v2), some (0, r2), some (0, 0), none], [], (hc, (mset h 0 0 0), o))) K250_2 rfl trivial ?_
    exact T250_0 hd zFu v1 v2 r2 0 (mset h 0 0 0) _ e
  · refine zF_blk (m := []) (d := 0) (b := B250_4) (gs := [¬ (¬ r1 = 0)]) (c' := (12, [some (22, 0), some (0, v1), some (0, v2), none, none, none], [], (hc, (mset h 0 0 0), o))) K250_4 rfl ⟨q2, trivial⟩ ?_
    refine zF_blk (m := []) (d := 0) (b := B250_3) (gs := []) (c' := (13, [some (22, 0), some (0, v1), some (0, v2), none, none, none], [(0, (-1))], (hc, (mset h 0 0 0), o))) K250_3 rfl trivial ?_
    exact zF_riM (by decide +kernel) e
