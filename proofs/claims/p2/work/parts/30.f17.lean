/-! Functions of the methods, by wip/gen/lift.py. -/
def B209_0 : List zRow := [(0, .aload_n 0, 1, (0, 0, 0)), (1, .iload_n 1, 1, (0, 0, 0))]
theorem K209_0 : zRk 209 B209_0 = true := by decide +kernel
def B209_1 : List zRow := [(8, .iload_n 2, 1, (0, 0, 0)), (9, .iconst 0, 1, (0, 0, 0)), (10, .iconst 5, 1, (0, 0, 0))]
theorem K209_1 : zRk 209 B209_1 = true := by decide +kernel
def B209_2 : List zRow := [(72, .iconst 0, 1, (0, 0, 0)), (73, .istore_n 3, 1, (0, 0, 0)), (74, .iconst 0, 1, (0, 0, 0)), (75, .istore 4, 2, (0, 0, 0))]
theorem K209_2 : zRk 209 B209_2 = true := by decide +kernel
def B209_3 : List zRow := [(58, .aload_n 0, 1, (0, 0, 0)), (59, .getfield 13, 3, (12, 14, 5251442)), (62, .bipush 25, 2, (0, 0, 0)), (64, .iconst 2, 1, (0, 0, 0)), (65, .iload_n 1, 1, (0, 0, 0))]
theorem K209_3 : zRk 209 B209_3 = true := by decide +kernel
def B209_4 : List zRow := [(66, .imul, 1, (0, 0, 0))]
theorem K209_4 : zRk 209 B209_4 = true := by decide +kernel
def B209_5 : List zRow := [(67, .iadd, 1, (0, 0, 0)), (68, .iconst 1, 1, (0, 0, 0)), (69, .iadd, 1, (0, 0, 0)), (70, .iaload, 1, (0, 0, 0))]
theorem K209_5 : zRk 209 B209_5 = true := by decide +kernel
def B209_6 : List zRow := [(53, .iload_n 2, 1, (0, 0, 0)), (54, .iconst 5, 1, (0, 0, 0)), (55, .if_icmp .ne 17, 3, (0, 0, 0))]
theorem K209_6 : zRk 209 B209_6 = true := by decide +kernel
def B209_7 : List zRow := [(47, .aload_n 0, 1, (0, 0, 0)), (48, .iload_n 1, 1, (0, 0, 0))]
theorem K209_7 : zRk 209 B209_7 = true := by decide +kernel
def B209_8 : List zRow := [(42, .iload_n 2, 1, (0, 0, 0)), (43, .iconst 1, 1, (0, 0, 0)), (44, .if_icmp .ne 9, 3, (0, 0, 0))]
theorem K209_8 : zRk 209 B209_8 = true := by decide +kernel
def B209_9 : List zRow := [(31, .aload_n 0, 1, (0, 0, 0)), (32, .getfield 13, 3, (12, 14, 5251442)), (35, .sipush 210, 3, (0, 0, 0)), (38, .iload_n 1, 1, (0, 0, 0))]
theorem K209_9 : zRk 209 B209_9 = true := by decide +kernel
def B209_10 : List zRow := [(39, .iadd, 1, (0, 0, 0)), (40, .iaload, 1, (0, 0, 0))]
theorem K209_10 : zRk 209 B209_10 = true := by decide +kernel
def B209_11 : List zRow := [(22, .aload_n 0, 1, (0, 0, 0)), (23, .iconst 0, 1, (0, 0, 0)), (24, .putfield 81, 3, (12, 0, 0)), (27, .iload_n 2, 1, (0, 0, 0)), (28, .ifCond .ne 14, 3, (0, 0, 0))]
theorem K209_11 : zRk 209 B209_11 = true := by decide +kernel
def B209_12 : List zRow := [(14, .ifCond .ne 8, 3, (0, 0, 0))]
theorem K209_12 : zRk 209 B209_12 = true := by decide +kernel
def B209_13 : List zRow := [(5, .ifCond .eq 12, 3, (0, 0, 0))]
theorem K209_13 : zRk 209 B209_13 = true := by decide +kernel
def B209_14 : List zRow := [(155, .iload_n 3, 1, (0, 0, 0))]
theorem K209_14 : zRk 209 B209_14 = true := by decide +kernel
def B209_15 : List zRow := [(131, .aload_n 0, 1, (0, 0, 0)), (132, .iload 4, 2, (0, 0, 0)), (134, .bipush 7, 2, (0, 0, 0))]
theorem K209_15 : zRk 209 B209_15 = true := by decide +kernel
def B209_16 : List zRow := [(139, .iload_n 1, 1, (0, 0, 0))]
theorem K209_16 : zRk 209 B209_16 = true := by decide +kernel
def B209_17 : List zRow := [(143, .ifCond .eq 6, 3, (0, 0, 0))]
theorem K209_17 : zRk 209 B209_17 = true := by decide +kernel
def B209_18 : List zRow := [(117, .aload_n 0, 1, (0, 0, 0)), (118, .iload 4, 2, (0, 0, 0)), (120, .iconst 1, 1, (0, 0, 0))]
theorem K209_18 : zRk 209 B209_18 = true := by decide +kernel
def B209_19 : List zRow := [(128, .goto 18, 3, (0, 0, 0))]
theorem K209_19 : zRk 209 B209_19 = true := by decide +kernel
def B209_20 : List zRow := [(124, .iload_n 1, 1, (0, 0, 0)), (125, .if_icmp .ne 24, 3, (0, 0, 0))]
theorem K209_20 : zRk 209 B209_20 = true := by decide +kernel
def B209_21 : List zRow := [(112, .iload_n 2, 1, (0, 0, 0)), (113, .iconst 3, 1, (0, 0, 0)), (114, .if_icmp .ne 17, 3, (0, 0, 0))]
theorem K209_21 : zRk 209 B209_21 = true := by decide +kernel
def B209_22 : List zRow := [(95, .aload_n 0, 1, (0, 0, 0)), (96, .iload 4, 2, (0, 0, 0)), (98, .iconst 5, 1, (0, 0, 0))]
theorem K209_22 : zRk 209 B209_22 = true := by decide +kernel
def B209_23 : List zRow := [(102, .iload_n 1, 1, (0, 0, 0))]
theorem K209_23 : zRk 209 B209_23 = true := by decide +kernel
def B209_24 : List zRow := [(109, .goto 37, 3, (0, 0, 0))]
theorem K209_24 : zRk 209 B209_24 = true := by decide +kernel
def B209_25 : List zRow := [(106, .ifCond .eq 43, 3, (0, 0, 0))]
theorem K209_25 : zRk 209 B209_25 = true := by decide +kernel
def B209_26 : List zRow := [(90, .iload_n 2, 1, (0, 0, 0)), (91, .iconst 2, 1, (0, 0, 0)), (92, .if_icmp .ne 20, 3, (0, 0, 0))]
theorem K209_26 : zRk 209 B209_26 = true := by decide +kernel
def B209_27 : List zRow := [(77, .iload 4, 2, (0, 0, 0)), (79, .aload_n 0, 1, (0, 0, 0)), (80, .getfield 13, 3, (12, 14, 5251442)), (83, .sipush 216, 3, (0, 0, 0)), (86, .iaload, 1, (0, 0, 0)), (87, .if_icmp .ge 68, 3, (0, 0, 0))]
theorem K209_27 : zRk 209 B209_27 = true := by decide +kernel
def B209_28 : List zRow := [(146, .iinc 3 1, 3, (0, 0, 0))]
theorem K209_28 : zRk 209 B209_28 = true := by decide +kernel
def B209_29 : List zRow := [(149, .iinc 4 1, 3, (0, 0, 0)), (152, .goto (-75), 3, (0, 0, 0))]
theorem K209_29 : zRk 209 B209_29 = true := by decide +kernel
def B209_30 : List zRow := [(17, .aload_n 0, 1, (0, 0, 0))]
theorem K209_30 : zRk 209 B209_30 = true := by decide +kernel
def F209_2 (k0 : Int → Int → Int → Int → zHM → Option (Int × zHM)) (v1 : Int) (v2 : Int) (v3 : Int) (v4 : Int) (h : zHM) : Option (Int × zHM) := k0 v1 v2 v3 (wadd v4 1) h
set_option maxRecDepth 100000 in
theorem T209_2 {spec : zRn zH2} {hc : zHC} {o : Int → Int} {d : Nat} (hd : 3 ≤ d) (k0 : Int → Int → Int → Int → zHM → Option (Int × zHM)) (hk0 : ∀ (v1 : Int) (v2 : Int) (v3 : Int) (v4 : Int) (h : zHM) (v : (Int × zHM)), k0 v1 v2 v3 v4 h = some v → zFin 0 (fun _ => 0) (zRu2 spec d) 209 (some (0, v.1)) (hc, v.2, o) (77, [some (22, 0), some (0, v1), some (0, v2), some (0, v3), some (0, v4)], [], (hc, h, o))) (v1 : Int) (v2 : Int) (v3 : Int) (v4 : Int) (h : zHM) (v : (Int × zHM)) (e : F209_2 k0 v1 v2 v3 v4 h = some v) : zFin 0 (fun _ => 0) (zRu2 spec d) 209 (some (0, v.1)) (hc, v.2, o) (149, [some (22, 0), some (0, v1), some (0, v2), some (0, v3), some (0, v4)], [], (hc, h, o)) := by
  unfold F209_2 at e
  refine zF_blk (m := []) (d := 0) (b := B209_29) (gs := []) (c' := (77, [some (22, 0), some (0, v1), some (0, v2), some (0, v3), some (0, (wadd v4 1))], [], (hc, h, o))) K209_29 rfl trivial ?_
  exact hk0 v1 v2 v3 (wadd v4 1) h _ e
def F209_3 (k0 : Int → Int → Int → Int → zHM → Option (Int × zHM)) (v1 : Int) (v2 : Int) (v3 : Int) (v4 : Int) (h : zHM) : Option (Int × zHM) := F209_2 k0 v1 v2 (wadd v3 1) v4 h
set_option maxRecDepth 100000 in
theorem T209_3 {spec : zRn zH2} {hc : zHC} {o : Int → Int} {d : Nat} (hd : 3 ≤ d) (k0 : Int → Int → Int → Int → zHM → Option (Int × zHM)) (hk0 : ∀ (v1 : Int) (v2 : Int) (v3 : Int) (v4 : Int) (h : zHM) (v : (Int × zHM)), k0 v1 v2 v3 v4 h = some v → zFin 0 (fun _ => 0) (zRu2 spec d) 209 (some (0, v.1)) (hc, v.2, o) (77, [some (22, 0), some (0, v1), some (0, v2), some (0, v3), some (0, v4)], [], (hc, h, o))) (v1 : Int) (v2 : Int) (v3 : Int) (v4 : Int) (h : zHM) (v : (Int × zHM)) (e : F209_3 k0 v1 v2 v3 v4 h = some v) : zFin 0 (fun _ => 0) (zRu2 spec d) 209 (some (0, v.1)) (hc, v.2, o) (146, [some (22, 0), some (0, v1), some (0, v2), some (0, v3), some (0, v4)], [], (hc, h, o)) := by
  unfold F209_3 at e
  refine zF_blk (m := []) (d := 0) (b := B209_28) (gs := []) (c' := (149, [some (22, 0), some (0, v1), some (0, v2), some (0, (wadd v3 1)), some (0, v4)], [], (hc, h, o))) K209_28 rfl trivial ?_
  exact T209_2 hd k0 hk0 v1 v2 (wadd v3 1) v4 h _ e
def F209_1 : Nat → Int → Int → Int → Int → zHM → Option (Int × zHM)
  | 0, _, _, _, _, _ => none
  | n + 1, v1, v2, v3, v4, h => if (h 14 216) ≤ v4 then some (v3, h) else if ¬ v2 = 2 then if ¬ v2 = 3 then (F213 v4 7 h).bind fun r1 => (F214 r1 v1).bind fun r2 => if r2 = 0 then F209_2 (F209_1 n) v1 v2 v3 v4 h else F209_3 (F209_1 n) v1 v2 v3 v4 h else (F213 v4 1 h).bind fun r3 => if ¬ r3 = v1 then F209_2 (F209_1 n) v1 v2 v3 v4 h else F209_3 (F209_1 n) v1 v2 v3 v4 h else (F213 v4 5 h).bind fun r4 => (F214 r4 v1).bind fun r5 => if r5 = 0 then F209_2 (F209_1 n) v1 v2 v3 v4 h else F209_3 (F209_1 n) v1 v2 v3 v4 h
set_option maxRecDepth 100000 in
theorem T209_1 {spec : zRn zH2} {hc : zHC} {o : Int → Int} {d : Nat} (hd : 3 ≤ d) : ∀ (n : Nat) (v1 : Int) (v2 : Int) (v3 : Int) (v4 : Int) (h : zHM) (v : (Int × zHM)), F209_1 n v1 v2 v3 v4 h = some v → zFin 0 (fun _ => 0) (zRu2 spec d) 209 (some (0, v.1)) (hc, v.2, o) (77, [some (22, 0), some (0, v1), some (0, v2), some (0, v3), some (0, v4)], [], (hc, h, o)) := by
  intro n
  induction n with
  | zero => intro v1 v2 v3 v4 h v e; unfold F209_1 at e; cases e
  | succ n hk0 =>
    intro v1 v2 v3 v4 h v e
    unfold F209_1 at e
    rcases zI_s e with ⟨q1, e⟩ | ⟨q1, e⟩
    · refine zF_blk (m := []) (d := 1) (b := B209_27) (gs := [0 ≤ 216 ∧ 216 < 2140, (h 14 216) ≤ v4]) (c' := (155, [some (22, 0), some (0, v1), some (0, v2), some (0, v3), some (0, v4)], [], (hc, h, o))) K209_27 rfl ⟨by decide, q1, trivial⟩ ?_
      refine zF_blk (m := []) (d := 0) (b := B209_14) (gs := []) (c' := (156, [some (22, 0), some (0, v1), some (0, v2), some (0, v3), some (0, v4)], [(0, v3)], (hc, h, o))) K209_14 rfl trivial ?_
      exact zF_riM (by decide +kernel) e
    · refine zF_blk (m := []) (d := 0) (b := B209_27) (gs := [0 ≤ 216 ∧ 216 < 2140, ¬ ((h 14 216) ≤ v4)]) (c' := (90, [some (22, 0), some (0, v1), some (0, v2), some (0, v3), some (0, v4)], [], (hc, h, o))) K209_27 rfl ⟨by decide, q1, trivial⟩ ?_
      rcases zI_s e with ⟨q2, e⟩ | ⟨q2, e⟩
      · refine zF_blk (m := []) (d := 1) (b := B209_26) (gs := [¬ v2 = 2]) (c' := (112, [some (22, 0), some (0, v1), some (0, v2), some (0, v3), some (0, v4)], [], (hc, h, o))) K209_26 rfl ⟨q2, trivial⟩ ?_
        rcases zI_s e with ⟨q3, e⟩ | ⟨q3, e⟩
        · refine zF_blk (m := []) (d := 1) (b := B209_21) (gs := [¬ v2 = 3]) (c' := (131, [some (22, 0), some (0, v1), some (0, v2), some (0, v3), some (0, v4)], [], (hc, h, o))) K209_21 rfl ⟨q3, trivial⟩ ?_
          obtain ⟨r1, q4, e⟩ := zB_s e
          refine zF_blk (m := []) (d := 0) (b := B209_15) (gs := []) (c' := (136, [some (22, 0), some (0, v1), some (0, v2), some (0, v3), some (0, v4)], [(0, 7), (0, v4), (22, 0)], (hc, h, o))) K209_15 rfl trivial ?_
          refine zF_call (k := 213) (cl := 12) (n := 3) (i := .invokevirtual 247) (args := [(22, 0), (0, v4), (0, 7)]) (rest := []) (g1 := (hc, h, o)) (r1 := some (0, r1)) (by decide +kernel) rfl rfl rfl (st' := [(0, r1)]) rfl (S213 (Nat.le_trans (by decide) hd) v4 7 h _ q4) ?_
          obtain ⟨r2, q5, e⟩ := zB_s e
          refine zF_blk (m := []) (d := 0) (b := B209_16) (gs := []) (c' := (140, [some (22, 0), some (0, v1), some (0, v2), some (0, v3), some (0, v4)], [(0, v1), (0, r1)], (hc, h, o))) K209_16 rfl trivial ?_
          refine zF_call (k := 214) (cl := 12) (n := 2) (i := .invokestatic 251) (args := [(0, r1), (0, v1)]) (rest := []) (g1 := (hc, h, o)) (r1 := some (0, r2)) (by decide +kernel) rfl rfl rfl (st' := [(0, r2)]) rfl (S214 (Nat.le_trans (by decide) hd) r1 v1 h _ q5) ?_
          rcases zI_s e with ⟨q6, e⟩ | ⟨q6, e⟩
          · refine zF_blk (m := []) (d := 1) (b := B209_17) (gs := [r2 = 0]) (c' := (149, [some (22, 0), some (0, v1), some (0, v2), some (0, v3), some (0, v4)], [], (hc, h, o))) K209_17 rfl ⟨q6, trivial⟩ ?_
            exact T209_2 hd (F209_1 n) hk0 v1 v2 v3 v4 h _ e
          · refine zF_blk (m := []) (d := 0) (b := B209_17) (gs := [¬ (r2 = 0)]) (c' := (146, [some (22, 0), some (0, v1), some (0, v2), some (0, v3), some (0, v4)], [], (hc, h, o))) K209_17 rfl ⟨q6, trivial⟩ ?_
            exact T209_3 hd (F209_1 n) hk0 v1 v2 v3 v4 h _ e
        · refine zF_blk (m := []) (d := 0) (b := B209_21) (gs := [¬ (¬ v2 = 3)]) (c' := (117, [some (22, 0), some (0, v1), some (0, v2), some (0, v3), some (0, v4)], [], (hc, h, o))) K209_21 rfl ⟨q3, trivial⟩ ?_
          obtain ⟨r3, q7, e⟩ := zB_s e
          refine zF_blk (m := []) (d := 0) (b := B209_18) (gs := []) (c' := (121, [some (22, 0), some (0, v1), some (0, v2), some (0, v3), some (0, v4)], [(0, 1), (0, v4), (22, 0)], (hc, h, o))) K209_18 rfl trivial ?_
          refine zF_call (k := 213) (cl := 12) (n := 3) (i := .invokevirtual 247) (args := [(22, 0), (0, v4), (0, 1)]) (rest := []) (g1 := (hc, h, o)) (r1 := some (0, r3)) (by decide +kernel) rfl rfl rfl (st' := [(0, r3)]) rfl (S213 (Nat.le_trans (by decide) hd) v4 1 h _ q7) ?_
          rcases zI_s e with ⟨q8, e⟩ | ⟨q8, e⟩
          · refine zF_blk (m := []) (d := 1) (b := B209_20) (gs := [¬ r3 = v1]) (c' := (149, [some (22, 0), some (0, v1), some (0, v2), some (0, v3), some (0, v4)], [], (hc, h, o))) K209_20 rfl ⟨q8, trivial⟩ ?_
            exact T209_2 hd (F209_1 n) hk0 v1 v2 v3 v4 h _ e
          · refine zF_blk (m := []) (d := 0) (b := B209_20) (gs := [¬ (¬ r3 = v1)]) (c' := (128, [some (22, 0), some (0, v1), some (0, v2), some (0, v3), some (0, v4)], [], (hc, h, o))) K209_20 rfl ⟨q8, trivial⟩ ?_
            refine zF_blk (m := []) (d := 0) (b := B209_19) (gs := []) (c' := (146, [some (22, 0), some (0, v1), some (0, v2), some (0, v3), some (0, v4)], [], (hc, h, o))) K209_19 rfl trivial ?_
            exact T209_3 hd (F209_1 n) hk0 v1 v2 v3 v4 h _ e
      · refine zF_blk (m := []) (d := 0) (b := B209_26) (gs := [¬ (¬ v2 = 2)]) (c' := (95, [some (22, 0), some (0, v1), some (0, v2), some (0, v3), some (0, v4)], [], (hc, h, o))) K209_26 rfl ⟨q2, trivial⟩ ?_
        obtain ⟨r4, q9, e⟩ := zB_s e
        refine zF_blk (m := []) (d := 0) (b := B209_22) (gs := []) (c' := (99, [some (22, 0), some (0, v1), some (0, v2), some (0, v3), some (0, v4)], [(0, 5), (0, v4), (22, 0)], (hc, h, o))) K209_22 rfl trivial ?_
        refine zF_call (k := 213) (cl := 12) (n := 3) (i := .invokevirtual 247) (args := [(22, 0), (0, v4), (0, 5)]) (rest := []) (g1 := (hc, h, o)) (r1 := some (0, r4)) (by decide +kernel) rfl rfl rfl (st' := [(0, r4)]) rfl (S213 (Nat.le_trans (by decide) hd) v4 5 h _ q9) ?_
        obtain ⟨r5, q10, e⟩ := zB_s e
        refine zF_blk (m := []) (d := 0) (b := B209_23) (gs := []) (c' := (103, [some (22, 0), some (0, v1), some (0, v2), some (0, v3), some (0, v4)], [(0, v1), (0, r4)], (hc, h, o))) K209_23 rfl trivial ?_
        refine zF_call (k := 214) (cl := 12) (n := 2) (i := .invokestatic 251) (args := [(0, r4), (0, v1)]) (rest := []) (g1 := (hc, h, o)) (r1 := some (0, r5)) (by decide +kernel) rfl rfl rfl (st' := [(0, r5)]) rfl (S214 (Nat.le_trans (by decide) hd) r4 v1 h _ q10) ?_
        rcases zI_s e with ⟨q11, e⟩ | ⟨q11, e⟩
        · refine zF_blk (m := []) (d := 1) (b := B209_25) (gs := [r5 = 0]) (c' := (149, [some (22, 0), some (0, v1), some (0, v2), some (0, v3), some (0, v4)], [], (hc, h, o))) K209_25 rfl ⟨q11, trivial⟩ ?_
          exact T209_2 hd (F209_1 n) hk0 v1 v2 v3 v4 h _ e
        · refine zF_blk (m := []) (d := 0) (b := B209_25) (gs := [¬ (r5 = 0)]) (c' := (109, [some (22, 0), some (0, v1), some (0, v2), some (0, v3), some (0, v4)], [], (hc, h, o))) K209_25 rfl ⟨q11, trivial⟩ ?_
          refine zF_blk (m := []) (d := 0) (b := B209_24) (gs := []) (c' := (146, [some (22, 0), some (0, v1), some (0, v2), some (0, v3), some (0, v4)], [], (hc, h, o))) K209_24 rfl trivial ?_
          exact T209_3 hd (F209_1 n) hk0 v1 v2 v3 v4 h _ e
def F209_0 (h : zHM) : Option (Int × zHM) := (F206 h).bind fun r1 => some (r1.1, r1.2)
set_option maxRecDepth 100000 in
theorem T209_0 {spec : zRn zH2} {hc : zHC} {o : Int → Int} {d : Nat} (hd : 3 ≤ d) (h : zHM) (v : (Int × zHM)) (e : F209_0 h = some v) : zFin 0 (fun _ => 0) (zRu2 spec d) 209 (some (0, v.1)) (hc, v.2, o) (17, [some (22, 0), none, none, none, none], [], (hc, h, o)) := by
  unfold F209_0 at e
  obtain ⟨r1, q1, e⟩ := zB_s e
  refine zF_blk (m := []) (d := 0) (b := B209_30) (gs := []) (c' := (18, [some (22, 0), none, none, none, none], [(22, 0)], (hc, h, o))) K209_30 rfl trivial ?_
  refine zF_call (k := 206) (cl := 12) (n := 1) (i := .invokevirtual 238) (args := [(22, 0)]) (rest := []) (g1 := (hc, r1.2, o)) (r1 := some (0, r1.1)) (by decide +kernel) rfl rfl rfl (st' := [(0, r1.1)]) rfl (S206 (Nat.le_trans (by decide) hd)  h _ q1) ?_
  exact zF_riM (by decide +kernel) e
/-- EchoValeModel.person(II)I -/
def F209 (v1 : Int) (v2 : Int) (h : zHM) : Option (Int × zHM) := (F210 v1 h).bind fun r1 => if r1 = 0 then F209_0 h else (F188 v2 0 5).bind fun r2 => if ¬ r2 = 0 then if ¬ v2 = 0 then if ¬ v2 = 1 then if ¬ v2 = 5 then F209_1 zFu v1 v2 0 0 (mset h 0 0 0) else zG (0 ≤ (wadd (wadd 25 (wmul 2 v1)) 1) ∧ (wadd (wadd 25 (wmul 2 v1)) 1) < 2140) (some ((h 14 (wadd (wadd 25 (wmul 2 v1)) 1)), (mset h 0 0 0))) else (F211 v1 (mset h 0 0 0)).bind fun r3 => some (r3, (mset h 0 0 0)) else zG (0 ≤ (wadd 210 v1) ∧ (wadd 210 v1) < 2140) (some ((h 14 (wadd 210 v1)), (mset h 0 0 0))) else F209_0 h
set_option maxRecDepth 100000 in
theorem S209 {spec : zRn zH2} {hc : zHC} {o : Int → Int} {d : Nat} (hd : 4 ≤ d) (v1 : Int) (v2 : Int) (h : zHM) (v : (Int × zHM)) (e : F209 v1 v2 h = some v) : zRu2 spec d 209 [(22, 0), (0, v1), (0, v2)] (hc, h, o) (some (0, v.1)) (hc, v.2, o) := by
  refine zF_in (D := 3) (mx := 5) (L := [some (22, 0), some (0, v1), some (0, v2), none, none]) (by decide +kernel) rfl rfl hd (fun d hd => ?_)
  unfold F209 at e
  obtain ⟨r1, q1, e⟩ := zB_s e
  refine zF_blk (m := []) (d := 0) (b := B209_0) (gs := []) (c' := (2, [some (22, 0), some (0, v1), some (0, v2), none, none], [(0, v1), (22, 0)], (hc, h, o))) K209_0 rfl trivial ?_
  refine zF_call (k := 210) (cl := 12) (n := 2) (i := .invokevirtual 260) (args := [(22, 0), (0, v1)]) (rest := []) (g1 := (hc, h, o)) (r1 := some (0, r1)) (by decide +kernel) rfl rfl rfl (st' := [(0, r1)]) rfl (S210 (Nat.le_trans (by decide) hd) v1 h _ q1) ?_
  rcases zI_s e with ⟨q2, e⟩ | ⟨q2, e⟩
  · refine zF_blk (m := []) (d := 1) (b := B209_13) (gs := [r1 = 0]) (c' := (17, [some (22, 0), some (0, v1), some (0, v2), none, none], [], (hc, h, o))) K209_13 rfl ⟨q2, trivial⟩ ?_
    refine zF_blk (m := [true, false, false, false, false]) (d := 0) (b := []) (gs := []) (c' := (17, [some (22, 0), none, none, none, none], [], (hc, h, o))) rfl rfl trivial ?_
    exact T209_0 hd h _ e
  · refine zF_blk (m := []) (d := 0) (b := B209_13) (gs := [¬ (r1 = 0)]) (c' := (8, [some (22, 0), some (0, v1), some (0, v2), none, none], [], (hc, h, o))) K209_13 rfl ⟨q2, trivial⟩ ?_
    obtain ⟨r2, q3, e⟩ := zB_s e
    refine zF_blk (m := []) (d := 0) (b := B209_1) (gs := []) (c' := (11, [some (22, 0), some (0, v1), some (0, v2), none, none], [(0, 5), (0, 0), (0, v2)], (hc, h, o))) K209_1 rfl trivial ?_
    refine zF_call (k := 188) (cl := 12) (n := 3) (i := .invokestatic 151) (args := [(0, v2), (0, 0), (0, 5)]) (rest := []) (g1 := (hc, h, o)) (r1 := some (0, r2)) (by decide +kernel) rfl rfl rfl (st' := [(0, r2)]) rfl (S188 (Nat.le_trans (by decide) hd) v2 0 5 h _ q3) ?_
    rcases zI_s e with ⟨q4, e⟩ | ⟨q4, e⟩
    · refine zF_blk (m := []) (d := 1) (b := B209_12) (gs := [¬ r2 = 0]) (c' := (22, [some (22, 0), some (0, v1), some (0, v2), none, none], [], (hc, h, o))) K209_12 rfl ⟨q4, trivial⟩ ?_
      rcases zI_s e with ⟨q5, e⟩ | ⟨q5, e⟩
      · refine zF_blk (m := []) (d := 1) (b := B209_11) (gs := [¬ v2 = 0]) (c' := (42, [some (22, 0), some (0, v1), some (0, v2), none, none], [], (hc, (mset h 0 0 0), o))) K209_11 rfl ⟨q5, trivial⟩ ?_
        rcases zI_s e with ⟨q6, e⟩ | ⟨q6, e⟩
        · refine zF_blk (m := []) (d := 1) (b := B209_8) (gs := [¬ v2 = 1]) (c' := (53, [some (22, 0), some (0, v1), some (0, v2), none, none], [], (hc, (mset h 0 0 0), o))) K209_8 rfl ⟨q6, trivial⟩ ?_
          rcases zI_s e with ⟨q7, e⟩ | ⟨q7, e⟩
          · refine zF_blk (m := []) (d := 1) (b := B209_6) (gs := [¬ v2 = 5]) (c' := (72, [some (22, 0), some (0, v1), some (0, v2), none, none], [], (hc, (mset h 0 0 0), o))) K209_6 rfl ⟨q7, trivial⟩ ?_
            refine zF_blk (m := []) (d := 0) (b := B209_2) (gs := []) (c' := (77, [some (22, 0), some (0, v1), some (0, v2), some (0, 0), some (0, 0)], [], (hc, (mset h 0 0 0), o))) K209_2 rfl trivial ?_
            exact T209_1 hd zFu v1 v2 0 0 (mset h 0 0 0) _ e
          · refine zF_blk (m := []) (d := 0) (b := B209_6) (gs := [¬ (¬ v2 = 5)]) (c' := (58, [some (22, 0), some (0, v1), some (0, v2), none, none], [], (hc, (mset h 0 0 0), o))) K209_6 rfl ⟨q7, trivial⟩ ?_
            obtain ⟨q8, e⟩ := zG_s e
            refine zF_blk (m := []) (d := 0) (b := B209_3) (gs := []) (c' := (66, [some (22, 0), some (0, v1), some (0, v2), none, none], [(0, v1), (0, 2), (0, 25), (1344370422, 0)], (hc, (mset h 0 0 0), o))) K209_3 rfl trivial ?_
            refine zF_blk (m := []) (d := 0) (b := B209_4) (gs := []) (c' := (67, [some (22, 0), some (0, v1), some (0, v2), none, none], [(0, (wmul 2 v1)), (0, 25), (1344370422, 0)], (hc, (mset h 0 0 0), o))) K209_4 rfl trivial ?_
            refine zF_blk (m := []) (d := 0) (b := B209_5) (gs := [0 ≤ (wadd (wadd 25 (wmul 2 v1)) 1) ∧ (wadd (wadd 25 (wmul 2 v1)) 1) < 2140]) (c' := (71, [some (22, 0), some (0, v1), some (0, v2), none, none], [(0, (h 14 (wadd (wadd 25 (wmul 2 v1)) 1)))], (hc, (mset h 0 0 0), o))) K209_5 rfl ⟨q8, trivial⟩ ?_
            exact zF_riM (by decide +kernel) e
        · refine zF_blk (m := []) (d := 0) (b := B209_8) (gs := [¬ (¬ v2 = 1)]) (c' := (47, [some (22, 0), some (0, v1), some (0, v2), none, none], [], (hc, (mset h 0 0 0), o))) K209_8 rfl ⟨q6, trivial⟩ ?_
          obtain ⟨r3, q9, e⟩ := zB_s e
          refine zF_blk (m := []) (d := 0) (b := B209_7) (gs := []) (c' := (49, [some (22, 0), some (0, v1), some (0, v2), none, none], [(0, v1), (22, 0)], (hc, (mset h 0 0 0), o))) K209_7 rfl trivial ?_
          refine zF_call (k := 211) (cl := 12) (n := 2) (i := .invokevirtual 263) (args := [(22, 0), (0, v1)]) (rest := []) (g1 := (hc, (mset h 0 0 0), o)) (r1 := some (0, r3)) (by decide +kernel) rfl rfl rfl (st' := [(0, r3)]) rfl (S211 (Nat.le_trans (by decide) hd) v1 (mset h 0 0 0) _ q9) ?_
          exact zF_riM (by decide +kernel) e
      · refine zF_blk (m := []) (d := 0) (b := B209_11) (gs := [¬ (¬ v2 = 0)]) (c' := (31, [some (22, 0), some (0, v1), some (0, v2), none, none], [], (hc, (mset h 0 0 0), o))) K209_11 rfl ⟨q5, trivial⟩ ?_
        obtain ⟨q10, e⟩ := zG_s e
        refine zF_blk (m := []) (d := 0) (b := B209_9) (gs := []) (c' := (39, [some (22, 0), some (0, v1), some (0, v2), none, none], [(0, v1), (0, 210), (1344370422, 0)], (hc, (mset h 0 0 0), o))) K209_9 rfl trivial ?_
        refine zF_blk (m := []) (d := 0) (b := B209_10) (gs := [0 ≤ (wadd 210 v1) ∧ (wadd 210 v1) < 2140]) (c' := (41, [some (22, 0), some (0, v1), some (0, v2), none, none], [(0, (h 14 (wadd 210 v1)))], (hc, (mset h 0 0 0), o))) K209_10 rfl ⟨q10, trivial⟩ ?_
        exact zF_riM (by decide +kernel) e
    · refine zF_blk (m := []) (d := 0) (b := B209_12) (gs := [¬ (¬ r2 = 0)]) (c' := (17, [some (22, 0), some (0, v1), some (0, v2), none, none], [], (hc, h, o))) K209_12 rfl ⟨q4, trivial⟩ ?_
      refine zF_blk (m := [true, false, false, false, false]) (d := 0) (b := []) (gs := []) (c' := (17, [some (22, 0), none, none, none, none], [], (hc, h, o))) rfl rfl trivial ?_
      exact T209_0 hd h _ e
def B217_0 : List zRow := [(20, .iconst 0, 1, (0, 0, 0))]
theorem K217_0 : zRk 217 B217_0 = true := by decide +kernel
def B217_1 : List zRow := [(16, .iconst 1, 1, (0, 0, 0)), (17, .goto 4, 3, (0, 0, 0))]
theorem K217_1 : zRk 217 B217_1 = true := by decide +kernel
def B217_2 : List zRow := [(4, .iload_n 1, 1, (0, 0, 0)), (5, .aload_n 0, 1, (0, 0, 0)), (6, .getfield 13, 3, (12, 14, 5251442)), (9, .sipush 216, 3, (0, 0, 0)), (12, .iaload, 1, (0, 0, 0)), (13, .if_icmp .ge 7, 3, (0, 0, 0))]
theorem K217_2 : zRk 217 B217_2 = true := by decide +kernel
def B217_3 : List zRow := [(0, .iload_n 1, 1, (0, 0, 0)), (1, .ifCond .lt 19, 3, (0, 0, 0))]
theorem K217_3 : zRk 217 B217_3 = true := by decide +kernel
/-- EchoValeModel.isSaying(I)Z -/
def F217 (v1 : Int) (h : zHM) : Option Int := if v1 < 0 then some 0 else if (h 14 216) ≤ v1 then some 0 else some 1
set_option maxRecDepth 100000 in
theorem S217 {spec : zRn zH2} {hc : zHC} {o : Int → Int} {d : Nat} (hd : 1 ≤ d) (v1 : Int) (h : zHM) (v : Int) (e : F217 v1 h = some v) : zRu2 spec d 217 [(22, 0), (0, v1)] (hc, h, o) (some (0, v)) (hc, h, o) := by
  refine zF_in (D := 0) (mx := 2) (L := [some (22, 0), some (0, v1)]) (by decide +kernel) rfl rfl hd (fun d hd => ?_)
  unfold F217 at e
  rcases zI_s e with ⟨q1, e⟩ | ⟨q1, e⟩
  · refine zF_blk (m := []) (d := 1) (b := B217_3) (gs := [v1 < 0]) (c' := (20, [some (22, 0), some (0, v1)], [], (hc, h, o))) K217_3 rfl ⟨q1, trivial⟩ ?_
    refine zF_blk (m := []) (d := 0) (b := B217_0) (gs := []) (c' := (21, [some (22, 0), some (0, v1)], [(0, 0)], (hc, h, o))) K217_0 rfl trivial ?_
    obtain rfl := Option.some.inj e
    exact zF_rb (by decide +kernel) (Or.inl rfl)
  · refine zF_blk (m := []) (d := 0) (b := B217_3) (gs := [¬ (v1 < 0)]) (c' := (4, [some (22, 0), some (0, v1)], [], (hc, h, o))) K217_3 rfl ⟨q1, trivial⟩ ?_
    rcases zI_s e with ⟨q2, e⟩ | ⟨q2, e⟩
    · refine zF_blk (m := []) (d := 1) (b := B217_2) (gs := [0 ≤ 216 ∧ 216 < 2140, (h 14 216) ≤ v1]) (c' := (20, [some (22, 0), some (0, v1)], [], (hc, h, o))) K217_2 rfl ⟨by decide, q2, trivial⟩ ?_
      refine zF_blk (m := []) (d := 0) (b := B217_0) (gs := []) (c' := (21, [some (22, 0), some (0, v1)], [(0, 0)], (hc, h, o))) K217_0 rfl trivial ?_
      obtain rfl := Option.some.inj e
      exact zF_rb (by decide +kernel) (Or.inl rfl)
    · refine zF_blk (m := []) (d := 0) (b := B217_2) (gs := [0 ≤ 216 ∧ 216 < 2140, ¬ ((h 14 216) ≤ v1)]) (c' := (16, [some (22, 0), some (0, v1)], [], (hc, h, o))) K217_2 rfl ⟨by decide, q2, trivial⟩ ?_
      refine zF_blk (m := []) (d := 0) (b := B217_1) (gs := []) (c' := (21, [some (22, 0), some (0, v1)], [(0, 1)], (hc, h, o))) K217_1 rfl trivial ?_
      obtain rfl := Option.some.inj e
      exact zF_rb (by decide +kernel) (Or.inr rfl)
def B216_0 : List zRow := [(0, .aload_n 0, 1, (0, 0, 0)), (1, .iload_n 1, 1, (0, 0, 0))]
theorem K216_0 : zRk 216 B216_0 = true := by decide +kernel
def B216_1 : List zRow := [(8, .iload_n 2, 1, (0, 0, 0)), (9, .iconst 0, 1, (0, 0, 0)), (10, .bipush 7, 2, (0, 0, 0))]
theorem K216_1 : zRk 216 B216_1 = true := by decide +kernel
def B216_2 : List zRow := [(23, .aload_n 0, 1, (0, 0, 0)), (24, .iconst 0, 1, (0, 0, 0)), (25, .putfield 81, 3, (12, 0, 0)), (28, .aload_n 0, 1, (0, 0, 0)), (29, .iload_n 1, 1, (0, 0, 0)), (30, .iload_n 2, 1, (0, 0, 0))]
theorem K216_2 : zRk 216 B216_2 = true := by decide +kernel
def B216_3 : List zRow := [(15, .ifCond .ne 8, 3, (0, 0, 0))]
theorem K216_3 : zRk 216 B216_3 = true := by decide +kernel
def B216_4 : List zRow := [(5, .ifCond .eq 13, 3, (0, 0, 0))]
theorem K216_4 : zRk 216 B216_4 = true := by decide +kernel
def B216_5 : List zRow := [(18, .aload_n 0, 1, (0, 0, 0))]
theorem K216_5 : zRk 216 B216_5 = true := by decide +kernel
def F216_0 (h : zHM) : Option (Int × zHM) := (F206 h).bind fun r1 => some (r1.1, r1.2)
set_option maxRecDepth 100000 in
theorem T216_0 {spec : zRn zH2} {hc : zHC} {o : Int → Int} {d : Nat} (hd : 1 ≤ d) (h : zHM) (v : (Int × zHM)) (e : F216_0 h = some v) : zFin 0 (fun _ => 0) (zRu2 spec d) 216 (some (0, v.1)) (hc, v.2, o) (18, [some (22, 0), none, none], [], (hc, h, o)) := by
  unfold F216_0 at e
  obtain ⟨r1, q1, e⟩ := zB_s e
  refine zF_blk (m := []) (d := 0) (b := B216_5) (gs := []) (c' := (19, [some (22, 0), none, none], [(22, 0)], (hc, h, o))) K216_5 rfl trivial ?_
  refine zF_call (k := 206) (cl := 12) (n := 1) (i := .invokevirtual 238) (args := [(22, 0)]) (rest := []) (g1 := (hc, r1.2, o)) (r1 := some (0, r1.1)) (by decide +kernel) rfl rfl rfl (st' := [(0, r1.1)]) rfl (S206 (Nat.le_trans (by decide) hd)  h _ q1) ?_
  exact zF_riM (by decide +kernel) e
/-- EchoValeModel.saying(II)I -/
def F216 (v1 : Int) (v2 : Int) (h : zHM) : Option (Int × zHM) := (F217 v1 h).bind fun r1 => if r1 = 0 then F216_0 h else (F188 v2 0 7).bind fun r2 => if ¬ r2 = 0 then (F213 v1 v2 (mset h 0 0 0)).bind fun r3 => some (r3, (mset h 0 0 0)) else F216_0 h
set_option maxRecDepth 100000 in
theorem S216 {spec : zRn zH2} {hc : zHC} {o : Int → Int} {d : Nat} (hd : 2 ≤ d) (v1 : Int) (v2 : Int) (h : zHM) (v : (Int × zHM)) (e : F216 v1 v2 h = some v) : zRu2 spec d 216 [(22, 0), (0, v1), (0, v2)] (hc, h, o) (some (0, v.1)) (hc, v.2, o) := by
  refine zF_in (D := 1) (mx := 3) (L := [some (22, 0), some (0, v1), some (0, v2)]) (by decide +kernel) rfl rfl hd (fun d hd => ?_)
  unfold F216 at e
  obtain ⟨r1, q1, e⟩ := zB_s e
  refine zF_blk (m := []) (d := 0) (b := B216_0) (gs := []) (c' := (2, [some (22, 0), some (0, v1), some (0, v2)], [(0, v1), (22, 0)], (hc, h, o))) K216_0 rfl trivial ?_
  refine zF_call (k := 217) (cl := 12) (n := 2) (i := .invokevirtual 266) (args := [(22, 0), (0, v1)]) (rest := []) (g1 := (hc, h, o)) (r1 := some (0, r1)) (by decide +kernel) rfl rfl rfl (st' := [(0, r1)]) rfl (S217 (Nat.le_trans (by decide) hd) v1 h _ q1) ?_
  rcases zI_s e with ⟨q2, e⟩ | ⟨q2, e⟩
  · refine zF_blk (m := []) (d := 1) (b := B216_4) (gs := [r1 = 0]) (c' := (18, [some (22, 0), some (0, v1), some (0, v2)], [], (hc, h, o))) K216_4 rfl ⟨q2, trivial⟩ ?_
    refine zF_blk (m := [true, false, false]) (d := 0) (b := []) (gs := []) (c' := (18, [some (22, 0), none, none], [], (hc, h, o))) rfl rfl trivial ?_
    exact T216_0 hd h _ e
  · refine zF_blk (m := []) (d := 0) (b := B216_4) (gs := [¬ (r1 = 0)]) (c' := (8, [some (22, 0), some (0, v1), some (0, v2)], [], (hc, h, o))) K216_4 rfl ⟨q2, trivial⟩ ?_
    obtain ⟨r2, q3, e⟩ := zB_s e
    refine zF_blk (m := []) (d := 0) (b := B216_1) (gs := []) (c' := (12, [some (22, 0), some (0, v1), some (0, v2)], [(0, 7), (0, 0), (0, v2)], (hc, h, o))) K216_1 rfl trivial ?_
    refine zF_call (k := 188) (cl := 12) (n := 3) (i := .invokestatic 151) (args := [(0, v2), (0, 0), (0, 7)]) (rest := []) (g1 := (hc, h, o)) (r1 := some (0, r2)) (by decide +kernel) rfl rfl rfl (st' := [(0, r2)]) rfl (S188 (Nat.le_trans (by decide) hd) v2 0 7 h _ q3) ?_
    rcases zI_s e with ⟨q4, e⟩ | ⟨q4, e⟩
    · refine zF_blk (m := []) (d := 1) (b := B216_3) (gs := [¬ r2 = 0]) (c' := (23, [some (22, 0), some (0, v1), some (0, v2)], [], (hc, h, o))) K216_3 rfl ⟨q4, trivial⟩ ?_
      obtain ⟨r3, q5, e⟩ := zB_s e
      refine zF_blk (m := []) (d := 0) (b := B216_2) (gs := []) (c' := (31, [some (22, 0), some (0, v1), some (0, v2)], [(0, v2), (0, v1), (22, 0)], (hc, (mset h 0 0 0), o))) K216_2 rfl trivial ?_
      refine zF_call (k := 213) (cl := 12) (n := 3) (i := .invokevirtual 247) (args := [(22, 0), (0, v1), (0, v2)]) (rest := []) (g1 := (hc, (mset h 0 0 0), o)) (r1 := some (0, r3)) (by decide +kernel) rfl rfl rfl (st' := [(0, r3)]) rfl (S213 (Nat.le_trans (by decide) hd) v1 v2 (mset h 0 0 0) _ q5) ?_
      exact zF_riM (by decide +kernel) e
    · refine zF_blk (m := []) (d := 0) (b := B216_3) (gs := [¬ (¬ r2 = 0)]) (c' := (18, [some (22, 0), some (0, v1), some (0, v2)], [], (hc, h, o))) K216_3 rfl ⟨q4, trivial⟩ ?_
      refine zF_blk (m := [true, false, false]) (d := 0) (b := []) (gs := []) (c' := (18, [some (22, 0), none, none], [], (hc, h, o))) rfl rfl trivial ?_
      exact T216_0 hd h _ e
