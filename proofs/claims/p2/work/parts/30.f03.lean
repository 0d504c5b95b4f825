/-! Functions of the methods, by wip/gen/lift.py. -/
def B21_0 : List zRow := [(0, .aload_n 0, 1, (0, 0, 0)), (1, .getfield 39, 3, (5, 1, 0)), (4, .aload_n 0, 1, (0, 0, 0)), (5, .getfield 42, 3, (5, 9, 0)), (8, .invokestatic 57, 3, (5003, 0, 0)), (11, .istore_n 1, 1, (0, 0, 0))]
theorem K21_0 : zRk 21 B21_0 = true := by decide +kernel
def B21_1 : List zRow := [(20, .aload_n 0, 1, (0, 0, 0)), (21, .getfield 9, 3, (5, 0, 5246642)), (24, .aload_n 0, 1, (0, 0, 0)), (25, .getfield 45, 3, (5, 8, 0)), (28, .iaload, 1, (0, 0, 0))]
theorem K21_1 : zRk 21 B21_1 = true := by decide +kernel
def B21_2 : List zRow := [(35, .aload_n 0, 1, (0, 0, 0)), (36, .dup, 1, (0, 0, 0)), (37, .getfield 45, 3, (5, 8, 0)), (40, .iconst 1, 1, (0, 0, 0)), (41, .iadd, 1, (0, 0, 0)), (42, .putfield 45, 3, (5, 8, 0)), (45, .goto (-33), 3, (0, 0, 0))]
theorem K21_2 : zRk 21 B21_2 = true := by decide +kernel
def B21_3 : List zRow := [(32, .ifCond .eq 16, 3, (0, 0, 0))]
theorem K21_3 : zRk 21 B21_3 = true := by decide +kernel
def B21_4 : List zRow := [(12, .aload_n 0, 1, (0, 0, 0)), (13, .getfield 45, 3, (5, 8, 0)), (16, .iload_n 1, 1, (0, 0, 0)), (17, .if_icmp .ge 31, 3, (0, 0, 0))]
theorem K21_4 : zRk 21 B21_4 = true := by decide +kernel
def B21_5 : List zRow := [(76, .aload_n 0, 1, (0, 0, 0)), (77, .getfield 9, 3, (5, 0, 5246642)), (80, .aload_n 0, 1, (0, 0, 0)), (81, .getfield 45, 3, (5, 8, 0)), (84, .iaload, 1, (0, 0, 0))]
theorem K21_5 : zRk 21 B21_5 = true := by decide +kernel
def B21_6 : List zRow := [(91, .aload_n 0, 1, (0, 0, 0)), (92, .getfield 9, 3, (5, 0, 5246642)), (95, .aload_n 0, 1, (0, 0, 0)), (96, .getfield 45, 3, (5, 8, 0)), (99, .iaload, 1, (0, 0, 0))]
theorem K21_6 : zRk 21 B21_6 = true := by decide +kernel
def B21_7 : List zRow := [(113, .aload_n 0, 1, (0, 0, 0)), (114, .aload_n 0, 1, (0, 0, 0)), (115, .getfield 9, 3, (5, 0, 5246642)), (118, .aload_n 0, 1, (0, 0, 0)), (119, .getfield 45, 3, (5, 8, 0)), (122, .iaload, 1, (0, 0, 0)), (123, .putfield 82, 3, (5, 6, 0)), (126, .aload_n 0, 1, (0, 0, 0)), (127, .aload_n 0, 1, (0, 0, 0)), (128, .getfield 82, 3, (5, 6, 0))]
theorem K21_7 : zRk 21 B21_7 = true := by decide +kernel
def B21_8 : List zRow := [(141, .iconst 1, 1, (0, 0, 0))]
theorem K21_8 : zRk 21 B21_8 = true := by decide +kernel
def B21_9 : List zRow := [(137, .iconst 5, 1, (0, 0, 0)), (138, .goto 4, 3, (0, 0, 0))]
theorem K21_9 : zRk 21 B21_9 = true := by decide +kernel
def B21_10 : List zRow := [(134, .ifCond .eq 7, 3, (0, 0, 0))]
theorem K21_10 : zRk 21 B21_10 = true := by decide +kernel
def B21_11 : List zRow := [(103, .ifCond .eq 10, 3, (0, 0, 0))]
theorem K21_11 : zRk 21 B21_11 = true := by decide +kernel
def B21_12 : List zRow := [(88, .ifCond .ne 18, 3, (0, 0, 0))]
theorem K21_12 : zRk 21 B21_12 = true := by decide +kernel
def B21_13 : List zRow := [(68, .aload_n 0, 1, (0, 0, 0)), (69, .iconst 0, 1, (0, 0, 0)), (70, .putfield 70, 3, (5, 4, 0)), (73, .goto 82, 3, (0, 0, 0))]
theorem K21_13 : zRk 21 B21_13 = true := by decide +kernel
def B21_14 : List zRow := [(48, .aload_n 0, 1, (0, 0, 0)), (49, .aload_n 0, 1, (0, 0, 0)), (50, .getfield 45, 3, (5, 8, 0)), (53, .iload_n 1, 1, (0, 0, 0)), (54, .invokestatic 57, 3, (5003, 0, 0)), (57, .putfield 67, 3, (5, 5, 0)), (60, .aload_n 0, 1, (0, 0, 0)), (61, .getfield 45, 3, (5, 8, 0)), (64, .iload_n 1, 1, (0, 0, 0)), (65, .if_icmp .lt 11, 3, (0, 0, 0))]
theorem K21_14 : zRk 21 B21_14 = true := by decide +kernel
def B21_15 : List zRow := [(142, .putfield 70, 3, (5, 4, 0)), (145, .aload_n 0, 1, (0, 0, 0)), (146, .dup, 1, (0, 0, 0)), (147, .getfield 45, 3, (5, 8, 0)), (150, .iconst 1, 1, (0, 0, 0)), (151, .iadd, 1, (0, 0, 0)), (152, .putfield 45, 3, (5, 8, 0))]
theorem K21_15 : zRk 21 B21_15 = true := by decide +kernel
def B21_16 : List zRow := [(106, .aload_n 0, 1, (0, 0, 0))]
theorem K21_16 : zRk 21 B21_16 = true := by decide +kernel
def B21_17 : List zRow := [(110, .goto 45, 3, (0, 0, 0))]
theorem K21_17 : zRk 21 B21_17 = true := by decide +kernel
def F21_2 (h : zHC) : Option zHC := (F26 h).bind fun r1 => some r1
set_option maxRecDepth 100000 in
theorem T21_2 {spec : zRn zH2} {hm : zHM} {o : Int → Int} {d : Nat} (hd : 2 ≤ d) (h : zHC) (v : zHC) (e : F21_2 h = some v) : zFin 0 (fun _ => 0) (zRu2 spec d) 21 none (v, hm, o) (106, [some (15, 0), none], [], (h, hm, o)) := by
  unfold F21_2 at e
  obtain ⟨r1, q1, e⟩ := zB_s e
  refine zF_blk (m := []) (d := 0) (b := B21_16) (gs := []) (c' := (107, [some (15, 0), none], [(15, 0)], (h, hm, o))) K21_16 rfl trivial ?_
  refine zF_call (k := 26) (cl := 5) (n := 1) (i := .invokevirtual 79) (args := [(15, 0)]) (rest := []) (g1 := (r1, hm, o)) (r1 := none) (by decide +kernel) rfl rfl rfl (st' := []) rfl (S26 (Nat.le_trans (by decide) hd)  h _ q1) ?_
  refine zF_blk (m := []) (d := 0) (b := B21_17) (gs := []) (c' := (155, [some (15, 0), none], [], (r1, hm, o))) K21_17 rfl trivial ?_
  obtain rfl := Option.some.inj e
  exact zF_rv (by decide +kernel)
def F21_3 (s0 : Int) (h : zHC) : Option zHC := some (hset (hset h 324 0 0 s0) 328 0 0 (wadd (h 328 0 0) 1))
set_option maxRecDepth 100000 in
theorem T21_3 {spec : zRn zH2} {hm : zHM} {o : Int → Int} {d : Nat} (hd : 2 ≤ d) (s0 : Int) (h : zHC) (v : zHC) (e : F21_3 s0 h = some v) : zFin 0 (fun _ => 0) (zRu2 spec d) 21 none (v, hm, o) (142, [some (15, 0), none], [(0, s0), (15, 0)], (h, hm, o)) := by
  unfold F21_3 at e
  refine zF_blk (m := []) (d := 0) (b := B21_15) (gs := []) (c' := (155, [some (15, 0), none], [], ((hset (hset h 324 0 0 s0) 328 0 0 (wadd (h 328 0 0) 1)), hm, o))) K21_15 rfl trivial ?_
  obtain rfl := Option.some.inj e
  exact zF_rv (by decide +kernel)
def F21_1 (v1 : Int) (h : zHC) : Option zHC := if (h 328 0 0) < v1 then zG (0 ≤ (h 328 0 0) ∧ (h 328 0 0) < 940) ((F24 (h 320 0 (h 328 0 0))).bind fun r1 => if ¬ r1 = 0 then F21_2 (hset h 325 0 0 (if v1 < (h 328 0 0) then v1 else (h 328 0 0))) else zG (0 ≤ (h 328 0 0) ∧ (h 328 0 0) < 940) ((F25 (h 320 0 (h 328 0 0))).bind fun r2 => if r2 = 0 then zG (0 ≤ (h 328 0 0) ∧ (h 328 0 0) < 940) ((F28 (h 320 0 (h 328 0 0))).bind fun r3 => if r3 = 0 then F21_3 1 (hset (hset h 325 0 0 (if v1 < (h 328 0 0) then v1 else (h 328 0 0))) 326 0 0 (h 320 0 (h 328 0 0))) else F21_3 5 (hset (hset h 325 0 0 (if v1 < (h 328 0 0) then v1 else (h 328 0 0))) 326 0 0 (h 320 0 (h 328 0 0)))) else F21_2 (hset h 325 0 0 (if v1 < (h 328 0 0) then v1 else (h 328 0 0))))) else some (hset (hset h 325 0 0 (if v1 < (h 328 0 0) then v1 else (h 328 0 0))) 324 0 0 0)
set_option maxRecDepth 100000 in
theorem T21_1 {spec : zRn zH2} {hm : zHM} {o : Int → Int} {d : Nat} (hd : 2 ≤ d) (v1 : Int) (h : zHC) (v : zHC) (e : F21_1 v1 h = some v) : zFin 0 (fun _ => 0) (zRu2 spec d) 21 none (v, hm, o) (48, [some (15, 0), some (0, v1)], [], (h, hm, o)) := by
  unfold F21_1 at e
  rcases zI_s e with ⟨q1, e⟩ | ⟨q1, e⟩
  · refine zF_blk (m := []) (d := 1) (b := B21_14) (gs := [(h 328 0 0) < v1]) (c' := (76, [some (15, 0), some (0, v1)], [], ((hset h 325 0 0 (if v1 < (h 328 0 0) then v1 else (h 328 0 0))), hm, o))) K21_14 rfl ⟨q1, trivial⟩ ?_
    obtain ⟨q2, e⟩ := zG_s e
    obtain ⟨r1, q3, e⟩ := zB_s e
    refine zF_blk (m := []) (d := 0) (b := B21_5) (gs := [0 ≤ (h 328 0 0) ∧ (h 328 0 0) < 940]) (c' := (85, [some (15, 0), some (0, v1)], [(0, (h 320 0 (h 328 0 0)))], ((hset h 325 0 0 (if v1 < (h 328 0 0) then v1 else (h 328 0 0))), hm, o))) K21_5 rfl ⟨q2, trivial⟩ ?_
    refine zF_call (k := 24) (cl := 5) (n := 1) (i := .invokestatic 73) (args := [(0, (h 320 0 (h 328 0 0)))]) (rest := []) (g1 := ((hset h 325 0 0 (if v1 < (h 328 0 0) then v1 else (h 328 0 0))), hm, o)) (r1 := some (0, r1)) (by decide +kernel) rfl rfl rfl (st' := [(0, r1)]) rfl (S24 (Nat.le_trans (by decide) hd) (h 320 0 (h 328 0 0)) (hset h 325 0 0 (if v1 < (h 328 0 0) then v1 else (h 328 0 0))) _ q3) ?_
    rcases zI_s e with ⟨q4, e⟩ | ⟨q4, e⟩
    · refine zF_blk (m := []) (d := 1) (b := B21_12) (gs := [¬ r1 = 0]) (c' := (106, [some (15, 0), some (0, v1)], [], ((hset h 325 0 0 (if v1 < (h 328 0 0) then v1 else (h 328 0 0))), hm, o))) K21_12 rfl ⟨q4, trivial⟩ ?_
      refine zF_blk (m := [true, false]) (d := 0) (b := []) (gs := []) (c' := (106, [some (15, 0), none], [], ((hset h 325 0 0 (if v1 < (h 328 0 0) then v1 else (h 328 0 0))), hm, o))) rfl rfl trivial ?_
      exact T21_2 hd (hset h 325 0 0 (if v1 < (h 328 0 0) then v1 else (h 328 0 0))) _ e
    · refine zF_blk (m := []) (d := 0) (b := B21_12) (gs := [¬ (¬ r1 = 0)]) (c' := (91, [some (15, 0), some (0, v1)], [], ((hset h 325 0 0 (if v1 < (h 328 0 0) then v1 else (h 328 0 0))), hm, o))) K21_12 rfl ⟨q4, trivial⟩ ?_
      obtain ⟨q5, e⟩ := zG_s e
      obtain ⟨r2, q6, e⟩ := zB_s e
      refine zF_blk (m := []) (d := 0) (b := B21_6) (gs := [0 ≤ (h 328 0 0) ∧ (h 328 0 0) < 940]) (c' := (100, [some (15, 0), some (0, v1)], [(0, (h 320 0 (h 328 0 0)))], ((hset h 325 0 0 (if v1 < (h 328 0 0) then v1 else (h 328 0 0))), hm, o))) K21_6 rfl ⟨q5, trivial⟩ ?_
      refine zF_call (k := 25) (cl := 5) (n := 1) (i := .invokestatic 76) (args := [(0, (h 320 0 (h 328 0 0)))]) (rest := []) (g1 := ((hset h 325 0 0 (if v1 < (h 328 0 0) then v1 else (h 328 0 0))), hm, o)) (r1 := some (0, r2)) (by decide +kernel) rfl rfl rfl (st' := [(0, r2)]) rfl (S25 (Nat.le_trans (by decide) hd) (h 320 0 (h 328 0 0)) (hset h 325 0 0 (if v1 < (h 328 0 0) then v1 else (h 328 0 0))) _ q6) ?_
      rcases zI_s e with ⟨q7, e⟩ | ⟨q7, e⟩
      · refine zF_blk (m := []) (d := 1) (b := B21_11) (gs := [r2 = 0]) (c' := (113, [some (15, 0), some (0, v1)], [], ((hset h 325 0 0 (if v1 < (h 328 0 0) then v1 else (h 328 0 0))), hm, o))) K21_11 rfl ⟨q7, trivial⟩ ?_
        obtain ⟨q8, e⟩ := zG_s e
        obtain ⟨r3, q9, e⟩ := zB_s e
        refine zF_blk (m := []) (d := 0) (b := B21_7) (gs := [0 ≤ (h 328 0 0) ∧ (h 328 0 0) < 940]) (c' := (131, [some (15, 0), some (0, v1)], [(0, (h 320 0 (h 328 0 0))), (15, 0)], ((hset (hset h 325 0 0 (if v1 < (h 328 0 0) then v1 else (h 328 0 0))) 326 0 0 (h 320 0 (h 328 0 0))), hm, o))) K21_7 rfl ⟨q8, trivial⟩ ?_
        refine zF_call (k := 28) (cl := 5) (n := 1) (i := .invokestatic 85) (args := [(0, (h 320 0 (h 328 0 0)))]) (rest := [(15, 0)]) (g1 := ((hset (hset h 325 0 0 (if v1 < (h 328 0 0) then v1 else (h 328 0 0))) 326 0 0 (h 320 0 (h 328 0 0))), hm, o)) (r1 := some (0, r3)) (by decide +kernel) rfl rfl rfl (st' := [(0, r3), (15, 0)]) rfl (S28 (Nat.le_trans (by decide) hd) (h 320 0 (h 328 0 0)) (hset (hset h 325 0 0 (if v1 < (h 328 0 0) then v1 else (h 328 0 0))) 326 0 0 (h 320 0 (h 328 0 0))) _ q9) ?_
        rcases zI_s e with ⟨q10, e⟩ | ⟨q10, e⟩
        · refine zF_blk (m := []) (d := 1) (b := B21_10) (gs := [r3 = 0]) (c' := (141, [some (15, 0), some (0, v1)], [(15, 0)], ((hset (hset h 325 0 0 (if v1 < (h 328 0 0) then v1 else (h 328 0 0))) 326 0 0 (h 320 0 (h 328 0 0))), hm, o))) K21_10 rfl ⟨q10, trivial⟩ ?_
          refine zF_blk (m := []) (d := 0) (b := B21_8) (gs := []) (c' := (142, [some (15, 0), some (0, v1)], [(0, 1), (15, 0)], ((hset (hset h 325 0 0 (if v1 < (h 328 0 0) then v1 else (h 328 0 0))) 326 0 0 (h 320 0 (h 328 0 0))), hm, o))) K21_8 rfl trivial ?_
          refine zF_blk (m := [true, false]) (d := 0) (b := []) (gs := []) (c' := (142, [some (15, 0), none], [(0, 1), (15, 0)], ((hset (hset h 325 0 0 (if v1 < (h 328 0 0) then v1 else (h 328 0 0))) 326 0 0 (h 320 0 (h 328 0 0))), hm, o))) rfl rfl trivial ?_
          exact T21_3 hd 1 (hset (hset h 325 0 0 (if v1 < (h 328 0 0) then v1 else (h 328 0 0))) 326 0 0 (h 320 0 (h 328 0 0))) _ e
        · refine zF_blk (m := []) (d := 0) (b := B21_10) (gs := [¬ (r3 = 0)]) (c' := (137, [some (15, 0), some (0, v1)], [(15, 0)], ((hset (hset h 325 0 0 (if v1 < (h 328 0 0) then v1 else (h 328 0 0))) 326 0 0 (h 320 0 (h 328 0 0))), hm, o))) K21_10 rfl ⟨q10, trivial⟩ ?_
          refine zF_blk (m := []) (d := 0) (b := B21_9) (gs := []) (c' := (142, [some (15, 0), some (0, v1)], [(0, 5), (15, 0)], ((hset (hset h 325 0 0 (if v1 < (h 328 0 0) then v1 else (h 328 0 0))) 326 0 0 (h 320 0 (h 328 0 0))), hm, o))) K21_9 rfl trivial ?_
          refine zF_blk (m := [true, false]) (d := 0) (b := []) (gs := []) (c' := (142, [some (15, 0), none], [(0, 5), (15, 0)], ((hset (hset h 325 0 0 (if v1 < (h 328 0 0) then v1 else (h 328 0 0))) 326 0 0 (h 320 0 (h 328 0 0))), hm, o))) rfl rfl trivial ?_
          exact T21_3 hd 5 (hset (hset h 325 0 0 (if v1 < (h 328 0 0) then v1 else (h 328 0 0))) 326 0 0 (h 320 0 (h 328 0 0))) _ e
      · refine zF_blk (m := []) (d := 0) (b := B21_11) (gs := [¬ (r2 = 0)]) (c' := (106, [some (15, 0), some (0, v1)], [], ((hset h 325 0 0 (if v1 < (h 328 0 0) then v1 else (h 328 0 0))), hm, o))) K21_11 rfl ⟨q7, trivial⟩ ?_
        refine zF_blk (m := [true, false]) (d := 0) (b := []) (gs := []) (c' := (106, [some (15, 0), none], [], ((hset h 325 0 0 (if v1 < (h 328 0 0) then v1 else (h 328 0 0))), hm, o))) rfl rfl trivial ?_
        exact T21_2 hd (hset h 325 0 0 (if v1 < (h 328 0 0) then v1 else (h 328 0 0))) _ e
  · refine zF_blk (m := []) (d := 0) (b := B21_14) (gs := [¬ ((h 328 0 0) < v1)]) (c' := (68, [some (15, 0), some (0, v1)], [], ((hset h 325 0 0 (if v1 < (h 328 0 0) then v1 else (h 328 0 0))), hm, o))) K21_14 rfl ⟨q1, trivial⟩ ?_
    refine zF_blk (m := []) (d := 0) (b := B21_13) (gs := []) (c' := (155, [some (15, 0), some (0, v1)], [], ((hset (hset h 325 0 0 (if v1 < (h 328 0 0) then v1 else (h 328 0 0))) 324 0 0 0), hm, o))) K21_13 rfl trivial ?_
    obtain rfl := Option.some.inj e
    exact zF_rv (by decide +kernel)
def F21_0 : Nat → Int → zHC → Option zHC
  | 0, _, _ => none
  | n + 1, v1, h => if v1 ≤ (h 328 0 0) then F21_1 v1 h else zG (0 ≤ (h 328 0 0) ∧ (h 328 0 0) < 940) ((F23 (h 320 0 (h 328 0 0))).bind fun r1 => if r1 = 0 then F21_1 v1 h else (F21_0 n) v1 (hset h 328 0 0 (wadd (h 328 0 0) 1)))
set_option maxRecDepth 100000 in
theorem T21_0 {spec : zRn zH2} {hm : zHM} {o : Int → Int} {d : Nat} (hd : 2 ≤ d) : ∀ (n : Nat) (v1 : Int) (h : zHC) (v : zHC), F21_0 n v1 h = some v → zFin 0 (fun _ => 0) (zRu2 spec d) 21 none (v, hm, o) (12, [some (15, 0), some (0, v1)], [], (h, hm, o)) := by
  intro n
  induction n with
  | zero => intro v1 h v e; unfold F21_0 at e; cases e
  | succ n hk0 =>
    intro v1 h v e
    unfold F21_0 at e
    rcases zI_s e with ⟨q1, e⟩ | ⟨q1, e⟩
    · refine zF_blk (m := []) (d := 1) (b := B21_4) (gs := [v1 ≤ (h 328 0 0)]) (c' := (48, [some (15, 0), some (0, v1)], [], (h, hm, o))) K21_4 rfl ⟨q1, trivial⟩ ?_
      exact T21_1 hd v1 h _ e
    · refine zF_blk (m := []) (d := 0) (b := B21_4) (gs := [¬ (v1 ≤ (h 328 0 0))]) (c' := (20, [some (15, 0), some (0, v1)], [], (h, hm, o))) K21_4 rfl ⟨q1, trivial⟩ ?_
      obtain ⟨q2, e⟩ := zG_s e
      obtain ⟨r1, q3, e⟩ := zB_s e
      refine zF_blk (m := []) (d := 0) (b := B21_1) (gs := [0 ≤ (h 328 0 0) ∧ (h 328 0 0) < 940]) (c' := (29, [some (15, 0), some (0, v1)], [(0, (h 320 0 (h 328 0 0)))], (h, hm, o))) K21_1 rfl ⟨q2, trivial⟩ ?_
      refine zF_call (k := 23) (cl := 5) (n := 1) (i := .invokestatic 63) (args := [(0, (h 320 0 (h 328 0 0)))]) (rest := []) (g1 := (h, hm, o)) (r1 := some (0, r1)) (by decide +kernel) rfl rfl rfl (st' := [(0, r1)]) rfl (S23 (Nat.le_trans (by decide) hd) (h 320 0 (h 328 0 0)) h _ q3) ?_
      rcases zI_s e with ⟨q4, e⟩ | ⟨q4, e⟩
      · refine zF_blk (m := []) (d := 1) (b := B21_3) (gs := [r1 = 0]) (c' := (48, [some (15, 0), some (0, v1)], [], (h, hm, o))) K21_3 rfl ⟨q4, trivial⟩ ?_
        exact T21_1 hd v1 h _ e
      · refine zF_blk (m := []) (d := 0) (b := B21_3) (gs := [¬ (r1 = 0)]) (c' := (35, [some (15, 0), some (0, v1)], [], (h, hm, o))) K21_3 rfl ⟨q4, trivial⟩ ?_
        refine zF_blk (m := []) (d := 0) (b := B21_2) (gs := []) (c' := (12, [some (15, 0), some (0, v1)], [], ((hset h 328 0 0 (wadd (h 328 0 0) 1)), hm, o))) K21_2 rfl trivial ?_
        exact hk0 v1 (hset h 328 0 0 (wadd (h 328 0 0) 1)) _ e
/-- EchoVale$Reader.step()V -/
def F21 (h : zHC) : Option zHC := F21_0 zFu (if (h 329 0 0) < (h 321 0 0) then (h 329 0 0) else (h 321 0 0)) h
set_option maxRecDepth 100000 in
theorem S21 {spec : zRn zH2} {hm : zHM} {o : Int → Int} {d : Nat} (hd : 3 ≤ d) (h : zHC) (v : zHC) (e : F21 h = some v) : zRu2 spec d 21 [(15, 0)] (h, hm, o) none (v, hm, o) := by
  refine zF_in (D := 2) (mx := 2) (L := [some (15, 0), none]) (by decide +kernel) rfl rfl hd (fun d hd => ?_)
  unfold F21 at e
  refine zF_blk (m := []) (d := 0) (b := B21_0) (gs := []) (c' := (12, [some (15, 0), some (0, (if (h 329 0 0) < (h 321 0 0) then (h 329 0 0) else (h 321 0 0)))], [], (h, hm, o))) K21_0 rfl trivial ?_
  exact T21_0 hd zFu (if (h 329 0 0) < (h 321 0 0) then (h 329 0 0) else (h 321 0 0)) h _ e
def B20_0 : List zRow := [(0, .aload_n 0, 1, (0, 0, 0)), (1, .iload_n 1, 1, (0, 0, 0)), (2, .putfield 42, 3, (5, 9, 0)), (5, .aload_n 0, 1, (0, 0, 0)), (6, .iconst 0, 1, (0, 0, 0)), (7, .putfield 45, 3, (5, 8, 0)), (10, .aload_n 0, 1, (0, 0, 0)), (11, .iconst 0, 1, (0, 0, 0)), (12, .putfield 48, 3, (5, 2, 0)), (15, .aload_n 0, 1, (0, 0, 0)), (16, .iconst 0, 1, (0, 0, 0)), (17, .putfield 51, 3, (5, 3, 0)), (20, .aload_n 0, 1, (0, 0, 0))]
theorem K20_0 : zRk 20 B20_0 = true := by decide +kernel
/-- EchoVale$Reader.open(I)V -/
def F20 (v1 : Int) (h : zHC) : Option zHC := (F21 (hset (hset (hset (hset h 329 0 0 v1) 328 0 0 0) 322 0 0 0) 323 0 0 0)).bind fun r1 => some r1
set_option maxRecDepth 100000 in
theorem S20 {spec : zRn zH2} {hm : zHM} {o : Int → Int} {d : Nat} (hd : 4 ≤ d) (v1 : Int) (h : zHC) (v : zHC) (e : F20 v1 h = some v) : zRu2 spec d 20 [(15, 0), (0, v1)] (h, hm, o) none (v, hm, o) := by
  refine zF_in (D := 3) (mx := 2) (L := [some (15, 0), some (0, v1)]) (by decide +kernel) rfl rfl hd (fun d hd => ?_)
  unfold F20 at e
  obtain ⟨r1, q1, e⟩ := zB_s e
  refine zF_blk (m := []) (d := 0) (b := B20_0) (gs := []) (c' := (21, [some (15, 0), some (0, v1)], [(15, 0)], ((hset (hset (hset (hset h 329 0 0 v1) 328 0 0 0) 322 0 0 0) 323 0 0 0), hm, o))) K20_0 rfl trivial ?_
  refine zF_call (k := 21) (cl := 5) (n := 1) (i := .invokevirtual 54) (args := [(15, 0)]) (rest := []) (g1 := (r1, hm, o)) (r1 := none) (by decide +kernel) rfl rfl rfl (st' := []) rfl (S21 (Nat.le_trans (by decide) hd)  (hset (hset (hset (hset h 329 0 0 v1) 328 0 0 0) 322 0 0 0) 323 0 0 0) _ q1) ?_
  obtain rfl := Option.some.inj e
  exact zF_rv (by decide +kernel)
def B29_0 : List zRow := [(22, .iconst 0, 1, (0, 0, 0))]
theorem K29_0 : zRk 29 B29_0 = true := by decide +kernel
def B29_1 : List zRow := [(18, .iconst 1, 1, (0, 0, 0)), (19, .goto 4, 3, (0, 0, 0))]
theorem K29_1 : zRk 29 B29_1 = true := by decide +kernel
def B29_2 : List zRow := [(7, .aload_n 0, 1, (0, 0, 0)), (8, .getfield 39, 3, (5, 1, 0)), (11, .aload_n 0, 1, (0, 0, 0)), (12, .getfield 42, 3, (5, 9, 0)), (15, .if_icmp .gt 7, 3, (0, 0, 0))]
theorem K29_2 : zRk 29 B29_2 = true := by decide +kernel
def B29_3 : List zRow := [(0, .aload_n 0, 1, (0, 0, 0)), (1, .getfield 70, 3, (5, 4, 0)), (4, .ifCond .ne 18, 3, (0, 0, 0))]
theorem K29_3 : zRk 29 B29_3 = true := by decide +kernel
/-- EchoVale$Reader.isAtEnd()Z -/
def F29 (h : zHC) : Option Int := if ¬ (h 324 0 0) = 0 then some 0 else if (h 329 0 0) < (h 321 0 0) then some 0 else some 1
set_option maxRecDepth 100000 in
theorem S29 {spec : zRn zH2} {hm : zHM} {o : Int → Int} {d : Nat} (hd : 1 ≤ d) (h : zHC) (v : Int) (e : F29 h = some v) : zRu2 spec d 29 [(15, 0)] (h, hm, o) (some (0, v)) (h, hm, o) := by
  refine zF_in (D := 0) (mx := 1) (L := [some (15, 0)]) (by decide +kernel) rfl rfl hd (fun d hd => ?_)
  unfold F29 at e
  rcases zI_s e with ⟨q1, e⟩ | ⟨q1, e⟩
  · refine zF_blk (m := []) (d := 1) (b := B29_3) (gs := [¬ (h 324 0 0) = 0]) (c' := (22, [some (15, 0)], [], (h, hm, o))) K29_3 rfl ⟨q1, trivial⟩ ?_
    refine zF_blk (m := []) (d := 0) (b := B29_0) (gs := []) (c' := (23, [some (15, 0)], [(0, 0)], (h, hm, o))) K29_0 rfl trivial ?_
    obtain rfl := Option.some.inj e
    exact zF_rb (by decide +kernel) (Or.inl rfl)
  · refine zF_blk (m := []) (d := 0) (b := B29_3) (gs := [¬ (¬ (h 324 0 0) = 0)]) (c' := (7, [some (15, 0)], [], (h, hm, o))) K29_3 rfl ⟨q1, trivial⟩ ?_
    rcases zI_s e with ⟨q2, e⟩ | ⟨q2, e⟩
    · refine zF_blk (m := []) (d := 1) (b := B29_2) (gs := [(h 329 0 0) < (h 321 0 0)]) (c' := (22, [some (15, 0)], [], (h, hm, o))) K29_2 rfl ⟨q2, trivial⟩ ?_
      refine zF_blk (m := []) (d := 0) (b := B29_0) (gs := []) (c' := (23, [some (15, 0)], [(0, 0)], (h, hm, o))) K29_0 rfl trivial ?_
      obtain rfl := Option.some.inj e
      exact zF_rb (by decide +kernel) (Or.inl rfl)
    · refine zF_blk (m := []) (d := 0) (b := B29_2) (gs := [¬ ((h 329 0 0) < (h 321 0 0))]) (c' := (18, [some (15, 0)], [], (h, hm, o))) K29_2 rfl ⟨q2, trivial⟩ ?_
      refine zF_blk (m := []) (d := 0) (b := B29_1) (gs := []) (c' := (23, [some (15, 0)], [(0, 1)], (h, hm, o))) K29_1 rfl trivial ?_
      obtain rfl := Option.some.inj e
      exact zF_rb (by decide +kernel) (Or.inr rfl)
def B31_0 : List zRow := [(0, .aload_n 0, 1, (0, 0, 0)), (1, .iload_n 1, 1, (0, 0, 0)), (2, .putfield 48, 3, (5, 2, 0)), (5, .aload_n 0, 1, (0, 0, 0)), (6, .aload_n 0, 1, (0, 0, 0)), (7, .getfield 67, 3, (5, 5, 0)), (10, .putfield 51, 3, (5, 3, 0)), (13, .iconst 0, 1, (0, 0, 0))]
theorem K31_0 : zRk 31 B31_0 = true := by decide +kernel
/-- EchoVale$Reader.refuse(I)Z -/
def F31 (v1 : Int) (h : zHC) : Option (Int × zHC) := some (0, (hset (hset h 322 0 0 v1) 323 0 0 (h 325 0 0)))
set_option maxRecDepth 100000 in
theorem S31 {spec : zRn zH2} {hm : zHM} {o : Int → Int} {d : Nat} (hd : 1 ≤ d) (v1 : Int) (h : zHC) (v : (Int × zHC)) (e : F31 v1 h = some v) : zRu2 spec d 31 [(15, 0), (0, v1)] (h, hm, o) (some (0, v.1)) (v.2, hm, o) := by
  refine zF_in (D := 0) (mx := 2) (L := [some (15, 0), some (0, v1)]) (by decide +kernel) rfl rfl hd (fun d hd => ?_)
  unfold F31 at e
  refine zF_blk (m := []) (d := 0) (b := B31_0) (gs := []) (c' := (14, [some (15, 0), some (0, v1)], [(0, 0)], ((hset (hset h 322 0 0 v1) 323 0 0 (h 325 0 0)), hm, o))) K31_0 rfl trivial ?_
  exact zF_rbC (by decide +kernel) (Or.inl rfl) e
def B33_0 : List zRow := [(22, .aload_n 0, 1, (0, 0, 0)), (23, .getfield 82, 3, (5, 6, 0)), (26, .iload_n 2, 1, (0, 0, 0)), (27, .if_icmp .le 11, 3, (0, 0, 0))]
theorem K33_0 : zRk 33 B33_0 = true := by decide +kernel
def B33_1 : List zRow := [(14, .aload_n 0, 1, (0, 0, 0)), (15, .getfield 82, 3, (5, 6, 0)), (18, .iload_n 1, 1, (0, 0, 0)), (19, .if_icmp .lt 11, 3, (0, 0, 0))]
theorem K33_1 : zRk 33 B33_1 = true := by decide +kernel
def B33_2 : List zRow := [(8, .aload_n 0, 1, (0, 0, 0)), (9, .iconst 1, 1, (0, 0, 0))]
theorem K33_2 : zRk 33 B33_2 = true := by decide +kernel
def B33_3 : List zRow := [(0, .aload_n 0, 1, (0, 0, 0)), (1, .getfield 70, 3, (5, 4, 0)), (4, .iconst 4, 1, (0, 0, 0)), (5, .if_icmp .eq 9, 3, (0, 0, 0))]
theorem K33_3 : zRk 33 B33_3 = true := by decide +kernel
def B33_4 : List zRow := [(38, .iconst 1, 1, (0, 0, 0)), (39, .goto 4, 3, (0, 0, 0))]
theorem K33_4 : zRk 33 B33_4 = true := by decide +kernel
def B33_5 : List zRow := [(30, .aload_n 0, 1, (0, 0, 0)), (31, .iconst 2, 1, (0, 0, 0))]
theorem K33_5 : zRk 33 B33_5 = true := by decide +kernel
def B33_6 : List zRow := [(42, .iconst 0, 1, (0, 0, 0))]
theorem K33_6 : zRk 33 B33_6 = true := by decide +kernel
def B33_7 : List zRow := [(35, .ifCond .eq 7, 3, (0, 0, 0))]
theorem K33_7 : zRk 33 B33_7 = true := by decide +kernel
def F33_1 (h : zHC) : Option (Int × zHC) := some (1, h)
set_option maxRecDepth 100000 in
theorem T33_1 {spec : zRn zH2} {hm : zHM} {o : Int → Int} {d : Nat} (hd : 1 ≤ d) (h : zHC) (v : (Int × zHC)) (e : F33_1 h = some v) : zFin 0 (fun _ => 0) (zRu2 spec d) 33 (some (0, v.1)) (v.2, hm, o) (38, [none, none, none], [], (h, hm, o)) := by
  unfold F33_1 at e
  refine zF_blk (m := []) (d := 0) (b := B33_4) (gs := []) (c' := (43, [none, none, none], [(0, 1)], (h, hm, o))) K33_4 rfl trivial ?_
  exact zF_rbC (by decide +kernel) (Or.inr rfl) e
def F33_0 (h : zHC) : Option (Int × zHC) := (F31 2 h).bind fun r1 => if r1.1 = 0 then some (0, r1.2) else F33_1 r1.2
set_option maxRecDepth 100000 in
theorem T33_0 {spec : zRn zH2} {hm : zHM} {o : Int → Int} {d : Nat} (hd : 1 ≤ d) (h : zHC) (v : (Int × zHC)) (e : F33_0 h = some v) : zFin 0 (fun _ => 0) (zRu2 spec d) 33 (some (0, v.1)) (v.2, hm, o) (30, [some (15, 0), none, none], [], (h, hm, o)) := by
  unfold F33_0 at e
  obtain ⟨r1, q1, e⟩ := zB_s e
  refine zF_blk (m := []) (d := 0) (b := B33_5) (gs := []) (c' := (32, [some (15, 0), none, none], [(0, 2), (15, 0)], (h, hm, o))) K33_5 rfl trivial ?_
  refine zF_call (k := 31) (cl := 5) (n := 2) (i := .invokevirtual 96) (args := [(15, 0), (0, 2)]) (rest := []) (g1 := (r1.2, hm, o)) (r1 := some (0, r1.1)) (by decide +kernel) rfl rfl rfl (st' := [(0, r1.1)]) rfl (S31 (Nat.le_trans (by decide) hd) 2 h _ q1) ?_
  rcases zI_s e with ⟨q2, e⟩ | ⟨q2, e⟩
  · refine zF_blk (m := []) (d := 1) (b := B33_7) (gs := [r1.1 = 0]) (c' := (42, [some (15, 0), none, none], [], (r1.2, hm, o))) K33_7 rfl ⟨q2, trivial⟩ ?_
    refine zF_blk (m := []) (d := 0) (b := B33_6) (gs := []) (c' := (43, [some (15, 0), none, none], [(0, 0)], (r1.2, hm, o))) K33_6 rfl trivial ?_
    exact zF_rbC (by decide +kernel) (Or.inl rfl) e
  · refine zF_blk (m := []) (d := 0) (b := B33_7) (gs := [¬ (r1.1 = 0)]) (c' := (38, [some (15, 0), none, none], [], (r1.2, hm, o))) K33_7 rfl ⟨q2, trivial⟩ ?_
    refine zF_blk (m := [false, false, false]) (d := 0) (b := []) (gs := []) (c' := (38, [none, none, none], [], (r1.2, hm, o))) rfl rfl trivial ?_
    exact T33_1 hd r1.2 _ e
/-- EchoVale$Reader.isNumber(II)Z -/
def F33 (v1 : Int) (v2 : Int) (h : zHC) : Option (Int × zHC) := if (h 324 0 0) = 4 then if (h 326 0 0) < v1 then F33_0 h else if (h 326 0 0) ≤ v2 then F33_1 h else F33_0 h else (F31 1 h).bind fun r1 => zG (r1.1 = 0 ∨ r1.1 = 1) (some (r1.1, r1.2))
set_option maxRecDepth 100000 in
theorem S33 {spec : zRn zH2} {hm : zHM} {o : Int → Int} {d : Nat} (hd : 2 ≤ d) (v1 : Int) (v2 : Int) (h : zHC) (v : (Int × zHC)) (e : F33 v1 v2 h = some v) : zRu2 spec d 33 [(15, 0), (0, v1), (0, v2)] (h, hm, o) (some (0, v.1)) (v.2, hm, o) := by
  refine zF_in (D := 1) (mx := 3) (L := [some (15, 0), some (0, v1), some (0, v2)]) (by decide +kernel) rfl rfl hd (fun d hd => ?_)
  unfold F33 at e
  rcases zI_s e with ⟨q1, e⟩ | ⟨q1, e⟩
  · refine zF_blk (m := []) (d := 1) (b := B33_3) (gs := [(h 324 0 0) = 4]) (c' := (14, [some (15, 0), some (0, v1), some (0, v2)], [], (h, hm, o))) K33_3 rfl ⟨q1, trivial⟩ ?_
    rcases zI_s e with ⟨q2, e⟩ | ⟨q2, e⟩
    · refine zF_blk (m := []) (d := 1) (b := B33_1) (gs := [(h 326 0 0) < v1]) (c' := (30, [some (15, 0), some (0, v1), some (0, v2)], [], (h, hm, o))) K33_1 rfl ⟨q2, trivial⟩ ?_
      refine zF_blk (m := [true, false, false]) (d := 0) (b := []) (gs := []) (c' := (30, [some (15, 0), none, none], [], (h, hm, o))) rfl rfl trivial ?_
      exact T33_0 hd h _ e
    · refine zF_blk (m := []) (d := 0) (b := B33_1) (gs := [¬ ((h 326 0 0) < v1)]) (c' := (22, [some (15, 0), some (0, v1), some (0, v2)], [], (h, hm, o))) K33_1 rfl ⟨q2, trivial⟩ ?_
      rcases zI_s e with ⟨q3, e⟩ | ⟨q3, e⟩
      · refine zF_blk (m := []) (d := 1) (b := B33_0) (gs := [(h 326 0 0) ≤ v2]) (c' := (38, [some (15, 0), some (0, v1), some (0, v2)], [], (h, hm, o))) K33_0 rfl ⟨q3, trivial⟩ ?_
        refine zF_blk (m := [false, false, false]) (d := 0) (b := []) (gs := []) (c' := (38, [none, none, none], [], (h, hm, o))) rfl rfl trivial ?_
        exact T33_1 hd h _ e
      · refine zF_blk (m := []) (d := 0) (b := B33_0) (gs := [¬ ((h 326 0 0) ≤ v2)]) (c' := (30, [some (15, 0), some (0, v1), some (0, v2)], [], (h, hm, o))) K33_0 rfl ⟨q3, trivial⟩ ?_
        refine zF_blk (m := [true, false, false]) (d := 0) (b := []) (gs := []) (c' := (30, [some (15, 0), none, none], [], (h, hm, o))) rfl rfl trivial ?_
        exact T33_0 hd h _ e
  · refine zF_blk (m := []) (d := 0) (b := B33_3) (gs := [¬ ((h 324 0 0) = 4)]) (c' := (8, [some (15, 0), some (0, v1), some (0, v2)], [], (h, hm, o))) K33_3 rfl ⟨q1, trivial⟩ ?_
    obtain ⟨r1, q4, e⟩ := zB_s e
    refine zF_blk (m := []) (d := 0) (b := B33_2) (gs := []) (c' := (10, [some (15, 0), some (0, v1), some (0, v2)], [(0, 1), (15, 0)], (h, hm, o))) K33_2 rfl trivial ?_
    refine zF_call (k := 31) (cl := 5) (n := 2) (i := .invokevirtual 96) (args := [(15, 0), (0, 1)]) (rest := []) (g1 := (r1.2, hm, o)) (r1 := some (0, r1.1)) (by decide +kernel) rfl rfl rfl (st' := [(0, r1.1)]) rfl (S31 (Nat.le_trans (by decide) hd) 1 h _ q4) ?_
    obtain ⟨q5, e⟩ := zG_s e
    exact zF_rbC (by decide +kernel) q5 e
def B32_0 : List zRow := [(19, .aload_n 0, 1, (0, 0, 0)), (20, .getfield 18, 3, (10, 2, 23))]
theorem K32_0 : zRk 32 B32_0 = true := by decide +kernel
def B32_1 : List zRow := [(26, .aload_n 0, 1, (0, 0, 0)), (27, .getfield 18, 3, (10, 2, 23)), (30, .iconst 2, 1, (0, 0, 0)), (31, .bipush 10, 2, (0, 0, 0))]
theorem K32_1 : zRk 32 B32_1 = true := by decide +kernel
def B32_2 : List zRow := [(41, .aload_n 0, 1, (0, 0, 0)), (42, .getfield 18, 3, (10, 2, 23)), (45, .getfield 52, 3, (5, 6, 0)), (48, .istore_n 1, 1, (0, 0, 0)), (49, .aload_n 0, 1, (0, 0, 0)), (50, .getfield 18, 3, (10, 2, 23))]
theorem K32_2 : zRk 32 B32_2 = true := by decide +kernel
def B32_3 : List zRow := [(56, .aload_n 0, 1, (0, 0, 0)), (57, .getfield 18, 3, (10, 2, 23)), (60, .iconst 2, 1, (0, 0, 0)), (61, .bipush 10, 2, (0, 0, 0))]
theorem K32_3 : zRk 32 B32_3 = true := by decide +kernel
def B32_4 : List zRow := [(71, .aload_n 0, 1, (0, 0, 0)), (72, .getfield 12, 3, (10, 0, 167)), (75, .iload_n 1, 1, (0, 0, 0)), (76, .putfield 76, 3, (9, 0, 0)), (79, .aload_n 0, 1, (0, 0, 0)), (80, .getfield 12, 3, (10, 0, 167)), (83, .aload_n 0, 1, (0, 0, 0)), (84, .getfield 18, 3, (10, 2, 23)), (87, .getfield 52, 3, (5, 6, 0)), (90, .putfield 86, 3, (9, 1, 0)), (93, .aload_n 0, 1, (0, 0, 0)), (94, .getfield 18, 3, (10, 2, 23))]
theorem K32_4 : zRk 32 B32_4 = true := by decide +kernel
def B32_5 : List zRow := [(100, .iconst 1, 1, (0, 0, 0))]
theorem K32_5 : zRk 32 B32_5 = true := by decide +kernel
def B32_6 : List zRow := [(69, .iconst 0, 1, (0, 0, 0))]
theorem K32_6 : zRk 32 B32_6 = true := by decide +kernel
def B32_7 : List zRow := [(66, .ifCond .ne 5, 3, (0, 0, 0))]
theorem K32_7 : zRk 32 B32_7 = true := by decide +kernel
def B32_8 : List zRow := [(39, .iconst 0, 1, (0, 0, 0))]
theorem K32_8 : zRk 32 B32_8 = true := by decide +kernel
def B32_9 : List zRow := [(36, .ifCond .ne 5, 3, (0, 0, 0))]
theorem K32_9 : zRk 32 B32_9 = true := by decide +kernel
def B32_10 : List zRow := [(10, .aload_n 0, 1, (0, 0, 0)), (11, .getfield 18, 3, (10, 2, 23)), (14, .iconst 3, 1, (0, 0, 0))]
theorem K32_10 : zRk 32 B32_10 = true := by decide +kernel
def B32_11 : List zRow := [(0, .aload_n 0, 1, (0, 0, 0)), (1, .getfield 12, 3, (10, 0, 167)), (4, .getfield 76, 3, (9, 0, 0)), (7, .ifCond .le 12, 3, (0, 0, 0))]
theorem K32_11 : zRk 32 B32_11 = true := by decide +kernel
/-- EchoVale$ValleyText.readLand()Z -/
def F32 (h : zHC) : Option (Int × zHC) := if (h 576 1 0) ≤ 0 then (F21 h).bind fun r1 => (F33 2 10 r1).bind fun r2 => if ¬ r2.1 = 0 then (F21 r2.2).bind fun r3 => (F33 2 10 r3).bind fun r4 => if ¬ r4.1 = 0 then (F21 (hset (hset r4.2 576 1 0 (r2.2 326 0 0)) 577 1 0 (r4.2 326 0 0))).bind fun r5 => some (1, r5) else some (0, r4.2) else some (0, r2.2) else (F31 3 h).bind fun r6 => zG (r6.1 = 0 ∨ r6.1 = 1) (some (r6.1, r6.2))
set_option maxRecDepth 100000 in
theorem S32 {spec : zRn zH2} {hm : zHM} {o : Int → Int} {d : Nat} (hd : 4 ≤ d) (h : zHC) (v : (Int × zHC)) (e : F32 h = some v) : zRu2 spec d 32 [(20, 0)] (h, hm, o) (some (0, v.1)) (v.2, hm, o) := by
  refine zF_in (D := 3) (mx := 2) (L := [some (20, 0), none]) (by decide +kernel) rfl rfl hd (fun d hd => ?_)
  unfold F32 at e
  rcases zI_s e with ⟨q1, e⟩ | ⟨q1, e⟩
  · refine zF_blk (m := []) (d := 1) (b := B32_11) (gs := [(h 576 1 0) ≤ 0]) (c' := (19, [some (20, 0), none], [], (h, hm, o))) K32_11 rfl ⟨q1, trivial⟩ ?_
    obtain ⟨r1, q2, e⟩ := zB_s e
    refine zF_blk (m := []) (d := 0) (b := B32_0) (gs := []) (c' := (23, [some (20, 0), none], [(15, 0)], (h, hm, o))) K32_0 rfl trivial ?_
    refine zF_call (k := 21) (cl := 5) (n := 1) (i := .invokevirtual 79) (args := [(15, 0)]) (rest := []) (g1 := (r1, hm, o)) (r1 := none) (by decide +kernel) rfl rfl rfl (st' := []) rfl (S21 (Nat.le_trans (by decide) hd)  h _ q2) ?_
    obtain ⟨r2, q3, e⟩ := zB_s e
    refine zF_blk (m := []) (d := 0) (b := B32_1) (gs := []) (c' := (33, [some (20, 0), none], [(0, 10), (0, 2), (15, 0)], (r1, hm, o))) K32_1 rfl trivial ?_
    refine zF_call (k := 33) (cl := 5) (n := 3) (i := .invokevirtual 82) (args := [(15, 0), (0, 2), (0, 10)]) (rest := []) (g1 := (r2.2, hm, o)) (r1 := some (0, r2.1)) (by decide +kernel) rfl rfl rfl (st' := [(0, r2.1)]) rfl (S33 (Nat.le_trans (by decide) hd) 2 10 r1 _ q3) ?_
    rcases zI_s e with ⟨q4, e⟩ | ⟨q4, e⟩
    · refine zF_blk (m := []) (d := 1) (b := B32_9) (gs := [¬ r2.1 = 0]) (c' := (41, [some (20, 0), none], [], (r2.2, hm, o))) K32_9 rfl ⟨q4, trivial⟩ ?_
      obtain ⟨r3, q5, e⟩ := zB_s e
      refine zF_blk (m := []) (d := 0) (b := B32_2) (gs := []) (c' := (53, [some (20, 0), some (0, (r2.2 326 0 0))], [(15, 0)], (r2.2, hm, o))) K32_2 rfl trivial ?_
      refine zF_call (k := 21) (cl := 5) (n := 1) (i := .invokevirtual 79) (args := [(15, 0)]) (rest := []) (g1 := (r3, hm, o)) (r1 := none) (by decide +kernel) rfl rfl rfl (st' := []) rfl (S21 (Nat.le_trans (by decide) hd)  r2.2 _ q5) ?_
      obtain ⟨r4, q6, e⟩ := zB_s e
      refine zF_blk (m := []) (d := 0) (b := B32_3) (gs := []) (c' := (63, [some (20, 0), some (0, (r2.2 326 0 0))], [(0, 10), (0, 2), (15, 0)], (r3, hm, o))) K32_3 rfl trivial ?_
      refine zF_call (k := 33) (cl := 5) (n := 3) (i := .invokevirtual 82) (args := [(15, 0), (0, 2), (0, 10)]) (rest := []) (g1 := (r4.2, hm, o)) (r1 := some (0, r4.1)) (by decide +kernel) rfl rfl rfl (st' := [(0, r4.1)]) rfl (S33 (Nat.le_trans (by decide) hd) 2 10 r3 _ q6) ?_
      rcases zI_s e with ⟨q7, e⟩ | ⟨q7, e⟩
      · refine zF_blk (m := []) (d := 1) (b := B32_7) (gs := [¬ r4.1 = 0]) (c' := (71, [some (20, 0), some (0, (r2.2 326 0 0))], [], (r4.2, hm, o))) K32_7 rfl ⟨q7, trivial⟩ ?_
        obtain ⟨r5, q8, e⟩ := zB_s e
        refine zF_blk (m := []) (d := 0) (b := B32_4) (gs := []) (c' := (97, [some (20, 0), some (0, (r2.2 326 0 0))], [(15, 0)], ((hset (hset r4.2 576 1 0 (r2.2 326 0 0)) 577 1 0 (r4.2 326 0 0)), hm, o))) K32_4 rfl trivial ?_
        refine zF_call (k := 21) (cl := 5) (n := 1) (i := .invokevirtual 79) (args := [(15, 0)]) (rest := []) (g1 := (r5, hm, o)) (r1 := none) (by decide +kernel) rfl rfl rfl (st' := []) rfl (S21 (Nat.le_trans (by decide) hd)  (hset (hset r4.2 576 1 0 (r2.2 326 0 0)) 577 1 0 (r4.2 326 0 0)) _ q8) ?_
        refine zF_blk (m := []) (d := 0) (b := B32_5) (gs := []) (c' := (101, [some (20, 0), some (0, (r2.2 326 0 0))], [(0, 1)], (r5, hm, o))) K32_5 rfl trivial ?_
        exact zF_rbC (by decide +kernel) (Or.inr rfl) e
      · refine zF_blk (m := []) (d := 0) (b := B32_7) (gs := [¬ (¬ r4.1 = 0)]) (c' := (69, [some (20, 0), some (0, (r2.2 326 0 0))], [], (r4.2, hm, o))) K32_7 rfl ⟨q7, trivial⟩ ?_
        refine zF_blk (m := []) (d := 0) (b := B32_6) (gs := []) (c' := (70, [some (20, 0), some (0, (r2.2 326 0 0))], [(0, 0)], (r4.2, hm, o))) K32_6 rfl trivial ?_
        exact zF_rbC (by decide +kernel) (Or.inl rfl) e
    · refine zF_blk (m := []) (d := 0) (b := B32_9) (gs := [¬ (¬ r2.1 = 0)]) (c' := (39, [some (20, 0), none], [], (r2.2, hm, o))) K32_9 rfl ⟨q4, trivial⟩ ?_
      refine zF_blk (m := []) (d := 0) (b := B32_8) (gs := []) (c' := (40, [some (20, 0), none], [(0, 0)], (r2.2, hm, o))) K32_8 rfl trivial ?_
      exact zF_rbC (by decide +kernel) (Or.inl rfl) e
  · refine zF_blk (m := []) (d := 0) (b := B32_11) (gs := [¬ ((h 576 1 0) ≤ 0)]) (c' := (10, [some (20, 0), none], [], (h, hm, o))) K32_11 rfl ⟨q1, trivial⟩ ?_
    obtain ⟨r6, q9, e⟩ := zB_s e
    refine zF_blk (m := []) (d := 0) (b := B32_10) (gs := []) (c' := (15, [some (20, 0), none], [(0, 3), (15, 0)], (h, hm, o))) K32_10 rfl trivial ?_
    refine zF_call (k := 31) (cl := 5) (n := 2) (i := .invokevirtual 49) (args := [(15, 0), (0, 3)]) (rest := []) (g1 := (r6.2, hm, o)) (r1 := some (0, r6.1)) (by decide +kernel) rfl rfl rfl (st' := [(0, r6.1)]) rfl (S31 (Nat.le_trans (by decide) hd) 3 h _ q9) ?_
    obtain ⟨q10, e⟩ := zG_s e
    exact zF_rbC (by decide +kernel) q10 e
