/-! Functions of the methods, by wip/gen/lift.py. -/
def B58_0 : List zRow := [(19, .iconst 0, 1, (0, 0, 0))]
theorem K58_0 : zRk 58 B58_0 = true := by decide +kernel
def B58_1 : List zRow := [(15, .iconst 1, 1, (0, 0, 0)), (16, .goto 4, 3, (0, 0, 0))]
theorem K58_1 : zRk 58 B58_1 = true := by decide +kernel
def B58_2 : List zRow := [(4, .iload_n 1, 1, (0, 0, 0)), (5, .aload_n 0, 1, (0, 0, 0)), (6, .getfield 56, 3, (11, 6, 7)), (9, .getfield 354, 3, (1, 1, 0)), (12, .if_icmp .ge 7, 3, (0, 0, 0))]
theorem K58_2 : zRk 58 B58_2 = true := by decide +kernel
def B58_3 : List zRow := [(0, .iload_n 1, 1, (0, 0, 0)), (1, .ifCond .lt 18, 3, (0, 0, 0))]
theorem K58_3 : zRk 58 B58_3 = true := by decide +kernel
/-- EchoVale.isSaying(I)Z -/
def F58 (v1 : Int) (h : zHC) : Option Int := if v1 < 0 then some 0 else if (h 65 0 0) ≤ v1 then some 0 else some 1
set_option maxRecDepth 100000 in
theorem S58 {spec : zRn zH2} {hm : zHM} {o : Int → Int} {d : Nat} (hd : 1 ≤ d) (v1 : Int) (h : zHC) (v : Int) (e : F58 v1 h = some v) : zRu2 spec d 58 [(21, 0), (0, v1)] (h, hm, o) (some (0, v)) (h, hm, o) := by
  refine zF_in (D := 0) (mx := 2) (L := [some (21, 0), some (0, v1)]) (by decide +kernel) rfl rfl hd (fun d hd => ?_)
  unfold F58 at e
  rcases zI_s e with ⟨q1, e⟩ | ⟨q1, e⟩
  · refine zF_blk (m := []) (d := 1) (b := B58_3) (gs := [v1 < 0]) (c' := (19, [some (21, 0), some (0, v1)], [], (h, hm, o))) K58_3 rfl ⟨q1, trivial⟩ ?_
    refine zF_blk (m := []) (d := 0) (b := B58_0) (gs := []) (c' := (20, [some (21, 0), some (0, v1)], [(0, 0)], (h, hm, o))) K58_0 rfl trivial ?_
    obtain rfl := Option.some.inj e
    exact zF_rb (by decide +kernel) (Or.inl rfl)
  · refine zF_blk (m := []) (d := 0) (b := B58_3) (gs := [¬ (v1 < 0)]) (c' := (4, [some (21, 0), some (0, v1)], [], (h, hm, o))) K58_3 rfl ⟨q1, trivial⟩ ?_
    rcases zI_s e with ⟨q2, e⟩ | ⟨q2, e⟩
    · refine zF_blk (m := []) (d := 1) (b := B58_2) (gs := [(h 65 0 0) ≤ v1]) (c' := (19, [some (21, 0), some (0, v1)], [], (h, hm, o))) K58_2 rfl ⟨q2, trivial⟩ ?_
      refine zF_blk (m := []) (d := 0) (b := B58_0) (gs := []) (c' := (20, [some (21, 0), some (0, v1)], [(0, 0)], (h, hm, o))) K58_0 rfl trivial ?_
      obtain rfl := Option.some.inj e
      exact zF_rb (by decide +kernel) (Or.inl rfl)
    · refine zF_blk (m := []) (d := 0) (b := B58_2) (gs := [¬ ((h 65 0 0) ≤ v1)]) (c' := (15, [some (21, 0), some (0, v1)], [], (h, hm, o))) K58_2 rfl ⟨q2, trivial⟩ ?_
      refine zF_blk (m := []) (d := 0) (b := B58_1) (gs := []) (c' := (20, [some (21, 0), some (0, v1)], [(0, 1)], (h, hm, o))) K58_1 rfl trivial ?_
      obtain rfl := Option.some.inj e
      exact zF_rb (by decide +kernel) (Or.inr rfl)
def B59_0 : List zRow := [(19, .iconst 0, 1, (0, 0, 0))]
theorem K59_0 : zRk 59 B59_0 = true := by decide +kernel
def B59_1 : List zRow := [(15, .iconst 1, 1, (0, 0, 0)), (16, .goto 4, 3, (0, 0, 0))]
theorem K59_1 : zRk 59 B59_1 = true := by decide +kernel
def B59_2 : List zRow := [(4, .iload_n 1, 1, (0, 0, 0)), (5, .aload_n 0, 1, (0, 0, 0)), (6, .getfield 19, 3, (11, 1, 39)), (9, .getfield 282, 3, (9, 2, 0)), (12, .if_icmp .ge 7, 3, (0, 0, 0))]
theorem K59_2 : zRk 59 B59_2 = true := by decide +kernel
def B59_3 : List zRow := [(0, .iload_n 1, 1, (0, 0, 0)), (1, .ifCond .lt 18, 3, (0, 0, 0))]
theorem K59_3 : zRk 59 B59_3 = true := by decide +kernel
/-- EchoVale.isCliff(I)Z -/
def F59 (v1 : Int) (h : zHC) : Option Int := if v1 < 0 then some 0 else if (h 578 0 0) ≤ v1 then some 0 else some 1
set_option maxRecDepth 100000 in
theorem S59 {spec : zRn zH2} {hm : zHM} {o : Int → Int} {d : Nat} (hd : 1 ≤ d) (v1 : Int) (h : zHC) (v : Int) (e : F59 v1 h = some v) : zRu2 spec d 59 [(21, 0), (0, v1)] (h, hm, o) (some (0, v)) (h, hm, o) := by
  refine zF_in (D := 0) (mx := 2) (L := [some (21, 0), some (0, v1)]) (by decide +kernel) rfl rfl hd (fun d hd => ?_)
  unfold F59 at e
  rcases zI_s e with ⟨q1, e⟩ | ⟨q1, e⟩
  · refine zF_blk (m := []) (d := 1) (b := B59_3) (gs := [v1 < 0]) (c' := (19, [some (21, 0), some (0, v1)], [], (h, hm, o))) K59_3 rfl ⟨q1, trivial⟩ ?_
    refine zF_blk (m := []) (d := 0) (b := B59_0) (gs := []) (c' := (20, [some (21, 0), some (0, v1)], [(0, 0)], (h, hm, o))) K59_0 rfl trivial ?_
    obtain rfl := Option.some.inj e
    exact zF_rb (by decide +kernel) (Or.inl rfl)
  · refine zF_blk (m := []) (d := 0) (b := B59_3) (gs := [¬ (v1 < 0)]) (c' := (4, [some (21, 0), some (0, v1)], [], (h, hm, o))) K59_3 rfl ⟨q1, trivial⟩ ?_
    rcases zI_s e with ⟨q2, e⟩ | ⟨q2, e⟩
    · refine zF_blk (m := []) (d := 1) (b := B59_2) (gs := [(h 578 0 0) ≤ v1]) (c' := (19, [some (21, 0), some (0, v1)], [], (h, hm, o))) K59_2 rfl ⟨q2, trivial⟩ ?_
      refine zF_blk (m := []) (d := 0) (b := B59_0) (gs := []) (c' := (20, [some (21, 0), some (0, v1)], [(0, 0)], (h, hm, o))) K59_0 rfl trivial ?_
      obtain rfl := Option.some.inj e
      exact zF_rb (by decide +kernel) (Or.inl rfl)
    · refine zF_blk (m := []) (d := 0) (b := B59_2) (gs := [¬ ((h 578 0 0) ≤ v1)]) (c' := (15, [some (21, 0), some (0, v1)], [], (h, hm, o))) K59_2 rfl ⟨q2, trivial⟩ ?_
      refine zF_blk (m := []) (d := 0) (b := B59_1) (gs := []) (c' := (20, [some (21, 0), some (0, v1)], [(0, 1)], (h, hm, o))) K59_1 rfl trivial ?_
      obtain rfl := Option.some.inj e
      exact zF_rb (by decide +kernel) (Or.inr rfl)
def B57_0 : List zRow := [(0, .aload_n 0, 1, (0, 0, 0)), (1, .iload_n 1, 1, (0, 0, 0))]
theorem K57_0 : zRk 57 B57_0 = true := by decide +kernel
def B57_1 : List zRow := [(16, .iconst (-1), 1, (0, 0, 0))]
theorem K57_1 : zRk 57 B57_1 = true := by decide +kernel
def B57_2 : List zRow := [(8, .aload_n 0, 1, (0, 0, 0)), (9, .iload_n 2, 1, (0, 0, 0))]
theorem K57_2 : zRk 57 B57_2 = true := by decide +kernel
def B57_3 : List zRow := [(44, .aload_n 0, 1, (0, 0, 0)), (45, .getfield 56, 3, (11, 6, 7)), (48, .getfield 199, 3, (1, 4, 5243602)), (51, .iload_n 1, 1, (0, 0, 0)), (52, .bipush 6, 2, (0, 0, 0)), (54, .imul, 1, (0, 0, 0)), (55, .iload_n 2, 1, (0, 0, 0)), (56, .iadd, 1, (0, 0, 0)), (57, .iaload, 1, (0, 0, 0))]
theorem K57_3 : zRk 57 B57_3 = true := by decide +kernel
def B57_4 : List zRow := [(18, .iload_n 3, 1, (0, 0, 0)), (19, .lookupswitch 77 #[(0, 25), (1, 40)], 25, (0, 0, 0))]
theorem K57_4 : zRk 57 B57_4 = true := by decide +kernel
def B57_5 : List zRow := [(81, .aload_n 0, 1, (0, 0, 0)), (82, .getfield 56, 3, (11, 6, 7)), (85, .getfield 202, 3, (1, 5, 5243602)), (88, .iload_n 1, 1, (0, 0, 0)), (89, .bipush 6, 2, (0, 0, 0)), (91, .imul, 1, (0, 0, 0)), (92, .iload_n 2, 1, (0, 0, 0)), (93, .iadd, 1, (0, 0, 0)), (94, .iaload, 1, (0, 0, 0))]
theorem K57_5 : zRk 57 B57_5 = true := by decide +kernel
def B57_6 : List zRow := [(77, .iconst (-1), 1, (0, 0, 0)), (78, .goto 17, 3, (0, 0, 0))]
theorem K57_6 : zRk 57 B57_6 = true := by decide +kernel
def B57_7 : List zRow := [(59, .aload_n 0, 1, (0, 0, 0)), (60, .getfield 56, 3, (11, 6, 7)), (63, .getfield 199, 3, (1, 4, 5243602)), (66, .iload_n 1, 1, (0, 0, 0)), (67, .bipush 6, 2, (0, 0, 0)), (69, .imul, 1, (0, 0, 0)), (70, .iload_n 2, 1, (0, 0, 0)), (71, .iadd, 1, (0, 0, 0)), (72, .iaload, 1, (0, 0, 0)), (73, .iconst (-1), 1, (0, 0, 0)), (74, .if_icmp .ne 7, 3, (0, 0, 0))]
theorem K57_7 : zRk 57 B57_7 = true := by decide +kernel
def B57_8 : List zRow := [(96, .iconst (-1), 1, (0, 0, 0))]
theorem K57_8 : zRk 57 B57_8 = true := by decide +kernel
def B57_9 : List zRow := [(13, .ifCond .ne 5, 3, (0, 0, 0))]
theorem K57_9 : zRk 57 B57_9 = true := by decide +kernel
def B57_10 : List zRow := [(5, .ifCond .eq 11, 3, (0, 0, 0))]
theorem K57_10 : zRk 57 B57_10 = true := by decide +kernel
/-- EchoVale.comes(III)I -/
def F57 (v1 : Int) (v2 : Int) (v3 : Int) (h : zHC) : Option Int := (F58 v1 h).bind fun r1 => if r1 = 0 then some (-1) else (F59 v2 h).bind fun r2 => if ¬ r2 = 0 then if v3 = 0 then zG (0 ≤ (wadd (wmul v1 6) v2) ∧ (wadd (wmul v1 6) v2) < 180) (some (h 68 0 (wadd (wmul v1 6) v2))) else if v3 = 1 then zG (0 ≤ (wadd (wmul v1 6) v2) ∧ (wadd (wmul v1 6) v2) < 180) (if ¬ (h 68 0 (wadd (wmul v1 6) v2)) = (-1) then zG (0 ≤ (wadd (wmul v1 6) v2) ∧ (wadd (wmul v1 6) v2) < 180) (some (h 69 0 (wadd (wmul v1 6) v2))) else some (-1)) else some (-1) else some (-1)
set_option maxRecDepth 100000 in
theorem S57 {spec : zRn zH2} {hm : zHM} {o : Int → Int} {d : Nat} (hd : 2 ≤ d) (v1 : Int) (v2 : Int) (v3 : Int) (h : zHC) (v : Int) (e : F57 v1 v2 v3 h = some v) : zRu2 spec d 57 [(21, 0), (0, v1), (0, v2), (0, v3)] (h, hm, o) (some (0, v)) (h, hm, o) := by
  refine zF_in (D := 1) (mx := 4) (L := [some (21, 0), some (0, v1), some (0, v2), some (0, v3)]) (by decide +kernel) rfl rfl hd (fun d hd => ?_)
  unfold F57 at e
  obtain ⟨r1, q1, e⟩ := zB_s e
  refine zF_blk (m := []) (d := 0) (b := B57_0) (gs := []) (c' := (2, [some (21, 0), some (0, v1), some (0, v2), some (0, v3)], [(0, v1), (21, 0)], (h, hm, o))) K57_0 rfl trivial ?_
  refine zF_call (k := 58) (cl := 11) (n := 2) (i := .invokevirtual 191) (args := [(21, 0), (0, v1)]) (rest := []) (g1 := (h, hm, o)) (r1 := some (0, r1)) (by decide +kernel) rfl rfl rfl (st' := [(0, r1)]) rfl (S58 (Nat.le_trans (by decide) hd) v1 h _ q1) ?_
  rcases zI_s e with ⟨q2, e⟩ | ⟨q2, e⟩
  · refine zF_blk (m := []) (d := 1) (b := B57_10) (gs := [r1 = 0]) (c' := (16, [some (21, 0), some (0, v1), some (0, v2), some (0, v3)], [], (h, hm, o))) K57_10 rfl ⟨q2, trivial⟩ ?_
    refine zF_blk (m := []) (d := 0) (b := B57_1) (gs := []) (c' := (17, [some (21, 0), some (0, v1), some (0, v2), some (0, v3)], [(0, (-1))], (h, hm, o))) K57_1 rfl trivial ?_
    obtain rfl := Option.some.inj e
    exact zF_ri (by decide +kernel)
  · refine zF_blk (m := []) (d := 0) (b := B57_10) (gs := [¬ (r1 = 0)]) (c' := (8, [some (21, 0), some (0, v1), some (0, v2), some (0, v3)], [], (h, hm, o))) K57_10 rfl ⟨q2, trivial⟩ ?_
    obtain ⟨r2, q3, e⟩ := zB_s e
    refine zF_blk (m := []) (d := 0) (b := B57_2) (gs := []) (c' := (10, [some (21, 0), some (0, v1), some (0, v2), some (0, v3)], [(0, v2), (21, 0)], (h, hm, o))) K57_2 rfl trivial ?_
    refine zF_call (k := 59) (cl := 11) (n := 2) (i := .invokevirtual 139) (args := [(21, 0), (0, v2)]) (rest := []) (g1 := (h, hm, o)) (r1 := some (0, r2)) (by decide +kernel) rfl rfl rfl (st' := [(0, r2)]) rfl (S59 (Nat.le_trans (by decide) hd) v2 h _ q3) ?_
    rcases zI_s e with ⟨q4, e⟩ | ⟨q4, e⟩
    · refine zF_blk (m := []) (d := 1) (b := B57_9) (gs := [¬ r2 = 0]) (c' := (18, [some (21, 0), some (0, v1), some (0, v2), some (0, v3)], [], (h, hm, o))) K57_9 rfl ⟨q4, trivial⟩ ?_
      rcases zI_s e with ⟨q5, e⟩ | ⟨q5, e⟩
      · refine zF_blk (m := []) (d := 0) (b := B57_4) (gs := [v3 = 0]) (c' := (44, [some (21, 0), some (0, v1), some (0, v2), some (0, v3)], [], (h, hm, o))) K57_4 rfl ⟨q5, trivial⟩ ?_
        obtain ⟨q6, e⟩ := zG_s e
        refine zF_blk (m := []) (d := 0) (b := B57_3) (gs := [0 ≤ (wadd (wmul v1 6) v2) ∧ (wadd (wmul v1 6) v2) < 180]) (c' := (58, [some (21, 0), some (0, v1), some (0, v2), some (0, v3)], [(0, (h 68 0 (wadd (wmul v1 6) v2)))], (h, hm, o))) K57_3 rfl ⟨q6, trivial⟩ ?_
        obtain rfl := Option.some.inj e
        exact zF_ri (by decide +kernel)
      rcases zI_s e with ⟨q7, e⟩ | ⟨q7, e⟩
      · refine zF_blk (m := []) (d := 1) (b := B57_4) (gs := [v3 = 1]) (c' := (59, [some (21, 0), some (0, v1), some (0, v2), some (0, v3)], [], (h, hm, o))) K57_4 rfl ⟨q7, trivial⟩ ?_
        obtain ⟨q8, e⟩ := zG_s e
        rcases zI_s e with ⟨q9, e⟩ | ⟨q9, e⟩
        · refine zF_blk (m := []) (d := 1) (b := B57_7) (gs := [0 ≤ (wadd (wmul v1 6) v2) ∧ (wadd (wmul v1 6) v2) < 180, ¬ (h 68 0 (wadd (wmul v1 6) v2)) = (-1)]) (c' := (81, [some (21, 0), some (0, v1), some (0, v2), some (0, v3)], [], (h, hm, o))) K57_7 rfl ⟨q8, q9, trivial⟩ ?_
          obtain ⟨q10, e⟩ := zG_s e
          refine zF_blk (m := []) (d := 0) (b := B57_5) (gs := [0 ≤ (wadd (wmul v1 6) v2) ∧ (wadd (wmul v1 6) v2) < 180]) (c' := (95, [some (21, 0), some (0, v1), some (0, v2), some (0, v3)], [(0, (h 69 0 (wadd (wmul v1 6) v2)))], (h, hm, o))) K57_5 rfl ⟨q10, trivial⟩ ?_
          obtain rfl := Option.some.inj e
          exact zF_ri (by decide +kernel)
        · refine zF_blk (m := []) (d := 0) (b := B57_7) (gs := [0 ≤ (wadd (wmul v1 6) v2) ∧ (wadd (wmul v1 6) v2) < 180, ¬ (¬ (h 68 0 (wadd (wmul v1 6) v2)) = (-1))]) (c' := (77, [some (21, 0), some (0, v1), some (0, v2), some (0, v3)], [], (h, hm, o))) K57_7 rfl ⟨q8, q9, trivial⟩ ?_
          refine zF_blk (m := []) (d := 0) (b := B57_6) (gs := []) (c' := (95, [some (21, 0), some (0, v1), some (0, v2), some (0, v3)], [(0, (-1))], (h, hm, o))) K57_6 rfl trivial ?_
          obtain rfl := Option.some.inj e
          exact zF_ri (by decide +kernel)
      refine zF_blk (m := []) (d := 2) (b := B57_4) (gs := [¬ v3 = 0, ¬ v3 = 1]) (c' := (96, [some (21, 0), some (0, v1), some (0, v2), some (0, v3)], [], (h, hm, o))) K57_4 rfl ⟨q5, q7, trivial⟩ ?_
      refine zF_blk (m := []) (d := 0) (b := B57_8) (gs := []) (c' := (97, [some (21, 0), some (0, v1), some (0, v2), some (0, v3)], [(0, (-1))], (h, hm, o))) K57_8 rfl trivial ?_
      obtain rfl := Option.some.inj e
      exact zF_ri (by decide +kernel)
    · refine zF_blk (m := []) (d := 0) (b := B57_9) (gs := [¬ (¬ r2 = 0)]) (c' := (16, [some (21, 0), some (0, v1), some (0, v2), some (0, v3)], [], (h, hm, o))) K57_9 rfl ⟨q4, trivial⟩ ?_
      refine zF_blk (m := []) (d := 0) (b := B57_1) (gs := []) (c' := (17, [some (21, 0), some (0, v1), some (0, v2), some (0, v3)], [(0, (-1))], (h, hm, o))) K57_1 rfl trivial ?_
      obtain rfl := Option.some.inj e
      exact zF_ri (by decide +kernel)
def B219_0 : List zRow := [(0, .aload_n 0, 1, (0, 0, 0)), (1, .getfield 13, 3, (12, 14, 5251442)), (4, .sipush 457, 3, (0, 0, 0)), (7, .bipush 18, 2, (0, 0, 0)), (9, .iload_n 1, 1, (0, 0, 0))]
theorem K219_0 : zRk 219 B219_0 = true := by decide +kernel
def B219_1 : List zRow := [(10, .imul, 1, (0, 0, 0))]
theorem K219_1 : zRk 219 B219_1 = true := by decide +kernel
def B219_2 : List zRow := [(11, .iadd, 1, (0, 0, 0)), (12, .iconst 3, 1, (0, 0, 0)), (13, .iload_n 2, 1, (0, 0, 0))]
theorem K219_2 : zRk 219 B219_2 = true := by decide +kernel
def B219_3 : List zRow := [(14, .imul, 1, (0, 0, 0)), (15, .iadd, 1, (0, 0, 0)), (16, .iload_n 3, 1, (0, 0, 0)), (17, .iadd, 1, (0, 0, 0)), (18, .iaload, 1, (0, 0, 0))]
theorem K219_3 : zRk 219 B219_3 = true := by decide +kernel
/-- EchoValeModel.comesAt(III)I -/
def F219 (v1 : Int) (v2 : Int) (v3 : Int) (h : zHM) : Option Int := zG (0 ≤ (wadd (wadd (wadd 457 (wmul 18 v1)) (wmul 3 v2)) v3) ∧ (wadd (wadd (wadd 457 (wmul 18 v1)) (wmul 3 v2)) v3) < 2140) (some (h 14 (wadd (wadd (wadd 457 (wmul 18 v1)) (wmul 3 v2)) v3)))
set_option maxRecDepth 100000 in
theorem S219 {spec : zRn zH2} {hc : zHC} {o : Int → Int} {d : Nat} (hd : 1 ≤ d) (v1 : Int) (v2 : Int) (v3 : Int) (h : zHM) (v : Int) (e : F219 v1 v2 v3 h = some v) : zRu2 spec d 219 [(22, 0), (0, v1), (0, v2), (0, v3)] (hc, h, o) (some (0, v)) (hc, h, o) := by
  refine zF_in (D := 0) (mx := 4) (L := [some (22, 0), some (0, v1), some (0, v2), some (0, v3)]) (by decide +kernel) rfl rfl hd (fun d hd => ?_)
  unfold F219 at e
  obtain ⟨q1, e⟩ := zG_s e
  refine zF_blk (m := []) (d := 0) (b := B219_0) (gs := []) (c' := (10, [some (22, 0), some (0, v1), some (0, v2), some (0, v3)], [(0, v1), (0, 18), (0, 457), (1344370422, 0)], (hc, h, o))) K219_0 rfl trivial ?_
  refine zF_blk (m := []) (d := 0) (b := B219_1) (gs := []) (c' := (11, [some (22, 0), some (0, v1), some (0, v2), some (0, v3)], [(0, (wmul 18 v1)), (0, 457), (1344370422, 0)], (hc, h, o))) K219_1 rfl trivial ?_
  refine zF_blk (m := []) (d := 0) (b := B219_2) (gs := []) (c' := (14, [some (22, 0), some (0, v1), some (0, v2), some (0, v3)], [(0, v2), (0, 3), (0, (wadd 457 (wmul 18 v1))), (1344370422, 0)], (hc, h, o))) K219_2 rfl trivial ?_
  refine zF_blk (m := []) (d := 0) (b := B219_3) (gs := [0 ≤ (wadd (wadd (wadd 457 (wmul 18 v1)) (wmul 3 v2)) v3) ∧ (wadd (wadd (wadd 457 (wmul 18 v1)) (wmul 3 v2)) v3) < 2140]) (c' := (19, [some (22, 0), some (0, v1), some (0, v2), some (0, v3)], [(0, (h 14 (wadd (wadd (wadd 457 (wmul 18 v1)) (wmul 3 v2)) v3)))], (hc, h, o))) K219_3 rfl ⟨q1, trivial⟩ ?_
  obtain rfl := Option.some.inj e
  exact zF_ri (by decide +kernel)
def B218_0 : List zRow := [(0, .aload_n 0, 1, (0, 0, 0)), (1, .iconst 0, 1, (0, 0, 0)), (2, .putfield 81, 3, (12, 0, 0)), (5, .aload_n 0, 1, (0, 0, 0)), (6, .iload_n 1, 1, (0, 0, 0))]
theorem K218_0 : zRk 218 B218_0 = true := by decide +kernel
def B218_1 : List zRow := [(50, .iconst (-1), 1, (0, 0, 0))]
theorem K218_1 : zRk 218 B218_1 = true := by decide +kernel
def B218_2 : List zRow := [(13, .aload_n 0, 1, (0, 0, 0)), (14, .iload_n 2, 1, (0, 0, 0))]
theorem K218_2 : zRk 218 B218_2 = true := by decide +kernel
def B218_3 : List zRow := [(21, .iload_n 3, 1, (0, 0, 0)), (22, .iconst 0, 1, (0, 0, 0)), (23, .iconst 1, 1, (0, 0, 0))]
theorem K218_3 : zRk 218 B218_3 = true := by decide +kernel
def B218_4 : List zRow := [(30, .aload_n 0, 1, (0, 0, 0)), (31, .iload_n 1, 1, (0, 0, 0)), (32, .iload_n 2, 1, (0, 0, 0)), (33, .iconst 0, 1, (0, 0, 0))]
theorem K218_4 : zRk 218 B218_4 = true := by decide +kernel
def B218_5 : List zRow := [(40, .aload_n 0, 1, (0, 0, 0)), (41, .iload_n 1, 1, (0, 0, 0)), (42, .iload_n 2, 1, (0, 0, 0)), (43, .iload_n 3, 1, (0, 0, 0))]
theorem K218_5 : zRk 218 B218_5 = true := by decide +kernel
def B218_6 : List zRow := [(47, .goto 4, 3, (0, 0, 0))]
theorem K218_6 : zRk 218 B218_6 = true := by decide +kernel
def B218_7 : List zRow := [(37, .ifCond .le 13, 3, (0, 0, 0))]
theorem K218_7 : zRk 218 B218_7 = true := by decide +kernel
def B218_8 : List zRow := [(27, .ifCond .eq 23, 3, (0, 0, 0))]
theorem K218_8 : zRk 218 B218_8 = true := by decide +kernel
def B218_9 : List zRow := [(18, .ifCond .eq 32, 3, (0, 0, 0))]
theorem K218_9 : zRk 218 B218_9 = true := by decide +kernel
def B218_10 : List zRow := [(10, .ifCond .eq 40, 3, (0, 0, 0))]
theorem K218_10 : zRk 218 B218_10 = true := by decide +kernel
/-- EchoValeModel.comes(III)I -/
def F218 (v1 : Int) (v2 : Int) (v3 : Int) (h : zHM) : Option (Int × zHM) := (F217 v1 (mset h 0 0 0)).bind fun r1 => if r1 = 0 then some ((-1), (mset h 0 0 0)) else (F205 v2 (mset h 0 0 0)).bind fun r2 => if r2 = 0 then some ((-1), (mset h 0 0 0)) else (F188 v3 0 1).bind fun r3 => if r3 = 0 then some ((-1), (mset h 0 0 0)) else (F219 v1 v2 0 (mset h 0 0 0)).bind fun r4 => if r4 ≤ 0 then some ((-1), (mset h 0 0 0)) else (F219 v1 v2 v3 (mset h 0 0 0)).bind fun r5 => some (r5, (mset h 0 0 0))
set_option maxRecDepth 100000 in
theorem S218 {spec : zRn zH2} {hc : zHC} {o : Int → Int} {d : Nat} (hd : 2 ≤ d) (v1 : Int) (v2 : Int) (v3 : Int) (h : zHM) (v : (Int × zHM)) (e : F218 v1 v2 v3 h = some v) : zRu2 spec d 218 [(22, 0), (0, v1), (0, v2), (0, v3)] (hc, h, o) (some (0, v.1)) (hc, v.2, o) := by
  refine zF_in (D := 1) (mx := 4) (L := [some (22, 0), some (0, v1), some (0, v2), some (0, v3)]) (by decide +kernel) rfl rfl hd (fun d hd => ?_)
  unfold F218 at e
  obtain ⟨r1, q1, e⟩ := zB_s e
  refine zF_blk (m := []) (d := 0) (b := B218_0) (gs := []) (c' := (7, [some (22, 0), some (0, v1), some (0, v2), some (0, v3)], [(0, v1), (22, 0)], (hc, (mset h 0 0 0), o))) K218_0 rfl trivial ?_
  refine zF_call (k := 217) (cl := 12) (n := 2) (i := .invokevirtual 266) (args := [(22, 0), (0, v1)]) (rest := []) (g1 := (hc, (mset h 0 0 0), o)) (r1 := some (0, r1)) (by decide +kernel) rfl rfl rfl (st' := [(0, r1)]) rfl (S217 (Nat.le_trans (by decide) hd) v1 (mset h 0 0 0) _ q1) ?_
  rcases zI_s e with ⟨q2, e⟩ | ⟨q2, e⟩
  · refine zF_blk (m := []) (d := 1) (b := B218_10) (gs := [r1 = 0]) (c' := (50, [some (22, 0), some (0, v1), some (0, v2), some (0, v3)], [], (hc, (mset h 0 0 0), o))) K218_10 rfl ⟨q2, trivial⟩ ?_
    refine zF_blk (m := []) (d := 0) (b := B218_1) (gs := []) (c' := (51, [some (22, 0), some (0, v1), some (0, v2), some (0, v3)], [(0, (-1))], (hc, (mset h 0 0 0), o))) K218_1 rfl trivial ?_
    exact zF_riM (by decide +kernel) e
  · refine zF_blk (m := []) (d := 0) (b := B218_10) (gs := [¬ (r1 = 0)]) (c' := (13, [some (22, 0), some (0, v1), some (0, v2), some (0, v3)], [], (hc, (mset h 0 0 0), o))) K218_10 rfl ⟨q2, trivial⟩ ?_
    obtain ⟨r2, q3, e⟩ := zB_s e
    refine zF_blk (m := []) (d := 0) (b := B218_2) (gs := []) (c' := (15, [some (22, 0), some (0, v1), some (0, v2), some (0, v3)], [(0, v2), (22, 0)], (hc, (mset h 0 0 0), o))) K218_2 rfl trivial ?_
    refine zF_call (k := 205) (cl := 12) (n := 2) (i := .invokevirtual 235) (args := [(22, 0), (0, v2)]) (rest := []) (g1 := (hc, (mset h 0 0 0), o)) (r1 := some (0, r2)) (by decide +kernel) rfl rfl rfl (st' := [(0, r2)]) rfl (S205 (Nat.le_trans (by decide) hd) v2 (mset h 0 0 0) _ q3) ?_
    rcases zI_s e with ⟨q4, e⟩ | ⟨q4, e⟩
    · refine zF_blk (m := []) (d := 1) (b := B218_9) (gs := [r2 = 0]) (c' := (50, [some (22, 0), some (0, v1), some (0, v2), some (0, v3)], [], (hc, (mset h 0 0 0), o))) K218_9 rfl ⟨q4, trivial⟩ ?_
      refine zF_blk (m := []) (d := 0) (b := B218_1) (gs := []) (c' := (51, [some (22, 0), some (0, v1), some (0, v2), some (0, v3)], [(0, (-1))], (hc, (mset h 0 0 0), o))) K218_1 rfl trivial ?_
      exact zF_riM (by decide +kernel) e
    · refine zF_blk (m := []) (d := 0) (b := B218_9) (gs := [¬ (r2 = 0)]) (c' := (21, [some (22, 0), some (0, v1), some (0, v2), some (0, v3)], [], (hc, (mset h 0 0 0), o))) K218_9 rfl ⟨q4, trivial⟩ ?_
      obtain ⟨r3, q5, e⟩ := zB_s e
      refine zF_blk (m := []) (d := 0) (b := B218_3) (gs := []) (c' := (24, [some (22, 0), some (0, v1), some (0, v2), some (0, v3)], [(0, 1), (0, 0), (0, v3)], (hc, (mset h 0 0 0), o))) K218_3 rfl trivial ?_
      refine zF_call (k := 188) (cl := 12) (n := 3) (i := .invokestatic 151) (args := [(0, v3), (0, 0), (0, 1)]) (rest := []) (g1 := (hc, (mset h 0 0 0), o)) (r1 := some (0, r3)) (by decide +kernel) rfl rfl rfl (st' := [(0, r3)]) rfl (S188 (Nat.le_trans (by decide) hd) v3 0 1 (mset h 0 0 0) _ q5) ?_
      rcases zI_s e with ⟨q6, e⟩ | ⟨q6, e⟩
      · refine zF_blk (m := []) (d := 1) (b := B218_8) (gs := [r3 = 0]) (c' := (50, [some (22, 0), some (0, v1), some (0, v2), some (0, v3)], [], (hc, (mset h 0 0 0), o))) K218_8 rfl ⟨q6, trivial⟩ ?_
        refine zF_blk (m := []) (d := 0) (b := B218_1) (gs := []) (c' := (51, [some (22, 0), some (0, v1), some (0, v2), some (0, v3)], [(0, (-1))], (hc, (mset h 0 0 0), o))) K218_1 rfl trivial ?_
        exact zF_riM (by decide +kernel) e
      · refine zF_blk (m := []) (d := 0) (b := B218_8) (gs := [¬ (r3 = 0)]) (c' := (30, [some (22, 0), some (0, v1), some (0, v2), some (0, v3)], [], (hc, (mset h 0 0 0), o))) K218_8 rfl ⟨q6, trivial⟩ ?_
        obtain ⟨r4, q7, e⟩ := zB_s e
        refine zF_blk (m := []) (d := 0) (b := B218_4) (gs := []) (c' := (34, [some (22, 0), some (0, v1), some (0, v2), some (0, v3)], [(0, 0), (0, v2), (0, v1), (22, 0)], (hc, (mset h 0 0 0), o))) K218_4 rfl trivial ?_
        refine zF_call (k := 219) (cl := 12) (n := 4) (i := .invokevirtual 269) (args := [(22, 0), (0, v1), (0, v2), (0, 0)]) (rest := []) (g1 := (hc, (mset h 0 0 0), o)) (r1 := some (0, r4)) (by decide +kernel) rfl rfl rfl (st' := [(0, r4)]) rfl (S219 (Nat.le_trans (by decide) hd) v1 v2 0 (mset h 0 0 0) _ q7) ?_
        rcases zI_s e with ⟨q8, e⟩ | ⟨q8, e⟩
        · refine zF_blk (m := []) (d := 1) (b := B218_7) (gs := [r4 ≤ 0]) (c' := (50, [some (22, 0), some (0, v1), some (0, v2), some (0, v3)], [], (hc, (mset h 0 0 0), o))) K218_7 rfl ⟨q8, trivial⟩ ?_
          refine zF_blk (m := []) (d := 0) (b := B218_1) (gs := []) (c' := (51, [some (22, 0), some (0, v1), some (0, v2), some (0, v3)], [(0, (-1))], (hc, (mset h 0 0 0), o))) K218_1 rfl trivial ?_
          exact zF_riM (by decide +kernel) e
        · refine zF_blk (m := []) (d := 0) (b := B218_7) (gs := [¬ (r4 ≤ 0)]) (c' := (40, [some (22, 0), some (0, v1), some (0, v2), some (0, v3)], [], (hc, (mset h 0 0 0), o))) K218_7 rfl ⟨q8, trivial⟩ ?_
          obtain ⟨r5, q9, e⟩ := zB_s e
          refine zF_blk (m := []) (d := 0) (b := B218_5) (gs := []) (c' := (44, [some (22, 0), some (0, v1), some (0, v2), some (0, v3)], [(0, v3), (0, v2), (0, v1), (22, 0)], (hc, (mset h 0 0 0), o))) K218_5 rfl trivial ?_
          refine zF_call (k := 219) (cl := 12) (n := 4) (i := .invokevirtual 269) (args := [(22, 0), (0, v1), (0, v2), (0, v3)]) (rest := []) (g1 := (hc, (mset h 0 0 0), o)) (r1 := some (0, r5)) (by decide +kernel) rfl rfl rfl (st' := [(0, r5)]) rfl (S219 (Nat.le_trans (by decide) hd) v1 v2 v3 (mset h 0 0 0) _ q9) ?_
          refine zF_blk (m := []) (d := 0) (b := B218_6) (gs := []) (c' := (51, [some (22, 0), some (0, v1), some (0, v2), some (0, v3)], [(0, r5)], (hc, (mset h 0 0 0), o))) K218_6 rfl trivial ?_
          exact zF_riM (by decide +kernel) e
def B61_0 : List zRow := [(19, .iconst 0, 1, (0, 0, 0))]
theorem K61_0 : zRk 61 B61_0 = true := by decide +kernel
def B61_1 : List zRow := [(15, .iconst 1, 1, (0, 0, 0)), (16, .goto 4, 3, (0, 0, 0))]
theorem K61_1 : zRk 61 B61_1 = true := by decide +kernel
def B61_2 : List zRow := [(4, .iload_n 1, 1, (0, 0, 0)), (5, .aload_n 0, 1, (0, 0, 0)), (6, .getfield 19, 3, (11, 1, 39)), (9, .getfield 311, 3, (9, 3, 0)), (12, .if_icmp .ge 7, 3, (0, 0, 0))]
theorem K61_2 : zRk 61 B61_2 = true := by decide +kernel
def B61_3 : List zRow := [(0, .iload_n 1, 1, (0, 0, 0)), (1, .ifCond .lt 18, 3, (0, 0, 0))]
theorem K61_3 : zRk 61 B61_3 = true := by decide +kernel
/-- EchoVale.isPerson(I)Z -/
def F61 (v1 : Int) (h : zHC) : Option Int := if v1 < 0 then some 0 else if (h 579 0 0) ≤ v1 then some 0 else some 1
set_option maxRecDepth 100000 in
theorem S61 {spec : zRn zH2} {hm : zHM} {o : Int → Int} {d : Nat} (hd : 1 ≤ d) (v1 : Int) (h : zHC) (v : Int) (e : F61 v1 h = some v) : zRu2 spec d 61 [(21, 0), (0, v1)] (h, hm, o) (some (0, v)) (h, hm, o) := by
  refine zF_in (D := 0) (mx := 2) (L := [some (21, 0), some (0, v1)]) (by decide +kernel) rfl rfl hd (fun d hd => ?_)
  unfold F61 at e
  rcases zI_s e with ⟨q1, e⟩ | ⟨q1, e⟩
  · refine zF_blk (m := []) (d := 1) (b := B61_3) (gs := [v1 < 0]) (c' := (19, [some (21, 0), some (0, v1)], [], (h, hm, o))) K61_3 rfl ⟨q1, trivial⟩ ?_
    refine zF_blk (m := []) (d := 0) (b := B61_0) (gs := []) (c' := (20, [some (21, 0), some (0, v1)], [(0, 0)], (h, hm, o))) K61_0 rfl trivial ?_
    obtain rfl := Option.some.inj e
    exact zF_rb (by decide +kernel) (Or.inl rfl)
  · refine zF_blk (m := []) (d := 0) (b := B61_3) (gs := [¬ (v1 < 0)]) (c' := (4, [some (21, 0), some (0, v1)], [], (h, hm, o))) K61_3 rfl ⟨q1, trivial⟩ ?_
    rcases zI_s e with ⟨q2, e⟩ | ⟨q2, e⟩
    · refine zF_blk (m := []) (d := 1) (b := B61_2) (gs := [(h 579 0 0) ≤ v1]) (c' := (19, [some (21, 0), some (0, v1)], [], (h, hm, o))) K61_2 rfl ⟨q2, trivial⟩ ?_
      refine zF_blk (m := []) (d := 0) (b := B61_0) (gs := []) (c' := (20, [some (21, 0), some (0, v1)], [(0, 0)], (h, hm, o))) K61_0 rfl trivial ?_
      obtain rfl := Option.some.inj e
      exact zF_rb (by decide +kernel) (Or.inl rfl)
    · refine zF_blk (m := []) (d := 0) (b := B61_2) (gs := [¬ ((h 579 0 0) ≤ v1)]) (c' := (15, [some (21, 0), some (0, v1)], [], (h, hm, o))) K61_2 rfl ⟨q2, trivial⟩ ?_
      refine zF_blk (m := []) (d := 0) (b := B61_1) (gs := []) (c' := (20, [some (21, 0), some (0, v1)], [(0, 1)], (h, hm, o))) K61_1 rfl trivial ?_
      obtain rfl := Option.some.inj e
      exact zF_rb (by decide +kernel) (Or.inr rfl)
def B63_0 : List zRow := [(0, .aload_n 0, 1, (0, 0, 0)), (1, .getfield 21, 3, (1, 6, 5243842)), (4, .iload_n 1, 1, (0, 0, 0)), (5, .bipush 8, 2, (0, 0, 0)), (7, .imul, 1, (0, 0, 0)), (8, .iload_n 2, 1, (0, 0, 0)), (9, .iadd, 1, (0, 0, 0)), (10, .iaload, 1, (0, 0, 0))]
theorem K63_0 : zRk 63 B63_0 = true := by decide +kernel
/-- EchoVale$Course.fact(II)I -/
def F63 (v0 : Int) (v1 : Int) (v2 : Int) (h : zHC) : Option Int := zG (0 ≤ (wadd (wmul v1 8) v2) ∧ (wadd (wmul v1 8) v2) < 240) (some (h 70 v0 (wadd (wmul v1 8) v2)))
set_option maxRecDepth 100000 in
theorem S63 {spec : zRn zH2} {hm : zHM} {o : Int → Int} {d : Nat} (hd : 1 ≤ d) (v0 : Int) (v1 : Int) (v2 : Int) (h : zHC) (v : Int) (e : F63 v0 v1 v2 h = some v) : zRu2 spec d 63 [(11, v0), (0, v1), (0, v2)] (h, hm, o) (some (0, v)) (h, hm, o) := by
  refine zF_in (D := 0) (mx := 3) (L := [some (11, v0), some (0, v1), some (0, v2)]) (by decide +kernel) rfl rfl hd (fun d hd => ?_)
  unfold F63 at e
  obtain ⟨q1, e⟩ := zG_s e
  refine zF_blk (m := []) (d := 0) (b := B63_0) (gs := [0 ≤ (wadd (wmul v1 8) v2) ∧ (wadd (wmul v1 8) v2) < 240]) (c' := (11, [some (11, v0), some (0, v1), some (0, v2)], [(0, (h 70 v0 (wadd (wmul v1 8) v2)))], (h, hm, o))) K63_0 rfl ⟨q1, trivial⟩ ?_
  obtain rfl := Option.some.inj e
  exact zF_ri (by decide +kernel)
def B64_0 : List zRow := [(0, .iload_n 0, 1, (0, 0, 0)), (1, .iload_n 0, 1, (0, 0, 0)), (2, .iconst 1, 1, (0, 0, 0)), (3, .iushr, 1, (0, 0, 0)), (4, .ldc_w 265, 3, (0, 0, 1431655765)), (7, .iand, 1, (0, 0, 0)), (8, .isub, 1, (0, 0, 0)), (9, .istore_n 0, 1, (0, 0, 0)), (10, .iload_n 0, 1, (0, 0, 0)), (11, .ldc_w 266, 3, (0, 0, 858993459)), (14, .iand, 1, (0, 0, 0)), (15, .iload_n 0, 1, (0, 0, 0)), (16, .iconst 2, 1, (0, 0, 0)), (17, .iushr, 1, (0, 0, 0)), (18, .ldc_w 266, 3, (0, 0, 858993459)), (21, .iand, 1, (0, 0, 0)), (22, .iadd, 1, (0, 0, 0)), (23, .istore_n 0, 1, (0, 0, 0)), (24, .iload_n 0, 1, (0, 0, 0)), (25, .iload_n 0, 1, (0, 0, 0)), (26, .iconst 4, 1, (0, 0, 0)), (27, .iushr, 1, (0, 0, 0)), (28, .iadd, 1, (0, 0, 0)), (29, .ldc_w 267, 3, (0, 0, 252645135)), (32, .iand, 1, (0, 0, 0)), (33, .istore_n 0, 1, (0, 0, 0)), (34, .iload_n 0, 1, (0, 0, 0)), (35, .iload_n 0, 1, (0, 0, 0)), (36, .bipush 8, 2, (0, 0, 0)), (38, .iushr, 1, (0, 0, 0)), (39, .iadd, 1, (0, 0, 0)), (40, .istore_n 0, 1, (0, 0, 0)), (41, .iload_n 0, 1, (0, 0, 0)), (42, .iload_n 0, 1, (0, 0, 0)), (43, .bipush 16, 2, (0, 0, 0)), (45, .iushr, 1, (0, 0, 0)), (46, .iadd, 1, (0, 0, 0)), (47, .istore_n 0, 1, (0, 0, 0)), (48, .iload_n 0, 1, (0, 0, 0)), (49, .bipush 63, 2, (0, 0, 0)), (51, .iand, 1, (0, 0, 0))]
theorem K64_0 : zRk 64 B64_0 = true := by decide +kernel
/-- java/lang/Integer.bitCount(I)I -/
def F64 (v0 : Int) : Option Int := some (wand (wadd (wadd (wand (wadd (wadd (wand (wsub v0 (wand (wushr v0 1) 1431655765)) 858993459) (wand (wushr (wsub v0 (wand (wushr v0 1) 1431655765)) 2) 858993459)) (wushr (wadd (wand (wsub v0 (wand (wushr v0 1) 1431655765)) 858993459) (wand (wushr (wsub v0 (wand (wushr v0 1) 1431655765)) 2) 858993459)) 4)) 252645135) (wushr (wand (wadd (wadd (wand (wsub v0 (wand (wushr v0 1) 1431655765)) 858993459) (wand (wushr (wsub v0 (wand (wushr v0 1) 1431655765)) 2) 858993459)) (wushr (wadd (wand (wsub v0 (wand (wushr v0 1) 1431655765)) 858993459) (wand (wushr (wsub v0 (wand (wushr v0 1) 1431655765)) 2) 858993459)) 4)) 252645135) 8)) (wushr (wadd (wand (wadd (wadd (wand (wsub v0 (wand (wushr v0 1) 1431655765)) 858993459) (wand (wushr (wsub v0 (wand (wushr v0 1) 1431655765)) 2) 858993459)) (wushr (wadd (wand (wsub v0 (wand (wushr v0 1) 1431655765)) 858993459) (wand (wushr (wsub v0 (wand (wushr v0 1) 1431655765)) 2) 858993459)) 4)) 252645135) (wushr (wand (wadd (wadd (wand (wsub v0 (wand (wushr v0 1) 1431655765)) 858993459) (wand (wushr (wsub v0 (wand (wushr v0 1) 1431655765)) 2) 858993459)) (wushr (wadd (wand (wsub v0 (wand (wushr v0 1) 1431655765)) 858993459) (wand (wushr (wsub v0 (wand (wushr v0 1) 1431655765)) 2) 858993459)) 4)) 252645135) 8)) 16)) 63)
set_option maxRecDepth 100000 in
theorem S64 {spec : zRn zH2} {hm : zHM} {o : Int → Int} {d : Nat} (hd : 1 ≤ d) (v0 : Int) (h : zHC) (v : Int) (e : F64 v0 = some v) : zRu2 spec d 64 [(0, v0)] (h, hm, o) (some (0, v)) (h, hm, o) := by
  refine zF_in (D := 0) (mx := 1) (L := [some (0, v0)]) (by decide +kernel) rfl rfl hd (fun d hd => ?_)
  unfold F64 at e
  refine zF_blk (m := []) (d := 0) (b := B64_0) (gs := []) (c' := (52, [some (0, (wadd (wadd (wand (wadd (wadd (wand (wsub v0 (wand (wushr v0 1) 1431655765)) 858993459) (wand (wushr (wsub v0 (wand (wushr v0 1) 1431655765)) 2) 858993459)) (wushr (wadd (wand (wsub v0 (wand (wushr v0 1) 1431655765)) 858993459) (wand (wushr (wsub v0 (wand (wushr v0 1) 1431655765)) 2) 858993459)) 4)) 252645135) (wushr (wand (wadd (wadd (wand (wsub v0 (wand (wushr v0 1) 1431655765)) 858993459) (wand (wushr (wsub v0 (wand (wushr v0 1) 1431655765)) 2) 858993459)) (wushr (wadd (wand (wsub v0 (wand (wushr v0 1) 1431655765)) 858993459) (wand (wushr (wsub v0 (wand (wushr v0 1) 1431655765)) 2) 858993459)) 4)) 252645135) 8)) (wushr (wadd (wand (wadd (wadd (wand (wsub v0 (wand (wushr v0 1) 1431655765)) 858993459) (wand (wushr (wsub v0 (wand (wushr v0 1) 1431655765)) 2) 858993459)) (wushr (wadd (wand (wsub v0 (wand (wushr v0 1) 1431655765)) 858993459) (wand (wushr (wsub v0 (wand (wushr v0 1) 1431655765)) 2) 858993459)) 4)) 252645135) (wushr (wand (wadd (wadd (wand (wsub v0 (wand (wushr v0 1) 1431655765)) 858993459) (wand (wushr (wsub v0 (wand (wushr v0 1) 1431655765)) 2) 858993459)) (wushr (wadd (wand (wsub v0 (wand (wushr v0 1) 1431655765)) 858993459) (wand (wushr (wsub v0 (wand (wushr v0 1) 1431655765)) 2) 858993459)) 4)) 252645135) 8)) 16)))], [(0, (wand (wadd (wadd (wand (wadd (wadd (wand (wsub v0 (wand (wushr v0 1) 1431655765)) 858993459) (wand (wushr (wsub v0 (wand (wushr v0 1) 1431655765)) 2) 858993459)) (wushr (wadd (wand (wsub v0 (wand (wushr v0 1) 1431655765)) 858993459) (wand (wushr (wsub v0 (wand (wushr v0 1) 1431655765)) 2) 858993459)) 4)) 252645135) (wushr (wand (wadd (wadd (wand (wsub v0 (wand (wushr v0 1) 1431655765)) 858993459) (wand (wushr (wsub v0 (wand (wushr v0 1) 1431655765)) 2) 858993459)) (wushr (wadd (wand (wsub v0 (wand (wushr v0 1) 1431655765)) 858993459) (wand (wushr (wsub v0 (wand (wushr v0 1) 1431655765)) 2) 858993459)) 4)) 252645135) 8)) (wushr (wadd (wand (wadd (wadd (wand (wsub v0 (wand (wushr v0 1) 1431655765)) 858993459) (wand (wushr (wsub v0 (wand (wushr v0 1) 1431655765)) 2) 858993459)) (wushr (wadd (wand (wsub v0 (wand (wushr v0 1) 1431655765)) 858993459) (wand (wushr (wsub v0 (wand (wushr v0 1) 1431655765)) 2) 858993459)) 4)) 252645135) (wushr (wand (wadd (wadd (wand (wsub v0 (wand (wushr v0 1) 1431655765)) 858993459) (wand (wushr (wsub v0 (wand (wushr v0 1) 1431655765)) 2) 858993459)) (wushr (wadd (wand (wsub v0 (wand (wushr v0 1) 1431655765)) 858993459) (wand (wushr (wsub v0 (wand (wushr v0 1) 1431655765)) 2) 858993459)) 4)) 252645135) 8)) 16)) 63))], (h, hm, o))) K64_0 rfl trivial ?_
  obtain rfl := Option.some.inj e
  exact zF_ri (by decide +kernel)
