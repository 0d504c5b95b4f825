/-! Functions of the methods, by wip/gen/lift.py. -/
def B90_0 : List zRow := [(0, .aload_n 1, 1, (0, 0, 0)), (1, .aload_n 0, 1, (0, 0, 0)), (2, .getfield 30, 3, (1, 0, 0))]
theorem K90_0 : zRk 90 B90_0 = true := by decide +kernel
def B90_1 : List zRow := [(8, .istore 4, 2, (0, 0, 0)), (10, .iconst 0, 1, (0, 0, 0)), (11, .istore 5, 2, (0, 0, 0))]
theorem K90_1 : zRk 90 B90_1 = true := by decide +kernel
def B90_2 : List zRow := [(81, .aload_n 0, 1, (0, 0, 0)), (82, .iload_n 2, 1, (0, 0, 0))]
theorem K90_2 : zRk 90 B90_2 = true := by decide +kernel
def B90_3 : List zRow := [(45, .aload_n 0, 1, (0, 0, 0)), (46, .aload_n 1, 1, (0, 0, 0)), (47, .iload_n 2, 1, (0, 0, 0)), (48, .iload 5, 2, (0, 0, 0)), (50, .aload_n 0, 1, (0, 0, 0)), (51, .getfield 18, 3, (1, 5, 5243602)), (54, .iload 6, 2, (0, 0, 0)), (56, .iaload, 1, (0, 0, 0)), (57, .aload_n 1, 1, (0, 0, 0)), (58, .getfield 116, 3, (9, 10, 5242906)), (61, .iload 5, 2, (0, 0, 0)), (63, .iaload, 1, (0, 0, 0)), (64, .iload 4, 2, (0, 0, 0)), (66, .isub, 1, (0, 0, 0)), (67, .iload_n 3, 1, (0, 0, 0)), (68, .isub, 1, (0, 0, 0)), (69, .invokestatic 119, 3, (5003, 0, 0))]
theorem K90_3 : zRk 90 B90_3 = true := by decide +kernel
def B90_4 : List zRow := [(22, .iload_n 2, 1, (0, 0, 0)), (23, .bipush 6, 2, (0, 0, 0)), (25, .imul, 1, (0, 0, 0)), (26, .iload 5, 2, (0, 0, 0)), (28, .iadd, 1, (0, 0, 0)), (29, .istore 6, 2, (0, 0, 0)), (31, .aload_n 0, 1, (0, 0, 0)), (32, .getfield 15, 3, (1, 4, 5243602)), (35, .iload 6, 2, (0, 0, 0)), (37, .iaload, 1, (0, 0, 0)), (38, .aload_n 0, 1, (0, 0, 0)), (39, .getfield 30, 3, (1, 0, 0)), (42, .if_icmp .ne 33, 3, (0, 0, 0))]
theorem K90_4 : zRk 90 B90_4 = true := by decide +kernel
def B90_5 : List zRow := [(13, .iload 5, 2, (0, 0, 0)), (15, .aload_n 1, 1, (0, 0, 0)), (16, .getfield 69, 3, (9, 2, 0)), (19, .if_icmp .ge 62, 3, (0, 0, 0))]
theorem K90_5 : zRk 90 B90_5 = true := by decide +kernel
def B90_6 : List zRow := [(75, .iinc 5 1, 3, (0, 0, 0)), (78, .goto (-65), 3, (0, 0, 0))]
theorem K90_6 : zRk 90 B90_6 = true := by decide +kernel
def F90_1 (k0 : Int → Int → Int → Int → Int → Int → zHC → Option zHC) (v0 : Int) (v1 : Int) (v2 : Int) (v3 : Int) (v4 : Int) (v5 : Int) (h : zHC) : Option zHC := k0 v0 v1 v2 v3 v4 (wadd v5 1) h
set_option maxRecDepth 100000 in
theorem T90_1 {spec : zRn zH2} {hm : zHM} {o : Int → Int} {d : Nat} (hd : 3 ≤ d) (k0 : Int → Int → Int → Int → Int → Int → zHC → Option zHC) (hk0 : ∀ (v0 : Int) (v1 : Int) (v2 : Int) (v3 : Int) (v4 : Int) (v5 : Int) (h : zHC) (v : zHC), k0 v0 v1 v2 v3 v4 v5 h = some v → zFin 0 (fun _ => 0) (zRu2 spec d) 90 none (v, hm, o) (13, [some (11, v0), some (19, v1), some (0, v2), some (0, v3), some (0, v4), some (0, v5), none], [], (h, hm, o))) (v0 : Int) (v1 : Int) (v2 : Int) (v3 : Int) (v4 : Int) (v5 : Int) (h : zHC) (v : zHC) (e : F90_1 k0 v0 v1 v2 v3 v4 v5 h = some v) : zFin 0 (fun _ => 0) (zRu2 spec d) 90 none (v, hm, o) (75, [some (11, v0), some (19, v1), some (0, v2), some (0, v3), some (0, v4), some (0, v5), none], [], (h, hm, o)) := by
  unfold F90_1 at e
  refine zF_blk (m := []) (d := 0) (b := B90_6) (gs := []) (c' := (13, [some (11, v0), some (19, v1), some (0, v2), some (0, v3), some (0, v4), some (0, (wadd v5 1)), none], [], (h, hm, o))) K90_6 rfl trivial ?_
  exact hk0 v0 v1 v2 v3 v4 (wadd v5 1) h _ e
def F90_0 : Nat → Int → Int → Int → Int → Int → Int → zHC → Option zHC
  | 0, _, _, _, _, _, _, _ => none
  | n + 1, v0, v1, v2, v3, v4, v5, h => if (h 578 v1 0) ≤ v5 then (F86 v0 v2 h).bind fun r1 => some r1 else zG (0 ≤ (wadd (wmul v2 6) v5) ∧ (wadd (wmul v2 6) v5) < 180) (if ¬ (h 68 v0 (wadd (wmul v2 6) v5)) = (h 64 v0 0) then F90_1 (F90_0 n) v0 v1 v2 v3 v4 v5 h else zG (0 ≤ (wadd (wmul v2 6) v5) ∧ (wadd (wmul v2 6) v5) < 180) (zG (0 ≤ v5 ∧ v5 < 6) ((F92 v0 v1 v2 v5 (if (wsub (wsub (h 586 v1 v5) v4) v3) < (h 69 v0 (wadd (wmul v2 6) v5)) then (wsub (wsub (h 586 v1 v5) v4) v3) else (h 69 v0 (wadd (wmul v2 6) v5))) h).bind fun r2 => F90_1 (F90_0 n) v0 v1 v2 v3 v4 v5 r2)))
set_option maxRecDepth 100000 in
theorem T90_0 {spec : zRn zH2} {hm : zHM} {o : Int → Int} {d : Nat} (hd : 3 ≤ d) : ∀ (n : Nat) (v0 : Int) (v1 : Int) (v2 : Int) (v3 : Int) (v4 : Int) (v5 : Int) (h : zHC) (v : zHC), F90_0 n v0 v1 v2 v3 v4 v5 h = some v → zFin 0 (fun _ => 0) (zRu2 spec d) 90 none (v, hm, o) (13, [some (11, v0), some (19, v1), some (0, v2), some (0, v3), some (0, v4), some (0, v5), none], [], (h, hm, o)) := by
  intro n
  induction n with
  | zero => intro v0 v1 v2 v3 v4 v5 h v e; unfold F90_0 at e; cases e
  | succ n hk0 =>
    intro v0 v1 v2 v3 v4 v5 h v e
    unfold F90_0 at e
    rcases zI_s e with ⟨q1, e⟩ | ⟨q1, e⟩
    · refine zF_blk (m := []) (d := 1) (b := B90_5) (gs := [(h 578 v1 0) ≤ v5]) (c' := (81, [some (11, v0), some (19, v1), some (0, v2), some (0, v3), some (0, v4), some (0, v5), none], [], (h, hm, o))) K90_5 rfl ⟨q1, trivial⟩ ?_
      obtain ⟨r1, q2, e⟩ := zB_s e
      refine zF_blk (m := []) (d := 0) (b := B90_2) (gs := []) (c' := (83, [some (11, v0), some (19, v1), some (0, v2), some (0, v3), some (0, v4), some (0, v5), none], [(0, v2), (11, v0)], (h, hm, o))) K90_2 rfl trivial ?_
      refine zF_call (k := 86) (cl := 1) (n := 2) (i := .invokevirtual 80) (args := [(11, v0), (0, v2)]) (rest := []) (g1 := (r1, hm, o)) (r1 := none) (by decide +kernel) rfl rfl rfl (st' := []) rfl (S86 (Nat.le_trans (by decide) hd) v0 v2 h _ q2) ?_
      obtain rfl := Option.some.inj e
      exact zF_rv (by decide +kernel)
    · refine zF_blk (m := []) (d := 0) (b := B90_5) (gs := [¬ ((h 578 v1 0) ≤ v5)]) (c' := (22, [some (11, v0), some (19, v1), some (0, v2), some (0, v3), some (0, v4), some (0, v5), none], [], (h, hm, o))) K90_5 rfl ⟨q1, trivial⟩ ?_
      obtain ⟨q3, e⟩ := zG_s e
      rcases zI_s e with ⟨q4, e⟩ | ⟨q4, e⟩
      · refine zF_blk (m := []) (d := 1) (b := B90_4) (gs := [0 ≤ (wadd (wmul v2 6) v5) ∧ (wadd (wmul v2 6) v5) < 180, ¬ (h 68 v0 (wadd (wmul v2 6) v5)) = (h 64 v0 0)]) (c' := (75, [some (11, v0), some (19, v1), some (0, v2), some (0, v3), some (0, v4), some (0, v5), some (0, (wadd (wmul v2 6) v5))], [], (h, hm, o))) K90_4 rfl ⟨q3, q4, trivial⟩ ?_
        refine zF_blk (m := [true, true, true, true, true, true, false]) (d := 0) (b := []) (gs := []) (c' := (75, [some (11, v0), some (19, v1), some (0, v2), some (0, v3), some (0, v4), some (0, v5), none], [], (h, hm, o))) rfl rfl trivial ?_
        exact T90_1 hd (F90_0 n) hk0 v0 v1 v2 v3 v4 v5 h _ e
      · refine zF_blk (m := []) (d := 0) (b := B90_4) (gs := [0 ≤ (wadd (wmul v2 6) v5) ∧ (wadd (wmul v2 6) v5) < 180, ¬ (¬ (h 68 v0 (wadd (wmul v2 6) v5)) = (h 64 v0 0))]) (c' := (45, [some (11, v0), some (19, v1), some (0, v2), some (0, v3), some (0, v4), some (0, v5), some (0, (wadd (wmul v2 6) v5))], [], (h, hm, o))) K90_4 rfl ⟨q3, q4, trivial⟩ ?_
        obtain ⟨q5, e⟩ := zG_s e
        obtain ⟨q6, e⟩ := zG_s e
        obtain ⟨r2, q7, e⟩ := zB_s e
        refine zF_blk (m := []) (d := 0) (b := B90_3) (gs := [0 ≤ (wadd (wmul v2 6) v5) ∧ (wadd (wmul v2 6) v5) < 180, 0 ≤ v5 ∧ v5 < 6]) (c' := (72, [some (11, v0), some (19, v1), some (0, v2), some (0, v3), some (0, v4), some (0, v5), some (0, (wadd (wmul v2 6) v5))], [(0, (if (wsub (wsub (h 586 v1 v5) v4) v3) < (h 69 v0 (wadd (wmul v2 6) v5)) then (wsub (wsub (h 586 v1 v5) v4) v3) else (h 69 v0 (wadd (wmul v2 6) v5)))), (0, v5), (0, v2), (19, v1), (11, v0)], (h, hm, o))) K90_3 rfl ⟨q5, q6, trivial⟩ ?_
        refine zF_call (k := 92) (cl := 1) (n := 5) (i := .invokevirtual 124) (args := [(11, v0), (19, v1), (0, v2), (0, v5), (0, (if (wsub (wsub (h 586 v1 v5) v4) v3) < (h 69 v0 (wadd (wmul v2 6) v5)) then (wsub (wsub (h 586 v1 v5) v4) v3) else (h 69 v0 (wadd (wmul v2 6) v5))))]) (rest := []) (g1 := (r2, hm, o)) (r1 := none) (by decide +kernel) rfl rfl rfl (st' := []) rfl (S92 (Nat.le_trans (by decide) hd) v0 v1 v2 v5 (if (wsub (wsub (h 586 v1 v5) v4) v3) < (h 69 v0 (wadd (wmul v2 6) v5)) then (wsub (wsub (h 586 v1 v5) v4) v3) else (h 69 v0 (wadd (wmul v2 6) v5))) h _ q7) ?_
        refine zF_blk (m := [true, true, true, true, true, true, false]) (d := 0) (b := []) (gs := []) (c' := (75, [some (11, v0), some (19, v1), some (0, v2), some (0, v3), some (0, v4), some (0, v5), none], [], (r2, hm, o))) rfl rfl trivial ?_
        exact T90_1 hd (F90_0 n) hk0 v0 v1 v2 v3 v4 v5 r2 _ e
/-- EchoVale$Course.giveBack(LEchoVale$Valley;II)V -/
def F90 (v0 : Int) (v1 : Int) (v2 : Int) (v3 : Int) (h : zHC) : Option zHC := (F91 v1 (h 64 v0 0) h).bind fun r1 => F90_0 zFu v0 v1 v2 v3 r1 0 h
set_option maxRecDepth 100000 in
theorem S90 {spec : zRn zH2} {hm : zHM} {o : Int → Int} {d : Nat} (hd : 4 ≤ d) (v0 : Int) (v1 : Int) (v2 : Int) (v3 : Int) (h : zHC) (v : zHC) (e : F90 v0 v1 v2 v3 h = some v) : zRu2 spec d 90 [(11, v0), (19, v1), (0, v2), (0, v3)] (h, hm, o) none (v, hm, o) := by
  refine zF_in (D := 3) (mx := 7) (L := [some (11, v0), some (19, v1), some (0, v2), some (0, v3), none, none, none]) (by decide +kernel) rfl rfl hd (fun d hd => ?_)
  unfold F90 at e
  obtain ⟨r1, q1, e⟩ := zB_s e
  refine zF_blk (m := []) (d := 0) (b := B90_0) (gs := []) (c' := (5, [some (11, v0), some (19, v1), some (0, v2), some (0, v3), none, none, none], [(0, (h 64 v0 0)), (19, v1)], (h, hm, o))) K90_0 rfl trivial ?_
  refine zF_call (k := 91) (cl := 9) (n := 2) (i := .invokevirtual 112) (args := [(19, v1), (0, (h 64 v0 0))]) (rest := []) (g1 := (h, hm, o)) (r1 := some (0, r1)) (by decide +kernel) rfl rfl rfl (st' := [(0, r1)]) rfl (S91 (Nat.le_trans (by decide) hd) v1 (h 64 v0 0) h _ q1) ?_
  refine zF_blk (m := []) (d := 0) (b := B90_1) (gs := []) (c' := (13, [some (11, v0), some (19, v1), some (0, v2), some (0, v3), some (0, r1), some (0, 0), none], [], (h, hm, o))) K90_1 rfl trivial ?_
  exact T90_0 hd zFu v0 v1 v2 v3 r1 0 h _ e
def B89_0 : List zRow := [(0, .aload_n 0, 1, (0, 0, 0)), (1, .dup, 1, (0, 0, 0)), (2, .getfield 30, 3, (1, 0, 0)), (5, .iconst 1, 1, (0, 0, 0)), (6, .iadd, 1, (0, 0, 0)), (7, .putfield 30, 3, (1, 0, 0)), (10, .iconst 0, 1, (0, 0, 0)), (11, .istore_n 3, 1, (0, 0, 0))]
theorem K89_0 : zRk 89 B89_0 = true := by decide +kernel
def B89_1 : List zRow := [(56, .iconst 0, 1, (0, 0, 0)), (57, .istore_n 3, 1, (0, 0, 0))]
theorem K89_1 : zRk 89 B89_1 = true := by decide +kernel
def B89_2 : List zRow := [(33, .aload_n 0, 1, (0, 0, 0)), (34, .getfield 9, 3, (1, 3, 5242906)), (37, .aload_n 1, 1, (0, 0, 0)), (38, .getfield 98, 3, (9, 15, 5242962)), (41, .iload_n 3, 1, (0, 0, 0)), (42, .iaload, 1, (0, 0, 0)), (43, .aload_n 1, 1, (0, 0, 0)), (44, .getfield 101, 3, (9, 16, 5242962)), (47, .iload_n 3, 1, (0, 0, 0)), (48, .iaload, 1, (0, 0, 0)), (49, .iastore, 1, (0, 0, 0))]
theorem K89_2 : zRk 89 B89_2 = true := by decide +kernel
def B89_3 : List zRow := [(20, .aload_n 1, 1, (0, 0, 0)), (21, .getfield 95, 3, (9, 14, 5242962)), (24, .iload_n 3, 1, (0, 0, 0)), (25, .iaload, 1, (0, 0, 0)), (26, .aload_n 0, 1, (0, 0, 0)), (27, .getfield 30, 3, (1, 0, 0)), (30, .if_icmp .ne 20, 3, (0, 0, 0))]
theorem K89_3 : zRk 89 B89_3 = true := by decide +kernel
def B89_4 : List zRow := [(12, .iload_n 3, 1, (0, 0, 0)), (13, .aload_n 1, 1, (0, 0, 0)), (14, .getfield 92, 3, (9, 4, 0)), (17, .if_icmp .ge 39, 3, (0, 0, 0))]
theorem K89_4 : zRk 89 B89_4 = true := by decide +kernel
def B89_5 : List zRow := [(50, .iinc 3 1, 3, (0, 0, 0)), (53, .goto (-41), 3, (0, 0, 0))]
theorem K89_5 : zRk 89 B89_5 = true := by decide +kernel
def B89_6 : List zRow := [(79, .aload_n 0, 1, (0, 0, 0)), (80, .aload_n 1, 1, (0, 0, 0)), (81, .iload_n 3, 1, (0, 0, 0)), (82, .iload_n 2, 1, (0, 0, 0))]
theorem K89_6 : zRk 89 B89_6 = true := by decide +kernel
def B89_7 : List zRow := [(66, .aload_n 0, 1, (0, 0, 0)), (67, .getfield 27, 3, (1, 8, 5243002)), (70, .iload_n 3, 1, (0, 0, 0)), (71, .iaload, 1, (0, 0, 0)), (72, .aload_n 0, 1, (0, 0, 0)), (73, .getfield 30, 3, (1, 0, 0)), (76, .if_icmp .ne 10, 3, (0, 0, 0))]
theorem K89_7 : zRk 89 B89_7 = true := by decide +kernel
def B89_8 : List zRow := [(58, .iload_n 3, 1, (0, 0, 0)), (59, .aload_n 0, 1, (0, 0, 0)), (60, .getfield 34, 3, (1, 1, 0)), (63, .if_icmp .ge 29, 3, (0, 0, 0))]
theorem K89_8 : zRk 89 B89_8 = true := by decide +kernel
def B89_9 : List zRow := [(86, .iinc 3 1, 3, (0, 0, 0)), (89, .goto (-31), 3, (0, 0, 0))]
theorem K89_9 : zRk 89 B89_9 = true := by decide +kernel
def F89_3 (k0 : Int → Int → Int → Int → zHC → Option zHC) (v0 : Int) (v1 : Int) (v2 : Int) (v3 : Int) (h : zHC) : Option zHC := k0 v0 v1 v2 (wadd v3 1) h
set_option maxRecDepth 100000 in
theorem T89_3 {spec : zRn zH2} {hm : zHM} {o : Int → Int} {d : Nat} (hd : 4 ≤ d) (k0 : Int → Int → Int → Int → zHC → Option zHC) (hk0 : ∀ (v0 : Int) (v1 : Int) (v2 : Int) (v3 : Int) (h : zHC) (v : zHC), k0 v0 v1 v2 v3 h = some v → zFin 0 (fun _ => 0) (zRu2 spec d) 89 none (v, hm, o) (58, [some (11, v0), some (19, v1), some (0, v2), some (0, v3)], [], (h, hm, o))) (v0 : Int) (v1 : Int) (v2 : Int) (v3 : Int) (h : zHC) (v : zHC) (e : F89_3 k0 v0 v1 v2 v3 h = some v) : zFin 0 (fun _ => 0) (zRu2 spec d) 89 none (v, hm, o) (86, [some (11, v0), some (19, v1), some (0, v2), some (0, v3)], [], (h, hm, o)) := by
  unfold F89_3 at e
  refine zF_blk (m := []) (d := 0) (b := B89_9) (gs := []) (c' := (58, [some (11, v0), some (19, v1), some (0, v2), some (0, (wadd v3 1))], [], (h, hm, o))) K89_9 rfl trivial ?_
  exact hk0 v0 v1 v2 (wadd v3 1) h _ e
def F89_1 : Nat → Int → Int → Int → Int → zHC → Option zHC
  | 0, _, _, _, _, _ => none
  | n + 1, v0, v1, v2, v3, h => if (h 65 v0 0) ≤ v3 then some h else zG (0 ≤ v3 ∧ v3 < 30) (if ¬ (h 72 v0 v3) = (h 64 v0 0) then F89_3 (F89_1 n) v0 v1 v2 v3 h else (F90 v0 v1 v3 v2 h).bind fun r1 => F89_3 (F89_1 n) v0 v1 v2 v3 r1)
set_option maxRecDepth 100000 in
theorem T89_1 {spec : zRn zH2} {hm : zHM} {o : Int → Int} {d : Nat} (hd : 4 ≤ d) : ∀ (n : Nat) (v0 : Int) (v1 : Int) (v2 : Int) (v3 : Int) (h : zHC) (v : zHC), F89_1 n v0 v1 v2 v3 h = some v → zFin 0 (fun _ => 0) (zRu2 spec d) 89 none (v, hm, o) (58, [some (11, v0), some (19, v1), some (0, v2), some (0, v3)], [], (h, hm, o)) := by
  intro n
  induction n with
  | zero => intro v0 v1 v2 v3 h v e; unfold F89_1 at e; cases e
  | succ n hk0 =>
    intro v0 v1 v2 v3 h v e
    unfold F89_1 at e
    rcases zI_s e with ⟨q1, e⟩ | ⟨q1, e⟩
    · refine zF_blk (m := []) (d := 1) (b := B89_8) (gs := [(h 65 v0 0) ≤ v3]) (c' := (92, [some (11, v0), some (19, v1), some (0, v2), some (0, v3)], [], (h, hm, o))) K89_8 rfl ⟨q1, trivial⟩ ?_
      obtain rfl := Option.some.inj e
      exact zF_rv (by decide +kernel)
    · refine zF_blk (m := []) (d := 0) (b := B89_8) (gs := [¬ ((h 65 v0 0) ≤ v3)]) (c' := (66, [some (11, v0), some (19, v1), some (0, v2), some (0, v3)], [], (h, hm, o))) K89_8 rfl ⟨q1, trivial⟩ ?_
      obtain ⟨q2, e⟩ := zG_s e
      rcases zI_s e with ⟨q3, e⟩ | ⟨q3, e⟩
      · refine zF_blk (m := []) (d := 1) (b := B89_7) (gs := [0 ≤ v3 ∧ v3 < 30, ¬ (h 72 v0 v3) = (h 64 v0 0)]) (c' := (86, [some (11, v0), some (19, v1), some (0, v2), some (0, v3)], [], (h, hm, o))) K89_7 rfl ⟨q2, q3, trivial⟩ ?_
        exact T89_3 hd (F89_1 n) hk0 v0 v1 v2 v3 h _ e
      · refine zF_blk (m := []) (d := 0) (b := B89_7) (gs := [0 ≤ v3 ∧ v3 < 30, ¬ (¬ (h 72 v0 v3) = (h 64 v0 0))]) (c' := (79, [some (11, v0), some (19, v1), some (0, v2), some (0, v3)], [], (h, hm, o))) K89_7 rfl ⟨q2, q3, trivial⟩ ?_
        obtain ⟨r1, q4, e⟩ := zB_s e
        refine zF_blk (m := []) (d := 0) (b := B89_6) (gs := []) (c' := (83, [some (11, v0), some (19, v1), some (0, v2), some (0, v3)], [(0, v2), (0, v3), (19, v1), (11, v0)], (h, hm, o))) K89_6 rfl trivial ?_
        refine zF_call (k := 90) (cl := 1) (n := 4) (i := .invokevirtual 104) (args := [(11, v0), (19, v1), (0, v3), (0, v2)]) (rest := []) (g1 := (r1, hm, o)) (r1 := none) (by decide +kernel) rfl rfl rfl (st' := []) rfl (S90 (Nat.le_trans (by decide) hd) v0 v1 v3 v2 h _ q4) ?_
        exact T89_3 hd (F89_1 n) hk0 v0 v1 v2 v3 r1 _ e
def F89_2 (k0 : Int → Int → Int → Int → zHC → Option zHC) (v0 : Int) (v1 : Int) (v2 : Int) (v3 : Int) (h : zHC) : Option zHC := k0 v0 v1 v2 (wadd v3 1) h
set_option maxRecDepth 100000 in
theorem T89_2 {spec : zRn zH2} {hm : zHM} {o : Int → Int} {d : Nat} (hd : 4 ≤ d) (k0 : Int → Int → Int → Int → zHC → Option zHC) (hk0 : ∀ (v0 : Int) (v1 : Int) (v2 : Int) (v3 : Int) (h : zHC) (v : zHC), k0 v0 v1 v2 v3 h = some v → zFin 0 (fun _ => 0) (zRu2 spec d) 89 none (v, hm, o) (12, [some (11, v0), some (19, v1), some (0, v2), some (0, v3)], [], (h, hm, o))) (v0 : Int) (v1 : Int) (v2 : Int) (v3 : Int) (h : zHC) (v : zHC) (e : F89_2 k0 v0 v1 v2 v3 h = some v) : zFin 0 (fun _ => 0) (zRu2 spec d) 89 none (v, hm, o) (50, [some (11, v0), some (19, v1), some (0, v2), some (0, v3)], [], (h, hm, o)) := by
  unfold F89_2 at e
  refine zF_blk (m := []) (d := 0) (b := B89_5) (gs := []) (c' := (12, [some (11, v0), some (19, v1), some (0, v2), some (0, (wadd v3 1))], [], (h, hm, o))) K89_5 rfl trivial ?_
  exact hk0 v0 v1 v2 (wadd v3 1) h _ e
def F89_0 : Nat → Int → Int → Int → Int → zHC → Option zHC
  | 0, _, _, _, _, _ => none
  | n + 1, v0, v1, v2, v3, h => if (h 580 v1 0) ≤ v3 then F89_1 zFu v0 v1 v2 0 h else zG (0 ≤ v3 ∧ v3 < 20) (if ¬ (h 590 v1 v3) = (h 64 v0 0) then F89_2 (F89_0 n) v0 v1 v2 v3 h else zG (0 ≤ v3 ∧ v3 < 20) (zG (0 ≤ v3 ∧ v3 < 20) (zG (0 ≤ (h 591 v1 v3) ∧ (h 591 v1 v3) < 6) (F89_2 (F89_0 n) v0 v1 v2 v3 (hset h 67 v0 (h 591 v1 v3) (h 592 v1 v3))))))
set_option maxRecDepth 100000 in
theorem T89_0 {spec : zRn zH2} {hm : zHM} {o : Int → Int} {d : Nat} (hd : 4 ≤ d) : ∀ (n : Nat) (v0 : Int) (v1 : Int) (v2 : Int) (v3 : Int) (h : zHC) (v : zHC), F89_0 n v0 v1 v2 v3 h = some v → zFin 0 (fun _ => 0) (zRu2 spec d) 89 none (v, hm, o) (12, [some (11, v0), some (19, v1), some (0, v2), some (0, v3)], [], (h, hm, o)) := by
  intro n
  induction n with
  | zero => intro v0 v1 v2 v3 h v e; unfold F89_0 at e; cases e
  | succ n hk0 =>
    intro v0 v1 v2 v3 h v e
    unfold F89_0 at e
    rcases zI_s e with ⟨q1, e⟩ | ⟨q1, e⟩
    · refine zF_blk (m := []) (d := 1) (b := B89_4) (gs := [(h 580 v1 0) ≤ v3]) (c' := (56, [some (11, v0), some (19, v1), some (0, v2), some (0, v3)], [], (h, hm, o))) K89_4 rfl ⟨q1, trivial⟩ ?_
      refine zF_blk (m := []) (d := 0) (b := B89_1) (gs := []) (c' := (58, [some (11, v0), some (19, v1), some (0, v2), some (0, 0)], [], (h, hm, o))) K89_1 rfl trivial ?_
      exact T89_1 hd zFu v0 v1 v2 0 h _ e
    · refine zF_blk (m := []) (d := 0) (b := B89_4) (gs := [¬ ((h 580 v1 0) ≤ v3)]) (c' := (20, [some (11, v0), some (19, v1), some (0, v2), some (0, v3)], [], (h, hm, o))) K89_4 rfl ⟨q1, trivial⟩ ?_
      obtain ⟨q2, e⟩ := zG_s e
      rcases zI_s e with ⟨q3, e⟩ | ⟨q3, e⟩
      · refine zF_blk (m := []) (d := 1) (b := B89_3) (gs := [0 ≤ v3 ∧ v3 < 20, ¬ (h 590 v1 v3) = (h 64 v0 0)]) (c' := (50, [some (11, v0), some (19, v1), some (0, v2), some (0, v3)], [], (h, hm, o))) K89_3 rfl ⟨q2, q3, trivial⟩ ?_
        exact T89_2 hd (F89_0 n) hk0 v0 v1 v2 v3 h _ e
      · refine zF_blk (m := []) (d := 0) (b := B89_3) (gs := [0 ≤ v3 ∧ v3 < 20, ¬ (¬ (h 590 v1 v3) = (h 64 v0 0))]) (c' := (33, [some (11, v0), some (19, v1), some (0, v2), some (0, v3)], [], (h, hm, o))) K89_3 rfl ⟨q2, q3, trivial⟩ ?_
        obtain ⟨q4, e⟩ := zG_s e
        obtain ⟨q4, e⟩ := zG_s e
        obtain ⟨q5, e⟩ := zG_s e
        refine zF_blk (m := []) (d := 0) (b := B89_2) (gs := [0 ≤ v3 ∧ v3 < 20, 0 ≤ v3 ∧ v3 < 20, 0 ≤ (h 591 v1 v3) ∧ (h 591 v1 v3) < 6]) (c' := (50, [some (11, v0), some (19, v1), some (0, v2), some (0, v3)], [], ((hset h 67 v0 (h 591 v1 v3) (h 592 v1 v3)), hm, o))) K89_2 rfl ⟨q4, q4, q5, trivial⟩ ?_
        exact T89_2 hd (F89_0 n) hk0 v0 v1 v2 v3 (hset h 67 v0 (h 591 v1 v3) (h 592 v1 v3)) _ e
/-- EchoVale$Course.pass(LEchoVale$Valley;I)V -/
def F89 (v0 : Int) (v1 : Int) (v2 : Int) (h : zHC) : Option zHC := F89_0 zFu v0 v1 v2 0 (hset h 64 v0 0 (wadd (h 64 v0 0) 1))
set_option maxRecDepth 100000 in
theorem S89 {spec : zRn zH2} {hm : zHM} {o : Int → Int} {d : Nat} (hd : 5 ≤ d) (v0 : Int) (v1 : Int) (v2 : Int) (h : zHC) (v : zHC) (e : F89 v0 v1 v2 h = some v) : zRu2 spec d 89 [(11, v0), (19, v1), (0, v2)] (h, hm, o) none (v, hm, o) := by
  refine zF_in (D := 4) (mx := 4) (L := [some (11, v0), some (19, v1), some (0, v2), none]) (by decide +kernel) rfl rfl hd (fun d hd => ?_)
  unfold F89 at e
  refine zF_blk (m := []) (d := 0) (b := B89_0) (gs := []) (c' := (12, [some (11, v0), some (19, v1), some (0, v2), some (0, 0)], [], ((hset h 64 v0 0 (wadd (h 64 v0 0) 1)), hm, o))) K89_0 rfl trivial ?_
  exact T89_0 hd zFu v0 v1 v2 0 (hset h 64 v0 0 (wadd (h 64 v0 0) 1)) _ e
def B88_0 : List zRow := [(0, .iconst 0, 1, (0, 0, 0)), (1, .istore_n 3, 1, (0, 0, 0))]
theorem K88_0 : zRk 88 B88_0 = true := by decide +kernel
def B88_1 : List zRow := [(29, .iload_n 3, 1, (0, 0, 0))]
theorem K88_1 : zRk 88 B88_1 = true := by decide +kernel
def B88_2 : List zRow := [(17, .aload_n 0, 1, (0, 0, 0)), (18, .aload_n 1, 1, (0, 0, 0)), (19, .iconst 0, 1, (0, 0, 0))]
theorem K88_2 : zRk 88 B88_2 = true := by decide +kernel
def B88_3 : List zRow := [(23, .iinc 3 1, 3, (0, 0, 0)), (26, .goto (-24), 3, (0, 0, 0))]
theorem K88_3 : zRk 88 B88_3 = true := by decide +kernel
def B88_4 : List zRow := [(7, .aload_n 0, 1, (0, 0, 0)), (8, .getfield 30, 3, (1, 0, 0)), (11, .sipush 400, 3, (0, 0, 0)), (14, .if_icmp .ge 15, 3, (0, 0, 0))]
theorem K88_4 : zRk 88 B88_4 = true := by decide +kernel
def B88_5 : List zRow := [(2, .iload_n 3, 1, (0, 0, 0)), (3, .iload_n 2, 1, (0, 0, 0)), (4, .if_icmp .ge 25, 3, (0, 0, 0))]
theorem K88_5 : zRk 88 B88_5 = true := by decide +kernel
def F88_0 : Nat → Int → Int → Int → Int → zHC → Option (Int × zHC)
  | 0, _, _, _, _, _ => none
  | n + 1, v0, v1, v2, v3, h => if v2 ≤ v3 then some (v3, h) else if 400 ≤ (h 64 v0 0) then some (v3, h) else (F89 v0 v1 0 h).bind fun r1 => (F88_0 n) v0 v1 v2 (wadd v3 1) r1
set_option maxRecDepth 100000 in
theorem T88_0 {spec : zRn zH2} {hm : zHM} {o : Int → Int} {d : Nat} (hd : 5 ≤ d) : ∀ (n : Nat) (v0 : Int) (v1 : Int) (v2 : Int) (v3 : Int) (h : zHC) (v : (Int × zHC)), F88_0 n v0 v1 v2 v3 h = some v → zFin 0 (fun _ => 0) (zRu2 spec d) 88 (some (0, v.1)) (v.2, hm, o) (2, [some (11, v0), some (19, v1), some (0, v2), some (0, v3)], [], (h, hm, o)) := by
  intro n
  induction n with
  | zero => intro v0 v1 v2 v3 h v e; unfold F88_0 at e; cases e
  | succ n hk0 =>
    intro v0 v1 v2 v3 h v e
    unfold F88_0 at e
    rcases zI_s e with ⟨q1, e⟩ | ⟨q1, e⟩
    · refine zF_blk (m := []) (d := 1) (b := B88_5) (gs := [v2 ≤ v3]) (c' := (29, [some (11, v0), some (19, v1), some (0, v2), some (0, v3)], [], (h, hm, o))) K88_5 rfl ⟨q1, trivial⟩ ?_
      refine zF_blk (m := []) (d := 0) (b := B88_1) (gs := []) (c' := (30, [some (11, v0), some (19, v1), some (0, v2), some (0, v3)], [(0, v3)], (h, hm, o))) K88_1 rfl trivial ?_
      exact zF_riC (by decide +kernel) e
    · refine zF_blk (m := []) (d := 0) (b := B88_5) (gs := [¬ (v2 ≤ v3)]) (c' := (7, [some (11, v0), some (19, v1), some (0, v2), some (0, v3)], [], (h, hm, o))) K88_5 rfl ⟨q1, trivial⟩ ?_
      rcases zI_s e with ⟨q2, e⟩ | ⟨q2, e⟩
      · refine zF_blk (m := []) (d := 1) (b := B88_4) (gs := [400 ≤ (h 64 v0 0)]) (c' := (29, [some (11, v0), some (19, v1), some (0, v2), some (0, v3)], [], (h, hm, o))) K88_4 rfl ⟨q2, trivial⟩ ?_
        refine zF_blk (m := []) (d := 0) (b := B88_1) (gs := []) (c' := (30, [some (11, v0), some (19, v1), some (0, v2), some (0, v3)], [(0, v3)], (h, hm, o))) K88_1 rfl trivial ?_
        exact zF_riC (by decide +kernel) e
      · refine zF_blk (m := []) (d := 0) (b := B88_4) (gs := [¬ (400 ≤ (h 64 v0 0))]) (c' := (17, [some (11, v0), some (19, v1), some (0, v2), some (0, v3)], [], (h, hm, o))) K88_4 rfl ⟨q2, trivial⟩ ?_
        obtain ⟨r1, q3, e⟩ := zB_s e
        refine zF_blk (m := []) (d := 0) (b := B88_2) (gs := []) (c' := (20, [some (11, v0), some (19, v1), some (0, v2), some (0, v3)], [(0, 0), (19, v1), (11, v0)], (h, hm, o))) K88_2 rfl trivial ?_
        refine zF_call (k := 89) (cl := 1) (n := 3) (i := .invokevirtual 88) (args := [(11, v0), (19, v1), (0, 0)]) (rest := []) (g1 := (r1, hm, o)) (r1 := none) (by decide +kernel) rfl rfl rfl (st' := []) rfl (S89 (Nat.le_trans (by decide) hd) v0 v1 0 h _ q3) ?_
        refine zF_blk (m := []) (d := 0) (b := B88_3) (gs := []) (c' := (2, [some (11, v0), some (19, v1), some (0, v2), some (0, (wadd v3 1))], [], (r1, hm, o))) K88_3 rfl trivial ?_
        exact hk0 v0 v1 v2 (wadd v3 1) r1 _ e
/-- EchoVale$Course.passHours(LEchoVale$Valley;I)I -/
def F88 (v0 : Int) (v1 : Int) (v2 : Int) (h : zHC) : Option (Int × zHC) := F88_0 zFu v0 v1 v2 0 h
set_option maxRecDepth 100000 in
theorem S88 {spec : zRn zH2} {hm : zHM} {o : Int → Int} {d : Nat} (hd : 6 ≤ d) (v0 : Int) (v1 : Int) (v2 : Int) (h : zHC) (v : (Int × zHC)) (e : F88 v0 v1 v2 h = some v) : zRu2 spec d 88 [(11, v0), (19, v1), (0, v2)] (h, hm, o) (some (0, v.1)) (v.2, hm, o) := by
  refine zF_in (D := 5) (mx := 4) (L := [some (11, v0), some (19, v1), some (0, v2), none]) (by decide +kernel) rfl rfl hd (fun d hd => ?_)
  unfold F88 at e
  refine zF_blk (m := []) (d := 0) (b := B88_0) (gs := []) (c' := (2, [some (11, v0), some (19, v1), some (0, v2), some (0, 0)], [], (h, hm, o))) K88_0 rfl trivial ?_
  exact T88_0 hd zFu v0 v1 v2 0 h _ e
def B87_0 : List zRow := [(11, .iconst (-1), 1, (0, 0, 0))]
theorem K87_0 : zRk 87 B87_0 = true := by decide +kernel
def B87_1 : List zRow := [(28, .aload_n 0, 1, (0, 0, 0)), (29, .getfield 66, 3, (11, 8, 35)), (32, .aload_n 0, 1, (0, 0, 0)), (33, .getfield 56, 3, (11, 6, 7))]
theorem K87_1 : zRk 87 B87_1 = true := by decide +kernel
def B87_2 : List zRow := [(39, .aload_n 0, 1, (0, 0, 0)), (40, .getfield 56, 3, (11, 6, 7)), (43, .aload_n 0, 1, (0, 0, 0)), (44, .getfield 19, 3, (11, 1, 39)), (47, .iload_n 1, 1, (0, 0, 0))]
theorem K87_2 : zRk 87 B87_2 = true := by decide +kernel
def B87_3 : List zRow := [(26, .iconst 0, 1, (0, 0, 0))]
theorem K87_3 : zRk 87 B87_3 = true := by decide +kernel
def B87_4 : List zRow := [(13, .aload_n 0, 1, (0, 0, 0)), (14, .getfield 56, 3, (11, 6, 7)), (17, .getfield 159, 3, (1, 0, 0)), (20, .sipush 400, 3, (0, 0, 0)), (23, .if_icmp .lt 5, 3, (0, 0, 0))]
theorem K87_4 : zRk 87 B87_4 = true := by decide +kernel
def B87_5 : List zRow := [(5, .iload_n 1, 1, (0, 0, 0)), (6, .bipush 100, 2, (0, 0, 0)), (8, .if_icmp .le 5, 3, (0, 0, 0))]
theorem K87_5 : zRk 87 B87_5 = true := by decide +kernel
def B87_6 : List zRow := [(0, .iload_n 1, 1, (0, 0, 0)), (1, .iconst 1, 1, (0, 0, 0)), (2, .if_icmp .lt 9, 3, (0, 0, 0))]
theorem K87_6 : zRk 87 B87_6 = true := by decide +kernel
/-- EchoVale.on(I)I -/
def F87 (v1 : Int) (h : zHC) : Option (Int × zHC) := if v1 < 1 then some ((-1), h) else if v1 ≤ 100 then if (h 64 0 0) < 400 then (F70 0 h).bind fun r1 => (F88 0 0 v1 r1).bind fun r2 => some (r2.1, r2.2) else some (0, h) else some ((-1), h)
set_option maxRecDepth 100000 in
theorem S87 {spec : zRn zH2} {hm : zHM} {o : Int → Int} {d : Nat} (hd : 7 ≤ d) (v1 : Int) (h : zHC) (v : (Int × zHC)) (e : F87 v1 h = some v) : zRu2 spec d 87 [(21, 0), (0, v1)] (h, hm, o) (some (0, v.1)) (v.2, hm, o) := by
  refine zF_in (D := 6) (mx := 2) (L := [some (21, 0), some (0, v1)]) (by decide +kernel) rfl rfl hd (fun d hd => ?_)
  unfold F87 at e
  rcases zI_s e with ⟨q1, e⟩ | ⟨q1, e⟩
  · refine zF_blk (m := []) (d := 1) (b := B87_6) (gs := [v1 < 1]) (c' := (11, [some (21, 0), some (0, v1)], [], (h, hm, o))) K87_6 rfl ⟨q1, trivial⟩ ?_
    refine zF_blk (m := []) (d := 0) (b := B87_0) (gs := []) (c' := (12, [some (21, 0), some (0, v1)], [(0, (-1))], (h, hm, o))) K87_0 rfl trivial ?_
    exact zF_riC (by decide +kernel) e
  · refine zF_blk (m := []) (d := 0) (b := B87_6) (gs := [¬ (v1 < 1)]) (c' := (5, [some (21, 0), some (0, v1)], [], (h, hm, o))) K87_6 rfl ⟨q1, trivial⟩ ?_
    rcases zI_s e with ⟨q2, e⟩ | ⟨q2, e⟩
    · refine zF_blk (m := []) (d := 1) (b := B87_5) (gs := [v1 ≤ 100]) (c' := (13, [some (21, 0), some (0, v1)], [], (h, hm, o))) K87_5 rfl ⟨q2, trivial⟩ ?_
      rcases zI_s e with ⟨q3, e⟩ | ⟨q3, e⟩
      · refine zF_blk (m := []) (d := 1) (b := B87_4) (gs := [(h 64 0 0) < 400]) (c' := (28, [some (21, 0), some (0, v1)], [], (h, hm, o))) K87_4 rfl ⟨q3, trivial⟩ ?_
        obtain ⟨r1, q4, e⟩ := zB_s e
        refine zF_blk (m := []) (d := 0) (b := B87_1) (gs := []) (c' := (36, [some (21, 0), some (0, v1)], [(11, 0), (18, 0)], (h, hm, o))) K87_1 rfl trivial ?_
        refine zF_call (k := 70) (cl := 8) (n := 2) (i := .invokevirtual 217) (args := [(18, 0), (11, 0)]) (rest := []) (g1 := (r1, hm, o)) (r1 := none) (by decide +kernel) rfl rfl rfl (st' := []) rfl (S70 (Nat.le_trans (by decide) hd) 0 h _ q4) ?_
        obtain ⟨r2, q5, e⟩ := zB_s e
        refine zF_blk (m := []) (d := 0) (b := B87_2) (gs := []) (c' := (48, [some (21, 0), some (0, v1)], [(0, v1), (19, 0), (11, 0)], (r1, hm, o))) K87_2 rfl trivial ?_
        refine zF_call (k := 88) (cl := 1) (n := 3) (i := .invokevirtual 231) (args := [(11, 0), (19, 0), (0, v1)]) (rest := []) (g1 := (r2.2, hm, o)) (r1 := some (0, r2.1)) (by decide +kernel) rfl rfl rfl (st' := [(0, r2.1)]) rfl (S88 (Nat.le_trans (by decide) hd) 0 0 v1 r1 _ q5) ?_
        exact zF_riC (by decide +kernel) e
      · refine zF_blk (m := []) (d := 0) (b := B87_4) (gs := [¬ ((h 64 0 0) < 400)]) (c' := (26, [some (21, 0), some (0, v1)], [], (h, hm, o))) K87_4 rfl ⟨q3, trivial⟩ ?_
        refine zF_blk (m := []) (d := 0) (b := B87_3) (gs := []) (c' := (27, [some (21, 0), some (0, v1)], [(0, 0)], (h, hm, o))) K87_3 rfl trivial ?_
        exact zF_riC (by decide +kernel) e
    · refine zF_blk (m := []) (d := 0) (b := B87_5) (gs := [¬ (v1 ≤ 100)]) (c' := (11, [some (21, 0), some (0, v1)], [], (h, hm, o))) K87_5 rfl ⟨q2, trivial⟩ ?_
      refine zF_blk (m := []) (d := 0) (b := B87_0) (gs := []) (c' := (12, [some (21, 0), some (0, v1)], [(0, (-1))], (h, hm, o))) K87_0 rfl trivial ?_
      exact zF_riC (by decide +kernel) e
def B237_0 : List zRow := [(0, .iconst 0, 1, (0, 0, 0)), (1, .istore_n 2, 1, (0, 0, 0))]
theorem K237_0 : zRk 237 B237_0 = true := by decide +kernel
def B237_1 : List zRow := [(12, .aload_n 0, 1, (0, 0, 0)), (13, .getfield 13, 3, (12, 14, 5251442)), (16, .bipush 37, 2, (0, 0, 0)), (18, .iconst 3, 1, (0, 0, 0)), (19, .iload_n 2, 1, (0, 0, 0))]
theorem K237_1 : zRk 237 B237_1 = true := by decide +kernel
def B237_2 : List zRow := [(20, .imul, 1, (0, 0, 0))]
theorem K237_2 : zRk 237 B237_2 = true := by decide +kernel
def B237_3 : List zRow := [(29, .aload_n 0, 1, (0, 0, 0)), (30, .getfield 13, 3, (12, 14, 5251442)), (33, .sipush 210, 3, (0, 0, 0)), (36, .aload_n 0, 1, (0, 0, 0)), (37, .getfield 13, 3, (12, 14, 5251442)), (40, .bipush 37, 2, (0, 0, 0)), (42, .iconst 3, 1, (0, 0, 0)), (43, .iload_n 2, 1, (0, 0, 0))]
theorem K237_3 : zRk 237 B237_3 = true := by decide +kernel
def B237_4 : List zRow := [(44, .imul, 1, (0, 0, 0))]
theorem K237_4 : zRk 237 B237_4 = true := by decide +kernel
def B237_5 : List zRow := [(45, .iadd, 1, (0, 0, 0)), (46, .iaload, 1, (0, 0, 0))]
theorem K237_5 : zRk 237 B237_5 = true := by decide +kernel
def B237_6 : List zRow := [(47, .iadd, 1, (0, 0, 0)), (48, .aload_n 0, 1, (0, 0, 0)), (49, .getfield 13, 3, (12, 14, 5251442)), (52, .bipush 37, 2, (0, 0, 0)), (54, .iconst 3, 1, (0, 0, 0)), (55, .iload_n 2, 1, (0, 0, 0))]
theorem K237_6 : zRk 237 B237_6 = true := by decide +kernel
def B237_7 : List zRow := [(56, .imul, 1, (0, 0, 0))]
theorem K237_7 : zRk 237 B237_7 = true := by decide +kernel
def B237_8 : List zRow := [(57, .iadd, 1, (0, 0, 0)), (58, .iconst 2, 1, (0, 0, 0)), (59, .iadd, 1, (0, 0, 0)), (60, .iaload, 1, (0, 0, 0)), (61, .iastore, 1, (0, 0, 0))]
theorem K237_8 : zRk 237 B237_8 = true := by decide +kernel
def B237_9 : List zRow := [(21, .iadd, 1, (0, 0, 0)), (22, .iconst 1, 1, (0, 0, 0)), (23, .iadd, 1, (0, 0, 0)), (24, .iaload, 1, (0, 0, 0)), (25, .iload_n 1, 1, (0, 0, 0)), (26, .if_icmp .ne 36, 3, (0, 0, 0))]
theorem K237_9 : zRk 237 B237_9 = true := by decide +kernel
def B237_10 : List zRow := [(2, .iload_n 2, 1, (0, 0, 0)), (3, .aload_n 0, 1, (0, 0, 0)), (4, .getfield 13, 3, (12, 14, 5251442)), (7, .iconst 4, 1, (0, 0, 0)), (8, .iaload, 1, (0, 0, 0)), (9, .if_icmp .ge 59, 3, (0, 0, 0))]
theorem K237_10 : zRk 237 B237_10 = true := by decide +kernel
def B237_11 : List zRow := [(62, .iinc 2 1, 3, (0, 0, 0)), (65, .goto (-63), 3, (0, 0, 0))]
theorem K237_11 : zRk 237 B237_11 = true := by decide +kernel
def F237_1 (k0 : Int → Int → zHM → Option zHM) (v1 : Int) (v2 : Int) (h : zHM) : Option zHM := k0 v1 (wadd v2 1) h
set_option maxRecDepth 100000 in
theorem T237_1 {spec : zRn zH2} {hc : zHC} {o : Int → Int} {d : Nat} (hd : 0 ≤ d) (k0 : Int → Int → zHM → Option zHM) (hk0 : ∀ (v1 : Int) (v2 : Int) (h : zHM) (v : zHM), k0 v1 v2 h = some v → zFin 0 (fun _ => 0) (zRu2 spec d) 237 none (hc, v, o) (2, [some (22, 0), some (0, v1), some (0, v2)], [], (hc, h, o))) (v1 : Int) (v2 : Int) (h : zHM) (v : zHM) (e : F237_1 k0 v1 v2 h = some v) : zFin 0 (fun _ => 0) (zRu2 spec d) 237 none (hc, v, o) (62, [some (22, 0), some (0, v1), some (0, v2)], [], (hc, h, o)) := by
  unfold F237_1 at e
  refine zF_blk (m := []) (d := 0) (b := B237_11) (gs := []) (c' := (2, [some (22, 0), some (0, v1), some (0, (wadd v2 1))], [], (hc, h, o))) K237_11 rfl trivial ?_
  exact hk0 v1 (wadd v2 1) h _ e
def F237_0 : Nat → Int → Int → zHM → Option zHM
  | 0, _, _, _ => none
  | n + 1, v1, v2, h => if (h 14 4) ≤ v2 then some h else zG (0 ≤ (wadd (wadd 37 (wmul 3 v2)) 1) ∧ (wadd (wadd 37 (wmul 3 v2)) 1) < 2140) (if ¬ (h 14 (wadd (wadd 37 (wmul 3 v2)) 1)) = v1 then F237_1 (F237_0 n) v1 v2 h else zG (0 ≤ (wadd 37 (wmul 3 v2)) ∧ (wadd 37 (wmul 3 v2)) < 2140) (zG (0 ≤ (wadd (wadd 37 (wmul 3 v2)) 2) ∧ (wadd (wadd 37 (wmul 3 v2)) 2) < 2140) (zG (0 ≤ (wadd 210 (h 14 (wadd 37 (wmul 3 v2)))) ∧ (wadd 210 (h 14 (wadd 37 (wmul 3 v2)))) < 2140) (F237_1 (F237_0 n) v1 v2 (mset h 14 (wadd 210 (h 14 (wadd 37 (wmul 3 v2)))) (h 14 (wadd (wadd 37 (wmul 3 v2)) 2)))))))
set_option maxRecDepth 100000 in
theorem T237_0 {spec : zRn zH2} {hc : zHC} {o : Int → Int} {d : Nat} (hd : 0 ≤ d) : ∀ (n : Nat) (v1 : Int) (v2 : Int) (h : zHM) (v : zHM), F237_0 n v1 v2 h = some v → zFin 0 (fun _ => 0) (zRu2 spec d) 237 none (hc, v, o) (2, [some (22, 0), some (0, v1), some (0, v2)], [], (hc, h, o)) := by
  intro n
  induction n with
  | zero => intro v1 v2 h v e; unfold F237_0 at e; cases e
  | succ n hk0 =>
    intro v1 v2 h v e
    unfold F237_0 at e
    rcases zI_s e with ⟨q1, e⟩ | ⟨q1, e⟩
    · refine zF_blk (m := []) (d := 1) (b := B237_10) (gs := [0 ≤ 4 ∧ 4 < 2140, (h 14 4) ≤ v2]) (c' := (68, [some (22, 0), some (0, v1), some (0, v2)], [], (hc, h, o))) K237_10 rfl ⟨by decide, q1, trivial⟩ ?_
      obtain rfl := Option.some.inj e
      exact zF_rv (by decide +kernel)
    · refine zF_blk (m := []) (d := 0) (b := B237_10) (gs := [0 ≤ 4 ∧ 4 < 2140, ¬ ((h 14 4) ≤ v2)]) (c' := (12, [some (22, 0), some (0, v1), some (0, v2)], [], (hc, h, o))) K237_10 rfl ⟨by decide, q1, trivial⟩ ?_
      obtain ⟨q2, e⟩ := zG_s e
      refine zF_blk (m := []) (d := 0) (b := B237_1) (gs := []) (c' := (20, [some (22, 0), some (0, v1), some (0, v2)], [(0, v2), (0, 3), (0, 37), (1344370422, 0)], (hc, h, o))) K237_1 rfl trivial ?_
      refine zF_blk (m := []) (d := 0) (b := B237_2) (gs := []) (c' := (21, [some (22, 0), some (0, v1), some (0, v2)], [(0, (wmul 3 v2)), (0, 37), (1344370422, 0)], (hc, h, o))) K237_2 rfl trivial ?_
      rcases zI_s e with ⟨q3, e⟩ | ⟨q3, e⟩
      · refine zF_blk (m := []) (d := 1) (b := B237_9) (gs := [0 ≤ (wadd (wadd 37 (wmul 3 v2)) 1) ∧ (wadd (wadd 37 (wmul 3 v2)) 1) < 2140, ¬ (h 14 (wadd (wadd 37 (wmul 3 v2)) 1)) = v1]) (c' := (62, [some (22, 0), some (0, v1), some (0, v2)], [], (hc, h, o))) K237_9 rfl ⟨q2, q3, trivial⟩ ?_
        exact T237_1 hd (F237_0 n) hk0 v1 v2 h _ e
      · refine zF_blk (m := []) (d := 0) (b := B237_9) (gs := [0 ≤ (wadd (wadd 37 (wmul 3 v2)) 1) ∧ (wadd (wadd 37 (wmul 3 v2)) 1) < 2140, ¬ (¬ (h 14 (wadd (wadd 37 (wmul 3 v2)) 1)) = v1)]) (c' := (29, [some (22, 0), some (0, v1), some (0, v2)], [], (hc, h, o))) K237_9 rfl ⟨q2, q3, trivial⟩ ?_
        obtain ⟨q4, e⟩ := zG_s e
        obtain ⟨q5, e⟩ := zG_s e
        obtain ⟨q6, e⟩ := zG_s e
        refine zF_blk (m := []) (d := 0) (b := B237_3) (gs := []) (c' := (44, [some (22, 0), some (0, v1), some (0, v2)], [(0, v2), (0, 3), (0, 37), (1344370422, 0), (0, 210), (1344370422, 0)], (hc, h, o))) K237_3 rfl trivial ?_
        refine zF_blk (m := []) (d := 0) (b := B237_4) (gs := []) (c' := (45, [some (22, 0), some (0, v1), some (0, v2)], [(0, (wmul 3 v2)), (0, 37), (1344370422, 0), (0, 210), (1344370422, 0)], (hc, h, o))) K237_4 rfl trivial ?_
        refine zF_blk (m := []) (d := 0) (b := B237_5) (gs := [0 ≤ (wadd 37 (wmul 3 v2)) ∧ (wadd 37 (wmul 3 v2)) < 2140]) (c' := (47, [some (22, 0), some (0, v1), some (0, v2)], [(0, (h 14 (wadd 37 (wmul 3 v2)))), (0, 210), (1344370422, 0)], (hc, h, o))) K237_5 rfl ⟨q4, trivial⟩ ?_
        refine zF_blk (m := []) (d := 0) (b := B237_6) (gs := []) (c' := (56, [some (22, 0), some (0, v1), some (0, v2)], [(0, v2), (0, 3), (0, 37), (1344370422, 0), (0, (wadd 210 (h 14 (wadd 37 (wmul 3 v2))))), (1344370422, 0)], (hc, h, o))) K237_6 rfl trivial ?_
        refine zF_blk (m := []) (d := 0) (b := B237_7) (gs := []) (c' := (57, [some (22, 0), some (0, v1), some (0, v2)], [(0, (wmul 3 v2)), (0, 37), (1344370422, 0), (0, (wadd 210 (h 14 (wadd 37 (wmul 3 v2))))), (1344370422, 0)], (hc, h, o))) K237_7 rfl trivial ?_
        refine zF_blk (m := []) (d := 0) (b := B237_8) (gs := [0 ≤ (wadd (wadd 37 (wmul 3 v2)) 2) ∧ (wadd (wadd 37 (wmul 3 v2)) 2) < 2140, 0 ≤ (wadd 210 (h 14 (wadd 37 (wmul 3 v2)))) ∧ (wadd 210 (h 14 (wadd 37 (wmul 3 v2)))) < 2140]) (c' := (62, [some (22, 0), some (0, v1), some (0, v2)], [], (hc, (mset h 14 (wadd 210 (h 14 (wadd 37 (wmul 3 v2)))) (h 14 (wadd (wadd 37 (wmul 3 v2)) 2))), o))) K237_8 rfl ⟨q5, q6, trivial⟩ ?_
        exact T237_1 hd (F237_0 n) hk0 v1 v2 (mset h 14 (wadd 210 (h 14 (wadd 37 (wmul 3 v2)))) (h 14 (wadd (wadd 37 (wmul 3 v2)) 2))) _ e
/-- EchoValeModel.moveAll(I)V -/
def F237 (v1 : Int) (h : zHM) : Option zHM := F237_0 zFu v1 0 h
set_option maxRecDepth 100000 in
theorem S237 {spec : zRn zH2} {hc : zHC} {o : Int → Int} {d : Nat} (hd : 1 ≤ d) (v1 : Int) (h : zHM) (v : zHM) (e : F237 v1 h = some v) : zRu2 spec d 237 [(22, 0), (0, v1)] (hc, h, o) none (hc, v, o) := by
  refine zF_in (D := 0) (mx := 3) (L := [some (22, 0), some (0, v1), none]) (by decide +kernel) rfl rfl hd (fun d hd => ?_)
  unfold F237 at e
  refine zF_blk (m := []) (d := 0) (b := B237_0) (gs := []) (c' := (2, [some (22, 0), some (0, v1), some (0, 0)], [], (hc, h, o))) K237_0 rfl trivial ?_
  exact T237_0 hd zFu v1 0 h _ e
