/-! Functions of the methods, by wip/gen/lift.py. -/
def B116_0 : List zRow := [(0, .aload_n 0, 1, (0, 0, 0)), (1, .iload_n 1, 1, (0, 0, 0))]
theorem K116_0 : zRk 116 B116_0 = true := by decide +kernel
def B116_1 : List zRow := [(23, .iconst (-1), 1, (0, 0, 0))]
theorem K116_1 : zRk 116 B116_1 = true := by decide +kernel
def B116_2 : List zRow := [(8, .aload_n 0, 1, (0, 0, 0)), (9, .iload_n 2, 1, (0, 0, 0))]
theorem K116_2 : zRk 116 B116_2 = true := by decide +kernel
def B116_3 : List zRow := [(16, .iload_n 3, 1, (0, 0, 0))]
theorem K116_3 : zRk 116 B116_3 = true := by decide +kernel
def B116_4 : List zRow := [(25, .aload_n 0, 1, (0, 0, 0)), (26, .getfield 60, 3, (11, 7, 135)), (29, .aload_n 0, 1, (0, 0, 0)), (30, .getfield 56, 3, (11, 6, 7))]
theorem K116_4 : zRk 116 B116_4 = true := by decide +kernel
def B116_5 : List zRow := [(36, .iconst 0, 1, (0, 0, 0)), (37, .istore 4, 2, (0, 0, 0)), (39, .iconst 0, 1, (0, 0, 0)), (40, .istore 5, 2, (0, 0, 0))]
theorem K116_5 : zRk 116 B116_5 = true := by decide +kernel
def B116_6 : List zRow := [(20, .ifCond .ne 5, 3, (0, 0, 0))]
theorem K116_6 : zRk 116 B116_6 = true := by decide +kernel
def B116_7 : List zRow := [(13, .ifCond .eq 10, 3, (0, 0, 0))]
theorem K116_7 : zRk 116 B116_7 = true := by decide +kernel
def B116_8 : List zRow := [(5, .ifCond .eq 18, 3, (0, 0, 0))]
theorem K116_8 : zRk 116 B116_8 = true := by decide +kernel
def B116_9 : List zRow := [(103, .iload 4, 2, (0, 0, 0))]
theorem K116_9 : zRk 116 B116_9 = true := by decide +kernel
def B116_10 : List zRow := [(61, .aload_n 0, 1, (0, 0, 0)), (62, .getfield 60, 3, (11, 7, 135)), (65, .aload_n 0, 1, (0, 0, 0)), (66, .getfield 19, 3, (11, 1, 39)), (69, .iconst 0, 1, (0, 0, 0))]
theorem K116_10 : zRk 116 B116_10 = true := by decide +kernel
def B116_11 : List zRow := [(94, .iinc 4 1, 3, (0, 0, 0))]
theorem K116_11 : zRk 116 B116_11 = true := by decide +kernel
def B116_12 : List zRow := [(73, .aload_n 0, 1, (0, 0, 0)), (74, .getfield 60, 3, (11, 7, 135)), (77, .getfield 177, 3, (1, 3, 5242906)), (80, .iload_n 1, 1, (0, 0, 0)), (81, .iaload, 1, (0, 0, 0)), (82, .aload_n 0, 1, (0, 0, 0)), (83, .getfield 60, 3, (11, 7, 135)), (86, .getfield 177, 3, (1, 3, 5242906)), (89, .iload_n 2, 1, (0, 0, 0)), (90, .iaload, 1, (0, 0, 0)), (91, .if_icmp .ne 6, 3, (0, 0, 0))]
theorem K116_12 : zRk 116 B116_12 = true := by decide +kernel
def B116_13 : List zRow := [(48, .aload_n 0, 1, (0, 0, 0)), (49, .getfield 60, 3, (11, 7, 135)), (52, .getfield 159, 3, (1, 0, 0)), (55, .sipush 400, 3, (0, 0, 0)), (58, .if_icmp .ge 45, 3, (0, 0, 0))]
theorem K116_13 : zRk 116 B116_13 = true := by decide +kernel
def B116_14 : List zRow := [(42, .iload 5, 2, (0, 0, 0)), (44, .iload_n 3, 1, (0, 0, 0)), (45, .if_icmp .ge 58, 3, (0, 0, 0))]
theorem K116_14 : zRk 116 B116_14 = true := by decide +kernel
def B116_15 : List zRow := [(97, .iinc 5 1, 3, (0, 0, 0)), (100, .goto (-58), 3, (0, 0, 0))]
theorem K116_15 : zRk 116 B116_15 = true := by decide +kernel
def F116_1 (k0 : Int → Int → Int → Int → Int → zHC → Option (Int × zHC)) (v1 : Int) (v2 : Int) (v3 : Int) (v4 : Int) (v5 : Int) (h : zHC) : Option (Int × zHC) := k0 v1 v2 v3 v4 (wadd v5 1) h
set_option maxRecDepth 100000 in
theorem T116_1 {spec : zRn zH2} {hm : zHM} {o : Int → Int} {d : Nat} (hd : 5 ≤ d) (k0 : Int → Int → Int → Int → Int → zHC → Option (Int × zHC)) (hk0 : ∀ (v1 : Int) (v2 : Int) (v3 : Int) (v4 : Int) (v5 : Int) (h : zHC) (v : (Int × zHC)), k0 v1 v2 v3 v4 v5 h = some v → zFin 0 (fun _ => 0) (zRu2 spec d) 116 (some (0, v.1)) (v.2, hm, o) (42, [some (21, 0), some (0, v1), some (0, v2), some (0, v3), some (0, v4), some (0, v5)], [], (h, hm, o))) (v1 : Int) (v2 : Int) (v3 : Int) (v4 : Int) (v5 : Int) (h : zHC) (v : (Int × zHC)) (e : F116_1 k0 v1 v2 v3 v4 v5 h = some v) : zFin 0 (fun _ => 0) (zRu2 spec d) 116 (some (0, v.1)) (v.2, hm, o) (97, [some (21, 0), some (0, v1), some (0, v2), some (0, v3), some (0, v4), some (0, v5)], [], (h, hm, o)) := by
  unfold F116_1 at e
  refine zF_blk (m := []) (d := 0) (b := B116_15) (gs := []) (c' := (42, [some (21, 0), some (0, v1), some (0, v2), some (0, v3), some (0, v4), some (0, (wadd v5 1))], [], (h, hm, o))) K116_15 rfl trivial ?_
  exact hk0 v1 v2 v3 v4 (wadd v5 1) h _ e
def F116_0 : Nat → Int → Int → Int → Int → Int → zHC → Option (Int × zHC)
  | 0, _, _, _, _, _, _ => none
  | n + 1, v1, v2, v3, v4, v5, h => if v3 ≤ v5 then some (v4, h) else if 400 ≤ (h 64 1 0) then some (v4, h) else (F89b 0 h).bind fun r1 => zG (0 ≤ v1 ∧ v1 < 6) (zG (0 ≤ v2 ∧ v2 < 6) (if ¬ (r1 67 1 v1) = (r1 67 1 v2) then F116_1 (F116_0 n) v1 v2 v3 v4 v5 r1 else F116_1 (F116_0 n) v1 v2 v3 (wadd v4 1) v5 r1))
set_option maxRecDepth 100000 in
theorem T116_0 {spec : zRn zH2} {hm : zHM} {o : Int → Int} {d : Nat} (hd : 5 ≤ d) : ∀ (n : Nat) (v1 : Int) (v2 : Int) (v3 : Int) (v4 : Int) (v5 : Int) (h : zHC) (v : (Int × zHC)), F116_0 n v1 v2 v3 v4 v5 h = some v → zFin 0 (fun _ => 0) (zRu2 spec d) 116 (some (0, v.1)) (v.2, hm, o) (42, [some (21, 0), some (0, v1), some (0, v2), some (0, v3), some (0, v4), some (0, v5)], [], (h, hm, o)) := by
  intro n
  induction n with
  | zero => intro v1 v2 v3 v4 v5 h v e; unfold F116_0 at e; cases e
  | succ n hk0 =>
    intro v1 v2 v3 v4 v5 h v e
    unfold F116_0 at e
    rcases zI_s e with ⟨q1, e⟩ | ⟨q1, e⟩
    · refine zF_blk (m := []) (d := 1) (b := B116_14) (gs := [v3 ≤ v5]) (c' := (103, [some (21, 0), some (0, v1), some (0, v2), some (0, v3), some (0, v4), some (0, v5)], [], (h, hm, o))) K116_14 rfl ⟨q1, trivial⟩ ?_
      refine zF_blk (m := []) (d := 0) (b := B116_9) (gs := []) (c' := (105, [some (21, 0), some (0, v1), some (0, v2), some (0, v3), some (0, v4), some (0, v5)], [(0, v4)], (h, hm, o))) K116_9 rfl trivial ?_
      obtain rfl := Option.some.inj e
      exact zF_ri (by decide +kernel)
    · refine zF_blk (m := []) (d := 0) (b := B116_14) (gs := [¬ (v3 ≤ v5)]) (c' := (48, [some (21, 0), some (0, v1), some (0, v2), some (0, v3), some (0, v4), some (0, v5)], [], (h, hm, o))) K116_14 rfl ⟨q1, trivial⟩ ?_
      rcases zI_s e with ⟨q2, e⟩ | ⟨q2, e⟩
      · refine zF_blk (m := []) (d := 1) (b := B116_13) (gs := [400 ≤ (h 64 1 0)]) (c' := (103, [some (21, 0), some (0, v1), some (0, v2), some (0, v3), some (0, v4), some (0, v5)], [], (h, hm, o))) K116_13 rfl ⟨q2, trivial⟩ ?_
        refine zF_blk (m := []) (d := 0) (b := B116_9) (gs := []) (c' := (105, [some (21, 0), some (0, v1), some (0, v2), some (0, v3), some (0, v4), some (0, v5)], [(0, v4)], (h, hm, o))) K116_9 rfl trivial ?_
        obtain rfl := Option.some.inj e
        exact zF_ri (by decide +kernel)
      · refine zF_blk (m := []) (d := 0) (b := B116_13) (gs := [¬ (400 ≤ (h 64 1 0))]) (c' := (61, [some (21, 0), some (0, v1), some (0, v2), some (0, v3), some (0, v4), some (0, v5)], [], (h, hm, o))) K116_13 rfl ⟨q2, trivial⟩ ?_
        obtain ⟨r1, q3, e⟩ := zB_s e
        refine zF_blk (m := []) (d := 0) (b := B116_10) (gs := []) (c' := (70, [some (21, 0), some (0, v1), some (0, v2), some (0, v3), some (0, v4), some (0, v5)], [(0, 0), (19, 0), (11, 1)], (h, hm, o))) K116_10 rfl trivial ?_
        refine zF_call (k := 89) (cl := 1) (n := 3) (i := .invokevirtual 268) (args := [(11, 1), (19, 0), (0, 0)]) (rest := []) (g1 := (r1, hm, o)) (r1 := none) (by decide +kernel) rfl rfl rfl (st' := []) rfl (S89b (Nat.le_trans (by decide) hd) 0 h _ q3) ?_
        obtain ⟨q4, e⟩ := zG_s e
        obtain ⟨q5, e⟩ := zG_s e
        rcases zI_s e with ⟨q6, e⟩ | ⟨q6, e⟩
        · refine zF_blk (m := []) (d := 1) (b := B116_12) (gs := [0 ≤ v1 ∧ v1 < 6, 0 ≤ v2 ∧ v2 < 6, ¬ (r1 67 1 v1) = (r1 67 1 v2)]) (c' := (97, [some (21, 0), some (0, v1), some (0, v2), some (0, v3), some (0, v4), some (0, v5)], [], (r1, hm, o))) K116_12 rfl ⟨q4, q5, q6, trivial⟩ ?_
          exact T116_1 hd (F116_0 n) hk0 v1 v2 v3 v4 v5 r1 _ e
        · refine zF_blk (m := []) (d := 0) (b := B116_12) (gs := [0 ≤ v1 ∧ v1 < 6, 0 ≤ v2 ∧ v2 < 6, ¬ (¬ (r1 67 1 v1) = (r1 67 1 v2))]) (c' := (94, [some (21, 0), some (0, v1), some (0, v2), some (0, v3), some (0, v4), some (0, v5)], [], (r1, hm, o))) K116_12 rfl ⟨q4, q5, q6, trivial⟩ ?_
          refine zF_blk (m := []) (d := 0) (b := B116_11) (gs := []) (c' := (97, [some (21, 0), some (0, v1), some (0, v2), some (0, v3), some (0, (wadd v4 1)), some (0, v5)], [], (r1, hm, o))) K116_11 rfl trivial ?_
          exact T116_1 hd (F116_0 n) hk0 v1 v2 v3 (wadd v4 1) v5 r1 _ e
/-- EchoVale.meets(III)I -/
def F116 (v1 : Int) (v2 : Int) (v3 : Int) (h : zHC) : Option (Int × zHC) := (F61 v1 h).bind fun r1 => if r1 = 0 then some ((-1), h) else (F61 v2 h).bind fun r2 => if r2 = 0 then some ((-1), h) else (F99 v3).bind fun r3 => if ¬ r3 = 0 then (F72c h).bind fun r4 => F116_0 zFu v1 v2 v3 0 0 r4 else some ((-1), h)
set_option maxRecDepth 100000 in
theorem S116 {spec : zRn zH2} {hm : zHM} {o : Int → Int} {d : Nat} (hd : 6 ≤ d) (v1 : Int) (v2 : Int) (v3 : Int) (h : zHC) (v : (Int × zHC)) (e : F116 v1 v2 v3 h = some v) : zRu2 spec d 116 [(21, 0), (0, v1), (0, v2), (0, v3)] (h, hm, o) (some (0, v.1)) (v.2, hm, o) := by
  refine zF_in (D := 5) (mx := 6) (L := [some (21, 0), some (0, v1), some (0, v2), some (0, v3), none, none]) (by decide +kernel) rfl rfl hd (fun d hd => ?_)
  unfold F116 at e
  obtain ⟨r1, q1, e⟩ := zB_s e
  refine zF_blk (m := []) (d := 0) (b := B116_0) (gs := []) (c' := (2, [some (21, 0), some (0, v1), some (0, v2), some (0, v3), none, none], [(0, v1), (21, 0)], (h, hm, o))) K116_0 rfl trivial ?_
  refine zF_call (k := 61) (cl := 11) (n := 2) (i := .invokevirtual 172) (args := [(21, 0), (0, v1)]) (rest := []) (g1 := (h, hm, o)) (r1 := some (0, r1)) (by decide +kernel) rfl rfl rfl (st' := [(0, r1)]) rfl (S61 (Nat.le_trans (by decide) hd) v1 h _ q1) ?_
  rcases zI_s e with ⟨q2, e⟩ | ⟨q2, e⟩
  · refine zF_blk (m := []) (d := 1) (b := B116_8) (gs := [r1 = 0]) (c' := (23, [some (21, 0), some (0, v1), some (0, v2), some (0, v3), none, none], [], (h, hm, o))) K116_8 rfl ⟨q2, trivial⟩ ?_
    refine zF_blk (m := []) (d := 0) (b := B116_1) (gs := []) (c' := (24, [some (21, 0), some (0, v1), some (0, v2), some (0, v3), none, none], [(0, (-1))], (h, hm, o))) K116_1 rfl trivial ?_
    obtain rfl := Option.some.inj e
    exact zF_ri (by decide +kernel)
  · refine zF_blk (m := []) (d := 0) (b := B116_8) (gs := [¬ (r1 = 0)]) (c' := (8, [some (21, 0), some (0, v1), some (0, v2), some (0, v3), none, none], [], (h, hm, o))) K116_8 rfl ⟨q2, trivial⟩ ?_
    obtain ⟨r2, q3, e⟩ := zB_s e
    refine zF_blk (m := []) (d := 0) (b := B116_2) (gs := []) (c' := (10, [some (21, 0), some (0, v1), some (0, v2), some (0, v3), none, none], [(0, v2), (21, 0)], (h, hm, o))) K116_2 rfl trivial ?_
    refine zF_call (k := 61) (cl := 11) (n := 2) (i := .invokevirtual 172) (args := [(21, 0), (0, v2)]) (rest := []) (g1 := (h, hm, o)) (r1 := some (0, r2)) (by decide +kernel) rfl rfl rfl (st' := [(0, r2)]) rfl (S61 (Nat.le_trans (by decide) hd) v2 h _ q3) ?_
    rcases zI_s e with ⟨q4, e⟩ | ⟨q4, e⟩
    · refine zF_blk (m := []) (d := 1) (b := B116_7) (gs := [r2 = 0]) (c' := (23, [some (21, 0), some (0, v1), some (0, v2), some (0, v3), none, none], [], (h, hm, o))) K116_7 rfl ⟨q4, trivial⟩ ?_
      refine zF_blk (m := []) (d := 0) (b := B116_1) (gs := []) (c' := (24, [some (21, 0), some (0, v1), some (0, v2), some (0, v3), none, none], [(0, (-1))], (h, hm, o))) K116_1 rfl trivial ?_
      obtain rfl := Option.some.inj e
      exact zF_ri (by decide +kernel)
    · refine zF_blk (m := []) (d := 0) (b := B116_7) (gs := [¬ (r2 = 0)]) (c' := (16, [some (21, 0), some (0, v1), some (0, v2), some (0, v3), none, none], [], (h, hm, o))) K116_7 rfl ⟨q4, trivial⟩ ?_
      obtain ⟨r3, q5, e⟩ := zB_s e
      refine zF_blk (m := []) (d := 0) (b := B116_3) (gs := []) (c' := (17, [some (21, 0), some (0, v1), some (0, v2), some (0, v3), none, none], [(0, v3)], (h, hm, o))) K116_3 rfl trivial ?_
      refine zF_call (k := 99) (cl := 11) (n := 1) (i := .invokestatic 242) (args := [(0, v3)]) (rest := []) (g1 := (h, hm, o)) (r1 := some (0, r3)) (by decide +kernel) rfl rfl rfl (st' := [(0, r3)]) rfl (S99 (Nat.le_trans (by decide) hd) v3 h _ q5) ?_
      rcases zI_s e with ⟨q6, e⟩ | ⟨q6, e⟩
      · refine zF_blk (m := []) (d := 1) (b := B116_6) (gs := [¬ r3 = 0]) (c' := (25, [some (21, 0), some (0, v1), some (0, v2), some (0, v3), none, none], [], (h, hm, o))) K116_6 rfl ⟨q6, trivial⟩ ?_
        obtain ⟨r4, q7, e⟩ := zB_s e
        refine zF_blk (m := []) (d := 0) (b := B116_4) (gs := []) (c' := (33, [some (21, 0), some (0, v1), some (0, v2), some (0, v3), none, none], [(11, 0), (11, 1)], (h, hm, o))) K116_4 rfl trivial ?_
        refine zF_call (k := 72) (cl := 1) (n := 2) (i := .invokevirtual 276) (args := [(11, 1), (11, 0)]) (rest := []) (g1 := (r4, hm, o)) (r1 := none) (by decide +kernel) rfl rfl rfl (st' := []) rfl (S72c (Nat.le_trans (by decide) hd)  h _ q7) ?_
        refine zF_blk (m := []) (d := 0) (b := B116_5) (gs := []) (c' := (42, [some (21, 0), some (0, v1), some (0, v2), some (0, v3), some (0, 0), some (0, 0)], [], (r4, hm, o))) K116_5 rfl trivial ?_
        exact T116_0 hd zFu v1 v2 v3 0 0 r4 _ e
      · refine zF_blk (m := []) (d := 0) (b := B116_6) (gs := [¬ (¬ r3 = 0)]) (c' := (23, [some (21, 0), some (0, v1), some (0, v2), some (0, v3), none, none], [], (h, hm, o))) K116_6 rfl ⟨q6, trivial⟩ ?_
        refine zF_blk (m := []) (d := 0) (b := B116_1) (gs := []) (c' := (24, [some (21, 0), some (0, v1), some (0, v2), some (0, v3), none, none], [(0, (-1))], (h, hm, o))) K116_1 rfl trivial ?_
        obtain rfl := Option.some.inj e
        exact zF_ri (by decide +kernel)
def B257_0 : List zRow := [(0, .aload_n 0, 1, (0, 0, 0)), (1, .iconst 0, 1, (0, 0, 0)), (2, .putfield 81, 3, (12, 0, 0)), (5, .aload_n 0, 1, (0, 0, 0)), (6, .iload_n 1, 1, (0, 0, 0))]
theorem K257_0 : zRk 257 B257_0 = true := by decide +kernel
def B257_1 : List zRow := [(28, .iconst (-1), 1, (0, 0, 0))]
theorem K257_1 : zRk 257 B257_1 = true := by decide +kernel
def B257_2 : List zRow := [(13, .aload_n 0, 1, (0, 0, 0)), (14, .iload_n 2, 1, (0, 0, 0))]
theorem K257_2 : zRk 257 B257_2 = true := by decide +kernel
def B257_3 : List zRow := [(21, .iload_n 3, 1, (0, 0, 0))]
theorem K257_3 : zRk 257 B257_3 = true := by decide +kernel
def B257_4 : List zRow := [(30, .aload_n 0, 1, (0, 0, 0))]
theorem K257_4 : zRk 257 B257_4 = true := by decide +kernel
def B257_5 : List zRow := [(34, .iconst 0, 1, (0, 0, 0)), (35, .istore 4, 2, (0, 0, 0)), (37, .iconst 0, 1, (0, 0, 0)), (38, .istore 5, 2, (0, 0, 0))]
theorem K257_5 : zRk 257 B257_5 = true := by decide +kernel
def B257_6 : List zRow := [(25, .ifCond .ne 5, 3, (0, 0, 0))]
theorem K257_6 : zRk 257 B257_6 = true := by decide +kernel
def B257_7 : List zRow := [(18, .ifCond .eq 10, 3, (0, 0, 0))]
theorem K257_7 : zRk 257 B257_7 = true := by decide +kernel
def B257_8 : List zRow := [(10, .ifCond .eq 18, 3, (0, 0, 0))]
theorem K257_8 : zRk 257 B257_8 = true := by decide +kernel
def B257_9 : List zRow := [(60, .aload_n 0, 1, (0, 0, 0)), (61, .getfield 13, 3, (12, 14, 5251442)), (64, .sipush 209, 3, (0, 0, 0)), (67, .dup2, 1, (0, 0, 0)), (68, .iaload, 1, (0, 0, 0)), (69, .iconst 1, 1, (0, 0, 0)), (70, .iadd, 1, (0, 0, 0)), (71, .iastore, 1, (0, 0, 0)), (72, .aload_n 0, 1, (0, 0, 0)), (73, .aload_n 0, 1, (0, 0, 0)), (74, .getfield 13, 3, (12, 14, 5251442)), (77, .sipush 209, 3, (0, 0, 0)), (80, .iaload, 1, (0, 0, 0))]
theorem K257_9 : zRk 257 B257_9 = true := by decide +kernel
def B257_10 : List zRow := [(84, .aload_n 0, 1, (0, 0, 0)), (85, .getfield 13, 3, (12, 14, 5251442)), (88, .sipush 210, 3, (0, 0, 0)), (91, .iload_n 1, 1, (0, 0, 0))]
theorem K257_10 : zRk 257 B257_10 = true := by decide +kernel
def B257_11 : List zRow := [(92, .iadd, 1, (0, 0, 0)), (93, .iaload, 1, (0, 0, 0)), (94, .aload_n 0, 1, (0, 0, 0)), (95, .getfield 13, 3, (12, 14, 5251442)), (98, .sipush 210, 3, (0, 0, 0)), (101, .iload_n 2, 1, (0, 0, 0))]
theorem K257_11 : zRk 257 B257_11 = true := by decide +kernel
def B257_12 : List zRow := [(107, .iinc 4 1, 3, (0, 0, 0))]
theorem K257_12 : zRk 257 B257_12 = true := by decide +kernel
def B257_13 : List zRow := [(102, .iadd, 1, (0, 0, 0)), (103, .iaload, 1, (0, 0, 0)), (104, .if_icmp .ne 6, 3, (0, 0, 0))]
theorem K257_13 : zRk 257 B257_13 = true := by decide +kernel
def B257_14 : List zRow := [(46, .aload_n 0, 1, (0, 0, 0)), (47, .getfield 13, 3, (12, 14, 5251442)), (50, .sipush 209, 3, (0, 0, 0)), (53, .iaload, 1, (0, 0, 0)), (54, .sipush 400, 3, (0, 0, 0)), (57, .if_icmp .ge 59, 3, (0, 0, 0))]
theorem K257_14 : zRk 257 B257_14 = true := by decide +kernel
def B257_15 : List zRow := [(40, .iload 5, 2, (0, 0, 0)), (42, .iload_n 3, 1, (0, 0, 0)), (43, .if_icmp .ge 73, 3, (0, 0, 0))]
theorem K257_15 : zRk 257 B257_15 = true := by decide +kernel
def B257_16 : List zRow := [(110, .iinc 5 1, 3, (0, 0, 0)), (113, .goto (-73), 3, (0, 0, 0))]
theorem K257_16 : zRk 257 B257_16 = true := by decide +kernel
def B257_17 : List zRow := [(116, .aload_n 0, 1, (0, 0, 0))]
theorem K257_17 : zRk 257 B257_17 = true := by decide +kernel
def B257_18 : List zRow := [(120, .iload 4, 2, (0, 0, 0))]
theorem K257_18 : zRk 257 B257_18 = true := by decide +kernel
def F257_1 (v4 : Int) (h : zHM) : Option (Int × zHM) := (F245 h).bind fun r1 => some (v4, r1)
set_option maxRecDepth 100000 in
theorem T257_1 {spec : zRn zH2} {hc : zHC} {o : Int → Int} {d : Nat} (hd : 2 ≤ d) (v4 : Int) (h : zHM) (v : (Int × zHM)) (e : F257_1 v4 h = some v) : zFin 0 (fun _ => 0) (zRu2 spec d) 257 (some (0, v.1)) (hc, v.2, o) (116, [some (22, 0), none, none, none, some (0, v4), none], [], (hc, h, o)) := by
  unfold F257_1 at e
  obtain ⟨r1, q1, e⟩ := zB_s e
  refine zF_blk (m := []) (d := 0) (b := B257_17) (gs := []) (c' := (117, [some (22, 0), none, none, none, some (0, v4), none], [(22, 0)], (hc, h, o))) K257_17 rfl trivial ?_
  refine zF_call (k := 245) (cl := 12) (n := 1) (i := .invokevirtual 320) (args := [(22, 0)]) (rest := []) (g1 := (hc, r1, o)) (r1 := none) (by decide +kernel) rfl rfl rfl (st' := []) rfl (S245 (Nat.le_trans (by decide) hd)  h _ q1) ?_
  refine zF_blk (m := []) (d := 0) (b := B257_18) (gs := []) (c' := (122, [some (22, 0), none, none, none, some (0, v4), none], [(0, v4)], (hc, r1, o))) K257_18 rfl trivial ?_
  obtain rfl := Option.some.inj e
  exact zF_ri (by decide +kernel)
def F257_2 (k0 : Int → Int → Int → Int → Int → zHM → Option (Int × zHM)) (v1 : Int) (v2 : Int) (v3 : Int) (v4 : Int) (v5 : Int) (h : zHM) : Option (Int × zHM) := k0 v1 v2 v3 v4 (wadd v5 1) h
set_option maxRecDepth 100000 in
theorem T257_2 {spec : zRn zH2} {hc : zHC} {o : Int → Int} {d : Nat} (hd : 2 ≤ d) (k0 : Int → Int → Int → Int → Int → zHM → Option (Int × zHM)) (hk0 : ∀ (v1 : Int) (v2 : Int) (v3 : Int) (v4 : Int) (v5 : Int) (h : zHM) (v : (Int × zHM)), k0 v1 v2 v3 v4 v5 h = some v → zFin 0 (fun _ => 0) (zRu2 spec d) 257 (some (0, v.1)) (hc, v.2, o) (40, [some (22, 0), some (0, v1), some (0, v2), some (0, v3), some (0, v4), some (0, v5)], [], (hc, h, o))) (v1 : Int) (v2 : Int) (v3 : Int) (v4 : Int) (v5 : Int) (h : zHM) (v : (Int × zHM)) (e : F257_2 k0 v1 v2 v3 v4 v5 h = some v) : zFin 0 (fun _ => 0) (zRu2 spec d) 257 (some (0, v.1)) (hc, v.2, o) (110, [some (22, 0), some (0, v1), some (0, v2), some (0, v3), some (0, v4), some (0, v5)], [], (hc, h, o)) := by
  unfold F257_2 at e
  refine zF_blk (m := []) (d := 0) (b := B257_16) (gs := []) (c' := (40, [some (22, 0), some (0, v1), some (0, v2), some (0, v3), some (0, v4), some (0, (wadd v5 1))], [], (hc, h, o))) K257_16 rfl trivial ?_
  exact hk0 v1 v2 v3 v4 (wadd v5 1) h _ e
def F257_0 : Nat → Int → Int → Int → Int → Int → zHM → Option (Int × zHM)
  | 0, _, _, _, _, _, _ => none
  | n + 1, v1, v2, v3, v4, v5, h => if v3 ≤ v5 then F257_1 v4 h else if 400 ≤ (h 14 209) then F257_1 v4 h else (F237 ((mset h 14 209 (wadd (h 14 209) 1)) 14 209) (mset h 14 209 (wadd (h 14 209) 1))).bind fun r1 => zG (0 ≤ (wadd 210 v1) ∧ (wadd 210 v1) < 2140) (zG (0 ≤ (wadd 210 v2) ∧ (wadd 210 v2) < 2140) (if ¬ (r1 14 (wadd 210 v1)) = (r1 14 (wadd 210 v2)) then F257_2 (F257_0 n) v1 v2 v3 v4 v5 r1 else F257_2 (F257_0 n) v1 v2 v3 (wadd v4 1) v5 r1))
set_option maxRecDepth 100000 in
theorem T257_0 {spec : zRn zH2} {hc : zHC} {o : Int → Int} {d : Nat} (hd : 2 ≤ d) : ∀ (n : Nat) (v1 : Int) (v2 : Int) (v3 : Int) (v4 : Int) (v5 : Int) (h : zHM) (v : (Int × zHM)), F257_0 n v1 v2 v3 v4 v5 h = some v → zFin 0 (fun _ => 0) (zRu2 spec d) 257 (some (0, v.1)) (hc, v.2, o) (40, [some (22, 0), some (0, v1), some (0, v2), some (0, v3), some (0, v4), some (0, v5)], [], (hc, h, o)) := by
  intro n
  induction n with
  | zero => intro v1 v2 v3 v4 v5 h v e; unfold F257_0 at e; cases e
  | succ n hk0 =>
    intro v1 v2 v3 v4 v5 h v e
    unfold F257_0 at e
    rcases zI_s e with ⟨q1, e⟩ | ⟨q1, e⟩
    · refine zF_blk (m := []) (d := 1) (b := B257_15) (gs := [v3 ≤ v5]) (c' := (116, [some (22, 0), some (0, v1), some (0, v2), some (0, v3), some (0, v4), some (0, v5)], [], (hc, h, o))) K257_15 rfl ⟨q1, trivial⟩ ?_
      refine zF_blk (m := [true, false, false, false, true, false]) (d := 0) (b := []) (gs := []) (c' := (116, [some (22, 0), none, none, none, some (0, v4), none], [], (hc, h, o))) rfl rfl trivial ?_
      exact T257_1 hd v4 h _ e
    · refine zF_blk (m := []) (d := 0) (b := B257_15) (gs := [¬ (v3 ≤ v5)]) (c' := (46, [some (22, 0), some (0, v1), some (0, v2), some (0, v3), some (0, v4), some (0, v5)], [], (hc, h, o))) K257_15 rfl ⟨q1, trivial⟩ ?_
      rcases zI_s e with ⟨q2, e⟩ | ⟨q2, e⟩
      · refine zF_blk (m := []) (d := 1) (b := B257_14) (gs := [0 ≤ 209 ∧ 209 < 2140, 400 ≤ (h 14 209)]) (c' := (116, [some (22, 0), some (0, v1), some (0, v2), some (0, v3), some (0, v4), some (0, v5)], [], (hc, h, o))) K257_14 rfl ⟨by decide, q2, trivial⟩ ?_
        refine zF_blk (m := [true, false, false, false, true, false]) (d := 0) (b := []) (gs := []) (c' := (116, [some (22, 0), none, none, none, some (0, v4), none], [], (hc, h, o))) rfl rfl trivial ?_
        exact T257_1 hd v4 h _ e
      · refine zF_blk (m := []) (d := 0) (b := B257_14) (gs := [0 ≤ 209 ∧ 209 < 2140, ¬ (400 ≤ (h 14 209))]) (c' := (60, [some (22, 0), some (0, v1), some (0, v2), some (0, v3), some (0, v4), some (0, v5)], [], (hc, h, o))) K257_14 rfl ⟨by decide, q2, trivial⟩ ?_
        obtain ⟨r1, q3, e⟩ := zB_s e
        refine zF_blk (m := []) (d := 0) (b := B257_9) (gs := [0 ≤ 209 ∧ 209 < 2140, 0 ≤ 209 ∧ 209 < 2140, 0 ≤ 209 ∧ 209 < 2140]) (c' := (81, [some (22, 0), some (0, v1), some (0, v2), some (0, v3), some (0, v4), some (0, v5)], [(0, ((mset h 14 209 (wadd (h 14 209) 1)) 14 209)), (22, 0)], (hc, (mset h 14 209 (wadd (h 14 209) 1)), o))) K257_9 rfl ⟨by decide, by decide, by decide, trivial⟩ ?_
        refine zF_call (k := 237) (cl := 12) (n := 2) (i := .invokevirtual 292) (args := [(22, 0), (0, ((mset h 14 209 (wadd (h 14 209) 1)) 14 209))]) (rest := []) (g1 := (hc, r1, o)) (r1 := none) (by decide +kernel) rfl rfl rfl (st' := []) rfl (S237 (Nat.le_trans (by decide) hd) ((mset h 14 209 (wadd (h 14 209) 1)) 14 209) (mset h 14 209 (wadd (h 14 209) 1)) _ q3) ?_
        obtain ⟨q4, e⟩ := zG_s e
        obtain ⟨q5, e⟩ := zG_s e
        refine zF_blk (m := []) (d := 0) (b := B257_10) (gs := []) (c' := (92, [some (22, 0), some (0, v1), some (0, v2), some (0, v3), some (0, v4), some (0, v5)], [(0, v1), (0, 210), (1344370422, 0)], (hc, r1, o))) K257_10 rfl trivial ?_
        refine zF_blk (m := []) (d := 0) (b := B257_11) (gs := [0 ≤ (wadd 210 v1) ∧ (wadd 210 v1) < 2140]) (c' := (102, [some (22, 0), some (0, v1), some (0, v2), some (0, v3), some (0, v4), some (0, v5)], [(0, v2), (0, 210), (1344370422, 0), (0, (r1 14 (wadd 210 v1)))], (hc, r1, o))) K257_11 rfl ⟨q4, trivial⟩ ?_
        rcases zI_s e with ⟨q6, e⟩ | ⟨q6, e⟩
        · refine zF_blk (m := []) (d := 1) (b := B257_13) (gs := [0 ≤ (wadd 210 v2) ∧ (wadd 210 v2) < 2140, ¬ (r1 14 (wadd 210 v1)) = (r1 14 (wadd 210 v2))]) (c' := (110, [some (22, 0), some (0, v1), some (0, v2), some (0, v3), some (0, v4), some (0, v5)], [], (hc, r1, o))) K257_13 rfl ⟨q5, q6, trivial⟩ ?_
          exact T257_2 hd (F257_0 n) hk0 v1 v2 v3 v4 v5 r1 _ e
        · refine zF_blk (m := []) (d := 0) (b := B257_13) (gs := [0 ≤ (wadd 210 v2) ∧ (wadd 210 v2) < 2140, ¬ (¬ (r1 14 (wadd 210 v1)) = (r1 14 (wadd 210 v2)))]) (c' := (107, [some (22, 0), some (0, v1), some (0, v2), some (0, v3), some (0, v4), some (0, v5)], [], (hc, r1, o))) K257_13 rfl ⟨q5, q6, trivial⟩ ?_
          refine zF_blk (m := []) (d := 0) (b := B257_12) (gs := []) (c' := (110, [some (22, 0), some (0, v1), some (0, v2), some (0, v3), some (0, (wadd v4 1)), some (0, v5)], [], (hc, r1, o))) K257_12 rfl trivial ?_
          exact T257_2 hd (F257_0 n) hk0 v1 v2 v3 (wadd v4 1) v5 r1 _ e
/-- EchoValeModel.meets(III)I -/
def F257 (v1 : Int) (v2 : Int) (v3 : Int) (h : zHM) : Option (Int × zHM) := (F210 v1 (mset h 0 0 0)).bind fun r1 => if r1 = 0 then some ((-1), (mset h 0 0 0)) else (F210 v2 (mset h 0 0 0)).bind fun r2 => if r2 = 0 then some ((-1), (mset h 0 0 0)) else (F242 v3).bind fun r3 => if ¬ r3 = 0 then (F244 (mset h 0 0 0)).bind fun r4 => F257_0 zFu v1 v2 v3 0 0 r4 else some ((-1), (mset h 0 0 0))
set_option maxRecDepth 100000 in
theorem S257 {spec : zRn zH2} {hc : zHC} {o : Int → Int} {d : Nat} (hd : 3 ≤ d) (v1 : Int) (v2 : Int) (v3 : Int) (h : zHM) (v : (Int × zHM)) (e : F257 v1 v2 v3 h = some v) : zRu2 spec d 257 [(22, 0), (0, v1), (0, v2), (0, v3)] (hc, h, o) (some (0, v.1)) (hc, v.2, o) := by
  refine zF_in (D := 2) (mx := 6) (L := [some (22, 0), some (0, v1), some (0, v2), some (0, v3), none, none]) (by decide +kernel) rfl rfl hd (fun d hd => ?_)
  unfold F257 at e
  obtain ⟨r1, q1, e⟩ := zB_s e
  refine zF_blk (m := []) (d := 0) (b := B257_0) (gs := []) (c' := (7, [some (22, 0), some (0, v1), some (0, v2), some (0, v3), none, none], [(0, v1), (22, 0)], (hc, (mset h 0 0 0), o))) K257_0 rfl trivial ?_
  refine zF_call (k := 210) (cl := 12) (n := 2) (i := .invokevirtual 260) (args := [(22, 0), (0, v1)]) (rest := []) (g1 := (hc, (mset h 0 0 0), o)) (r1 := some (0, r1)) (by decide +kernel) rfl rfl rfl (st' := [(0, r1)]) rfl (S210 (Nat.le_trans (by decide) hd) v1 (mset h 0 0 0) _ q1) ?_
  rcases zI_s e with ⟨q2, e⟩ | ⟨q2, e⟩
  · refine zF_blk (m := []) (d := 1) (b := B257_8) (gs := [r1 = 0]) (c' := (28, [some (22, 0), some (0, v1), some (0, v2), some (0, v3), none, none], [], (hc, (mset h 0 0 0), o))) K257_8 rfl ⟨q2, trivial⟩ ?_
    refine zF_blk (m := []) (d := 0) (b := B257_1) (gs := []) (c' := (29, [some (22, 0), some (0, v1), some (0, v2), some (0, v3), none, none], [(0, (-1))], (hc, (mset h 0 0 0), o))) K257_1 rfl trivial ?_
    obtain rfl := Option.some.inj e
    exact zF_ri (by decide +kernel)
  · refine zF_blk (m := []) (d := 0) (b := B257_8) (gs := [¬ (r1 = 0)]) (c' := (13, [some (22, 0), some (0, v1), some (0, v2), some (0, v3), none, none], [], (hc, (mset h 0 0 0), o))) K257_8 rfl ⟨q2, trivial⟩ ?_
    obtain ⟨r2, q3, e⟩ := zB_s e
    refine zF_blk (m := []) (d := 0) (b := B257_2) (gs := []) (c' := (15, [some (22, 0), some (0, v1), some (0, v2), some (0, v3), none, none], [(0, v2), (22, 0)], (hc, (mset h 0 0 0), o))) K257_2 rfl trivial ?_
    refine zF_call (k := 210) (cl := 12) (n := 2) (i := .invokevirtual 260) (args := [(22, 0), (0, v2)]) (rest := []) (g1 := (hc, (mset h 0 0 0), o)) (r1 := some (0, r2)) (by decide +kernel) rfl rfl rfl (st' := [(0, r2)]) rfl (S210 (Nat.le_trans (by decide) hd) v2 (mset h 0 0 0) _ q3) ?_
    rcases zI_s e with ⟨q4, e⟩ | ⟨q4, e⟩
    · refine zF_blk (m := []) (d := 1) (b := B257_7) (gs := [r2 = 0]) (c' := (28, [some (22, 0), some (0, v1), some (0, v2), some (0, v3), none, none], [], (hc, (mset h 0 0 0), o))) K257_7 rfl ⟨q4, trivial⟩ ?_
      refine zF_blk (m := []) (d := 0) (b := B257_1) (gs := []) (c' := (29, [some (22, 0), some (0, v1), some (0, v2), some (0, v3), none, none], [(0, (-1))], (hc, (mset h 0 0 0), o))) K257_1 rfl trivial ?_
      obtain rfl := Option.some.inj e
      exact zF_ri (by decide +kernel)
    · refine zF_blk (m := []) (d := 0) (b := B257_7) (gs := [¬ (r2 = 0)]) (c' := (21, [some (22, 0), some (0, v1), some (0, v2), some (0, v3), none, none], [], (hc, (mset h 0 0 0), o))) K257_7 rfl ⟨q4, trivial⟩ ?_
      obtain ⟨r3, q5, e⟩ := zB_s e
      refine zF_blk (m := []) (d := 0) (b := B257_3) (gs := []) (c' := (22, [some (22, 0), some (0, v1), some (0, v2), some (0, v3), none, none], [(0, v3)], (hc, (mset h 0 0 0), o))) K257_3 rfl trivial ?_
      refine zF_call (k := 242) (cl := 12) (n := 1) (i := .invokestatic 323) (args := [(0, v3)]) (rest := []) (g1 := (hc, (mset h 0 0 0), o)) (r1 := some (0, r3)) (by decide +kernel) rfl rfl rfl (st' := [(0, r3)]) rfl (S242 (Nat.le_trans (by decide) hd) v3 (mset h 0 0 0) _ q5) ?_
      rcases zI_s e with ⟨q6, e⟩ | ⟨q6, e⟩
      · refine zF_blk (m := []) (d := 1) (b := B257_6) (gs := [¬ r3 = 0]) (c' := (30, [some (22, 0), some (0, v1), some (0, v2), some (0, v3), none, none], [], (hc, (mset h 0 0 0), o))) K257_6 rfl ⟨q6, trivial⟩ ?_
        obtain ⟨r4, q7, e⟩ := zB_s e
        refine zF_blk (m := []) (d := 0) (b := B257_4) (gs := []) (c' := (31, [some (22, 0), some (0, v1), some (0, v2), some (0, v3), none, none], [(22, 0)], (hc, (mset h 0 0 0), o))) K257_4 rfl trivial ?_
        refine zF_call (k := 244) (cl := 12) (n := 1) (i := .invokevirtual 317) (args := [(22, 0)]) (rest := []) (g1 := (hc, r4, o)) (r1 := none) (by decide +kernel) rfl rfl rfl (st' := []) rfl (S244 (Nat.le_trans (by decide) hd)  (mset h 0 0 0) _ q7) ?_
        refine zF_blk (m := []) (d := 0) (b := B257_5) (gs := []) (c' := (40, [some (22, 0), some (0, v1), some (0, v2), some (0, v3), some (0, 0), some (0, 0)], [], (hc, r4, o))) K257_5 rfl trivial ?_
        exact T257_0 hd zFu v1 v2 v3 0 0 r4 _ e
      · refine zF_blk (m := []) (d := 0) (b := B257_6) (gs := [¬ (¬ r3 = 0)]) (c' := (28, [some (22, 0), some (0, v1), some (0, v2), some (0, v3), none, none], [], (hc, (mset h 0 0 0), o))) K257_6 rfl ⟨q6, trivial⟩ ?_
        refine zF_blk (m := []) (d := 0) (b := B257_1) (gs := []) (c' := (29, [some (22, 0), some (0, v1), some (0, v2), some (0, v3), none, none], [(0, (-1))], (hc, (mset h 0 0 0), o))) K257_1 rfl trivial ?_
        obtain rfl := Option.some.inj e
        exact zF_ri (by decide +kernel)
def B117_0 : List zRow := [(0, .aload_n 0, 1, (0, 0, 0)), (1, .getfield 19, 3, (11, 1, 39)), (4, .iload_n 1, 1, (0, 0, 0))]
theorem K117_0 : zRk 117 B117_0 = true := by decide +kernel
def B117_1 : List zRow := [(18, .iconst (-1), 1, (0, 0, 0))]
theorem K117_1 : zRk 117 B117_1 = true := by decide +kernel
def B117_2 : List zRow := [(11, .iload_n 2, 1, (0, 0, 0))]
theorem K117_2 : zRk 117 B117_2 = true := by decide +kernel
def B117_3 : List zRow := [(20, .aload_n 0, 1, (0, 0, 0)), (21, .getfield 19, 3, (11, 1, 39)), (24, .iload_n 1, 1, (0, 0, 0)), (25, .iload_n 2, 1, (0, 0, 0))]
theorem K117_3 : zRk 117 B117_3 = true := by decide +kernel
def B117_4 : List zRow := [(29, .istore_n 3, 1, (0, 0, 0)), (30, .iconst (-1), 1, (0, 0, 0)), (31, .istore 4, 2, (0, 0, 0)), (33, .iconst 0, 1, (0, 0, 0)), (34, .istore 5, 2, (0, 0, 0)), (36, .iconst 0, 1, (0, 0, 0)), (37, .istore 6, 2, (0, 0, 0))]
theorem K117_4 : zRk 117 B117_4 = true := by decide +kernel
def B117_5 : List zRow := [(15, .ifCond .ne 5, 3, (0, 0, 0))]
theorem K117_5 : zRk 117 B117_5 = true := by decide +kernel
def B117_6 : List zRow := [(8, .ifCond .eq 10, 3, (0, 0, 0))]
theorem K117_6 : zRk 117 B117_6 = true := by decide +kernel
def B117_7 : List zRow := [(98, .iload 4, 2, (0, 0, 0))]
theorem K117_7 : zRk 117 B117_7 = true := by decide +kernel
def B117_8 : List zRow := [(51, .aload_n 0, 1, (0, 0, 0)), (52, .getfield 19, 3, (11, 1, 39)), (55, .iload 6, 2, (0, 0, 0)), (57, .iload_n 1, 1, (0, 0, 0)), (58, .iload_n 3, 1, (0, 0, 0))]
theorem K117_8 : zRk 117 B117_8 = true := by decide +kernel
def B117_9 : List zRow := [(84, .iload 7, 2, (0, 0, 0)), (86, .istore 5, 2, (0, 0, 0)), (88, .iload 6, 2, (0, 0, 0)), (90, .istore 4, 2, (0, 0, 0))]
theorem K117_9 : zRk 117 B117_9 = true := by decide +kernel
def B117_10 : List zRow := [(62, .aload_n 0, 1, (0, 0, 0)), (63, .getfield 19, 3, (11, 1, 39)), (66, .getfield 156, 3, (9, 10, 5242906)), (69, .iload 6, 2, (0, 0, 0)), (71, .iaload, 1, (0, 0, 0)), (72, .invokestatic 288, 3, (5003, 0, 0)), (75, .istore 7, 2, (0, 0, 0)), (77, .iload 7, 2, (0, 0, 0)), (79, .iload 5, 2, (0, 0, 0)), (81, .if_icmp .le 11, 3, (0, 0, 0))]
theorem K117_10 : zRk 117 B117_10 = true := by decide +kernel
def B117_11 : List zRow := [(39, .iload 6, 2, (0, 0, 0)), (41, .aload_n 0, 1, (0, 0, 0)), (42, .getfield 19, 3, (11, 1, 39)), (45, .getfield 282, 3, (9, 2, 0)), (48, .if_icmp .ge 50, 3, (0, 0, 0))]
theorem K117_11 : zRk 117 B117_11 = true := by decide +kernel
def B117_12 : List zRow := [(92, .iinc 6 1, 3, (0, 0, 0)), (95, .goto (-56), 3, (0, 0, 0))]
theorem K117_12 : zRk 117 B117_12 = true := by decide +kernel
def F117_1 (k0 : Int → Int → Int → Int → Int → Option Int) (h : zHC) (v1 : Int) (v3 : Int) (v4 : Int) (v5 : Int) (v6 : Int) : Option Int := k0 v1 v3 v4 v5 (wadd v6 1)
set_option maxRecDepth 100000 in
theorem T117_1 {spec : zRn zH2} {hm : zHM} {o : Int → Int} {d : Nat} (hd : 2 ≤ d) (h : zHC) (k0 : Int → Int → Int → Int → Int → Option Int) (hk0 : ∀ (v1 : Int) (v3 : Int) (v4 : Int) (v5 : Int) (v6 : Int) (v : Int), k0 v1 v3 v4 v5 v6 = some v → zFin 0 (fun _ => 0) (zRu2 spec d) 117 (some (0, v)) (h, hm, o) (39, [some (21, 0), some (0, v1), none, some (0, v3), some (0, v4), some (0, v5), some (0, v6), none], [], (h, hm, o))) (v1 : Int) (v3 : Int) (v4 : Int) (v5 : Int) (v6 : Int) (v : Int) (e : F117_1 k0 h v1 v3 v4 v5 v6 = some v) : zFin 0 (fun _ => 0) (zRu2 spec d) 117 (some (0, v)) (h, hm, o) (92, [some (21, 0), some (0, v1), none, some (0, v3), some (0, v4), some (0, v5), some (0, v6), none], [], (h, hm, o)) := by
  unfold F117_1 at e
  refine zF_blk (m := []) (d := 0) (b := B117_12) (gs := []) (c' := (39, [some (21, 0), some (0, v1), none, some (0, v3), some (0, v4), some (0, v5), some (0, (wadd v6 1)), none], [], (h, hm, o))) K117_12 rfl trivial ?_
  exact hk0 v1 v3 v4 v5 (wadd v6 1) _ e
def F117_0 (h : zHC) : Nat → Int → Int → Int → Int → Int → Option Int
  | 0, _, _, _, _, _ => none
  | n + 1, v1, v3, v4, v5, v6 => if (h 578 0 0) ≤ v6 then some v4 else (F82 v6 v1 v3 h).bind fun r1 => zG (0 ≤ v6 ∧ v6 < 6) (if (if (h 586 0 v6) < r1 then (h 586 0 v6) else r1) ≤ v5 then F117_1 (F117_0 h n) h v1 v3 v4 v5 v6 else F117_1 (F117_0 h n) h v1 v3 v6 (if (h 586 0 v6) < r1 then (h 586 0 v6) else r1) v6)
set_option maxRecDepth 100000 in
theorem T117_0 {spec : zRn zH2} {hm : zHM} {o : Int → Int} {d : Nat} (hd : 2 ≤ d) (h : zHC) : ∀ (n : Nat) (v1 : Int) (v3 : Int) (v4 : Int) (v5 : Int) (v6 : Int) (v : Int), F117_0 h n v1 v3 v4 v5 v6 = some v → zFin 0 (fun _ => 0) (zRu2 spec d) 117 (some (0, v)) (h, hm, o) (39, [some (21, 0), some (0, v1), none, some (0, v3), some (0, v4), some (0, v5), some (0, v6), none], [], (h, hm, o)) := by
  intro n
  induction n with
  | zero => intro v1 v3 v4 v5 v6 v e; unfold F117_0 at e; cases e
  | succ n hk0 =>
    intro v1 v3 v4 v5 v6 v e
    unfold F117_0 at e
    rcases zI_s e with ⟨q1, e⟩ | ⟨q1, e⟩
    · refine zF_blk (m := []) (d := 1) (b := B117_11) (gs := [(h 578 0 0) ≤ v6]) (c' := (98, [some (21, 0), some (0, v1), none, some (0, v3), some (0, v4), some (0, v5), some (0, v6), none], [], (h, hm, o))) K117_11 rfl ⟨q1, trivial⟩ ?_
      refine zF_blk (m := []) (d := 0) (b := B117_7) (gs := []) (c' := (100, [some (21, 0), some (0, v1), none, some (0, v3), some (0, v4), some (0, v5), some (0, v6), none], [(0, v4)], (h, hm, o))) K117_7 rfl trivial ?_
      obtain rfl := Option.some.inj e
      exact zF_ri (by decide +kernel)
    · refine zF_blk (m := []) (d := 0) (b := B117_11) (gs := [¬ ((h 578 0 0) ≤ v6)]) (c' := (51, [some (21, 0), some (0, v1), none, some (0, v3), some (0, v4), some (0, v5), some (0, v6), none], [], (h, hm, o))) K117_11 rfl ⟨q1, trivial⟩ ?_
      obtain ⟨r1, q2, e⟩ := zB_s e
      refine zF_blk (m := []) (d := 0) (b := B117_8) (gs := []) (c' := (59, [some (21, 0), some (0, v1), none, some (0, v3), some (0, v4), some (0, v5), some (0, v6), none], [(0, v3), (0, v1), (0, v6), (19, 0)], (h, hm, o))) K117_8 rfl trivial ?_
      refine zF_call (k := 82) (cl := 9) (n := 4) (i := .invokevirtual 285) (args := [(19, 0), (0, v6), (0, v1), (0, v3)]) (rest := []) (g1 := (h, hm, o)) (r1 := some (0, r1)) (by decide +kernel) rfl rfl rfl (st' := [(0, r1)]) rfl (S82 (Nat.le_trans (by decide) hd) v6 v1 v3 h _ q2) ?_
      obtain ⟨q3, e⟩ := zG_s e
      rcases zI_s e with ⟨q4, e⟩ | ⟨q4, e⟩
      · refine zF_blk (m := []) (d := 1) (b := B117_10) (gs := [0 ≤ v6 ∧ v6 < 6, (if (h 586 0 v6) < r1 then (h 586 0 v6) else r1) ≤ v5]) (c' := (92, [some (21, 0), some (0, v1), none, some (0, v3), some (0, v4), some (0, v5), some (0, v6), some (0, (if (h 586 0 v6) < r1 then (h 586 0 v6) else r1))], [], (h, hm, o))) K117_10 rfl ⟨q3, q4, trivial⟩ ?_
        refine zF_blk (m := [true, true, false, true, true, true, true, false]) (d := 0) (b := []) (gs := []) (c' := (92, [some (21, 0), some (0, v1), none, some (0, v3), some (0, v4), some (0, v5), some (0, v6), none], [], (h, hm, o))) rfl rfl trivial ?_
        exact T117_1 hd h (F117_0 h n) hk0 v1 v3 v4 v5 v6 _ e
      · refine zF_blk (m := []) (d := 0) (b := B117_10) (gs := [0 ≤ v6 ∧ v6 < 6, ¬ ((if (h 586 0 v6) < r1 then (h 586 0 v6) else r1) ≤ v5)]) (c' := (84, [some (21, 0), some (0, v1), none, some (0, v3), some (0, v4), some (0, v5), some (0, v6), some (0, (if (h 586 0 v6) < r1 then (h 586 0 v6) else r1))], [], (h, hm, o))) K117_10 rfl ⟨q3, q4, trivial⟩ ?_
        refine zF_blk (m := []) (d := 0) (b := B117_9) (gs := []) (c' := (92, [some (21, 0), some (0, v1), none, some (0, v3), some (0, v6), some (0, (if (h 586 0 v6) < r1 then (h 586 0 v6) else r1)), some (0, v6), some (0, (if (h 586 0 v6) < r1 then (h 586 0 v6) else r1))], [], (h, hm, o))) K117_9 rfl trivial ?_
        refine zF_blk (m := [true, true, false, true, true, true, true, false]) (d := 0) (b := []) (gs := []) (c' := (92, [some (21, 0), some (0, v1), none, some (0, v3), some (0, v6), some (0, (if (h 586 0 v6) < r1 then (h 586 0 v6) else r1)), some (0, v6), none], [], (h, hm, o))) rfl rfl trivial ?_
        exact T117_1 hd h (F117_0 h n) hk0 v1 v3 v6 (if (h 586 0 v6) < r1 then (h 586 0 v6) else r1) v6 _ e
/-- EchoVale.nearest(II)I -/
def F117 (v1 : Int) (v2 : Int) (h : zHC) : Option Int := (F69 v1 h).bind fun r1 => if r1 = 0 then some (-1) else (F74 v2).bind fun r2 => if ¬ r2 = 0 then (F77 v1 v2 h).bind fun r3 => F117_0 h zFu v1 r3 (-1) 0 0 else some (-1)
set_option maxRecDepth 100000 in
theorem S117 {spec : zRn zH2} {hm : zHM} {o : Int → Int} {d : Nat} (hd : 3 ≤ d) (v1 : Int) (v2 : Int) (h : zHC) (v : Int) (e : F117 v1 v2 h = some v) : zRu2 spec d 117 [(21, 0), (0, v1), (0, v2)] (h, hm, o) (some (0, v)) (h, hm, o) := by
  refine zF_in (D := 2) (mx := 8) (L := [some (21, 0), some (0, v1), some (0, v2), none, none, none, none, none]) (by decide +kernel) rfl rfl hd (fun d hd => ?_)
  unfold F117 at e
  obtain ⟨r1, q1, e⟩ := zB_s e
  refine zF_blk (m := []) (d := 0) (b := B117_0) (gs := []) (c' := (5, [some (21, 0), some (0, v1), some (0, v2), none, none, none, none, none], [(0, v1), (19, 0)], (h, hm, o))) K117_0 rfl trivial ?_
  refine zF_call (k := 69) (cl := 9) (n := 2) (i := .invokevirtual 214) (args := [(19, 0), (0, v1)]) (rest := []) (g1 := (h, hm, o)) (r1 := some (0, r1)) (by decide +kernel) rfl rfl rfl (st' := [(0, r1)]) rfl (S69 (Nat.le_trans (by decide) hd) v1 h _ q1) ?_
  rcases zI_s e with ⟨q2, e⟩ | ⟨q2, e⟩
  · refine zF_blk (m := []) (d := 1) (b := B117_6) (gs := [r1 = 0]) (c' := (18, [some (21, 0), some (0, v1), some (0, v2), none, none, none, none, none], [], (h, hm, o))) K117_6 rfl ⟨q2, trivial⟩ ?_
    refine zF_blk (m := []) (d := 0) (b := B117_1) (gs := []) (c' := (19, [some (21, 0), some (0, v1), some (0, v2), none, none, none, none, none], [(0, (-1))], (h, hm, o))) K117_1 rfl trivial ?_
    obtain rfl := Option.some.inj e
    exact zF_ri (by decide +kernel)
  · refine zF_blk (m := []) (d := 0) (b := B117_6) (gs := [¬ (r1 = 0)]) (c' := (11, [some (21, 0), some (0, v1), some (0, v2), none, none, none, none, none], [], (h, hm, o))) K117_6 rfl ⟨q2, trivial⟩ ?_
    obtain ⟨r2, q3, e⟩ := zB_s e
    refine zF_blk (m := []) (d := 0) (b := B117_2) (gs := []) (c' := (12, [some (21, 0), some (0, v1), some (0, v2), none, none, none, none, none], [(0, v2)], (h, hm, o))) K117_2 rfl trivial ?_
    refine zF_call (k := 74) (cl := 11) (n := 1) (i := .invokestatic 221) (args := [(0, v2)]) (rest := []) (g1 := (h, hm, o)) (r1 := some (0, r2)) (by decide +kernel) rfl rfl rfl (st' := [(0, r2)]) rfl (S74 (Nat.le_trans (by decide) hd) v2 h _ q3) ?_
    rcases zI_s e with ⟨q4, e⟩ | ⟨q4, e⟩
    · refine zF_blk (m := []) (d := 1) (b := B117_5) (gs := [¬ r2 = 0]) (c' := (20, [some (21, 0), some (0, v1), some (0, v2), none, none, none, none, none], [], (h, hm, o))) K117_5 rfl ⟨q4, trivial⟩ ?_
      obtain ⟨r3, q5, e⟩ := zB_s e
      refine zF_blk (m := []) (d := 0) (b := B117_3) (gs := []) (c' := (26, [some (21, 0), some (0, v1), some (0, v2), none, none, none, none, none], [(0, v2), (0, v1), (19, 0)], (h, hm, o))) K117_3 rfl trivial ?_
      refine zF_call (k := 77) (cl := 9) (n := 3) (i := .invokevirtual 279) (args := [(19, 0), (0, v1), (0, v2)]) (rest := []) (g1 := (h, hm, o)) (r1 := some (0, r3)) (by decide +kernel) rfl rfl rfl (st' := [(0, r3)]) rfl (S77 (Nat.le_trans (by decide) hd) v1 v2 h _ q5) ?_
      refine zF_blk (m := []) (d := 0) (b := B117_4) (gs := []) (c' := (39, [some (21, 0), some (0, v1), some (0, v2), some (0, r3), some (0, (-1)), some (0, 0), some (0, 0), none], [], (h, hm, o))) K117_4 rfl trivial ?_
      refine zF_blk (m := [true, true, false, true, true, true, true, false]) (d := 0) (b := []) (gs := []) (c' := (39, [some (21, 0), some (0, v1), none, some (0, r3), some (0, (-1)), some (0, 0), some (0, 0), none], [], (h, hm, o))) rfl rfl trivial ?_
      exact T117_0 hd h zFu v1 r3 (-1) 0 0 _ e
    · refine zF_blk (m := []) (d := 0) (b := B117_5) (gs := [¬ (¬ r2 = 0)]) (c' := (18, [some (21, 0), some (0, v1), some (0, v2), none, none, none, none, none], [], (h, hm, o))) K117_5 rfl ⟨q4, trivial⟩ ?_
      refine zF_blk (m := []) (d := 0) (b := B117_1) (gs := []) (c' := (19, [some (21, 0), some (0, v1), some (0, v2), none, none, none, none, none], [(0, (-1))], (h, hm, o))) K117_1 rfl trivial ?_
      obtain rfl := Option.some.inj e
      exact zF_ri (by decide +kernel)
def B259_0 : List zRow := [(33, .iconst 0, 1, (0, 0, 0))]
theorem K259_0 : zRk 259 B259_0 = true := by decide +kernel
def B259_1 : List zRow := [(4, .iload_n 2, 1, (0, 0, 0)), (5, .aload_n 0, 1, (0, 0, 0)), (6, .iload_n 1, 1, (0, 0, 0))]
theorem K259_1 : zRk 259 B259_1 = true := by decide +kernel
def B259_2 : List zRow := [(17, .iload_n 3, 1, (0, 0, 0)), (18, .iload_n 2, 1, (0, 0, 0)), (19, .aload_n 0, 1, (0, 0, 0)), (20, .iload_n 1, 1, (0, 0, 0))]
theorem K259_2 : zRk 259 B259_2 = true := by decide +kernel
def B259_3 : List zRow := [(27, .iconst 2, 1, (0, 0, 0)), (28, .idiv, 1, (0, 0, 0)), (29, .isub, 1, (0, 0, 0)), (30, .goto 4, 3, (0, 0, 0))]
theorem K259_3 : zRk 259 B259_3 = true := by decide +kernel
def B259_4 : List zRow := [(13, .iload_n 3, 1, (0, 0, 0)), (14, .if_icmp .gt 19, 3, (0, 0, 0))]
theorem K259_4 : zRk 259 B259_4 = true := by decide +kernel
def B259_5 : List zRow := [(0, .iload_n 3, 1, (0, 0, 0)), (1, .ifCond .le 32, 3, (0, 0, 0))]
theorem K259_5 : zRk 259 B259_5 = true := by decide +kernel
/-- EchoValeModel.wouldCome(III)I -/
def F259 (v1 : Int) (v2 : Int) (v3 : Int) (h : zHM) : Option Int := if v3 ≤ 0 then some 0 else (F229 v1 h).bind fun r1 => (F230 v2 r1).bind fun r2 => if v3 < r2 then some 0 else (F229 v1 h).bind fun r3 => (F230 v2 r3).bind fun r4 => some (wsub v3 (wdiv r4 2))
set_option maxRecDepth 100000 in
theorem S259 {spec : zRn zH2} {hc : zHC} {o : Int → Int} {d : Nat} (hd : 3 ≤ d) (v1 : Int) (v2 : Int) (v3 : Int) (h : zHM) (v : Int) (e : F259 v1 v2 v3 h = some v) : zRu2 spec d 259 [(22, 0), (0, v1), (0, v2), (0, v3)] (hc, h, o) (some (0, v)) (hc, h, o) := by
  refine zF_in (D := 2) (mx := 4) (L := [some (22, 0), some (0, v1), some (0, v2), some (0, v3)]) (by decide +kernel) rfl rfl hd (fun d hd => ?_)
  unfold F259 at e
  rcases zI_s e with ⟨q1, e⟩ | ⟨q1, e⟩
  · refine zF_blk (m := []) (d := 1) (b := B259_5) (gs := [v3 ≤ 0]) (c' := (33, [some (22, 0), some (0, v1), some (0, v2), some (0, v3)], [], (hc, h, o))) K259_5 rfl ⟨q1, trivial⟩ ?_
    refine zF_blk (m := []) (d := 0) (b := B259_0) (gs := []) (c' := (34, [some (22, 0), some (0, v1), some (0, v2), some (0, v3)], [(0, 0)], (hc, h, o))) K259_0 rfl trivial ?_
    obtain rfl := Option.some.inj e
    exact zF_ri (by decide +kernel)
  · refine zF_blk (m := []) (d := 0) (b := B259_5) (gs := [¬ (v3 ≤ 0)]) (c' := (4, [some (22, 0), some (0, v1), some (0, v2), some (0, v3)], [], (hc, h, o))) K259_5 rfl ⟨q1, trivial⟩ ?_
    obtain ⟨r1, q2, e⟩ := zB_s e
    refine zF_blk (m := []) (d := 0) (b := B259_1) (gs := []) (c' := (7, [some (22, 0), some (0, v1), some (0, v2), some (0, v3)], [(0, v1), (22, 0), (0, v2)], (hc, h, o))) K259_1 rfl trivial ?_
    refine zF_call (k := 229) (cl := 12) (n := 2) (i := .invokevirtual 276) (args := [(22, 0), (0, v1)]) (rest := [(0, v2)]) (g1 := (hc, h, o)) (r1 := some (0, r1)) (by decide +kernel) rfl rfl rfl (st' := [(0, r1), (0, v2)]) rfl (S229 (Nat.le_trans (by decide) hd) v1 h _ q2) ?_
    obtain ⟨r2, q3, e⟩ := zB_s e
    refine zF_call (k := 230) (cl := 12) (n := 2) (i := .invokestatic 279) (args := [(0, v2), (0, r1)]) (rest := []) (g1 := (hc, h, o)) (r1 := some (0, r2)) (by decide +kernel) rfl rfl rfl (st' := [(0, r2)]) rfl (S230 (Nat.le_trans (by decide) hd) v2 r1 h _ q3) ?_
    rcases zI_s e with ⟨q4, e⟩ | ⟨q4, e⟩
    · refine zF_blk (m := []) (d := 1) (b := B259_4) (gs := [v3 < r2]) (c' := (33, [some (22, 0), some (0, v1), some (0, v2), some (0, v3)], [], (hc, h, o))) K259_4 rfl ⟨q4, trivial⟩ ?_
      refine zF_blk (m := []) (d := 0) (b := B259_0) (gs := []) (c' := (34, [some (22, 0), some (0, v1), some (0, v2), some (0, v3)], [(0, 0)], (hc, h, o))) K259_0 rfl trivial ?_
      obtain rfl := Option.some.inj e
      exact zF_ri (by decide +kernel)
    · refine zF_blk (m := []) (d := 0) (b := B259_4) (gs := [¬ (v3 < r2)]) (c' := (17, [some (22, 0), some (0, v1), some (0, v2), some (0, v3)], [], (hc, h, o))) K259_4 rfl ⟨q4, trivial⟩ ?_
      obtain ⟨r3, q5, e⟩ := zB_s e
      refine zF_blk (m := []) (d := 0) (b := B259_2) (gs := []) (c' := (21, [some (22, 0), some (0, v1), some (0, v2), some (0, v3)], [(0, v1), (22, 0), (0, v2), (0, v3)], (hc, h, o))) K259_2 rfl trivial ?_
      refine zF_call (k := 229) (cl := 12) (n := 2) (i := .invokevirtual 276) (args := [(22, 0), (0, v1)]) (rest := [(0, v2), (0, v3)]) (g1 := (hc, h, o)) (r1 := some (0, r3)) (by decide +kernel) rfl rfl rfl (st' := [(0, r3), (0, v2), (0, v3)]) rfl (S229 (Nat.le_trans (by decide) hd) v1 h _ q5) ?_
      obtain ⟨r4, q6, e⟩ := zB_s e
      refine zF_call (k := 230) (cl := 12) (n := 2) (i := .invokestatic 279) (args := [(0, v2), (0, r3)]) (rest := [(0, v3)]) (g1 := (hc, h, o)) (r1 := some (0, r4)) (by decide +kernel) rfl rfl rfl (st' := [(0, r4), (0, v3)]) rfl (S230 (Nat.le_trans (by decide) hd) v2 r3 h _ q6) ?_
      refine zF_blk (m := []) (d := 0) (b := B259_3) (gs := [¬ 2 = 0]) (c' := (34, [some (22, 0), some (0, v1), some (0, v2), some (0, v3)], [(0, (wsub v3 (wdiv r4 2)))], (hc, h, o))) K259_3 rfl ⟨by decide, trivial⟩ ?_
      obtain rfl := Option.some.inj e
      exact zF_ri (by decide +kernel)
def B258_0 : List zRow := [(0, .aload_n 0, 1, (0, 0, 0)), (1, .iconst 0, 1, (0, 0, 0)), (2, .putfield 81, 3, (12, 0, 0)), (5, .aload_n 0, 1, (0, 0, 0)), (6, .iload_n 1, 1, (0, 0, 0))]
theorem K258_0 : zRk 258 B258_0 = true := by decide +kernel
def B258_1 : List zRow := [(23, .iconst (-1), 1, (0, 0, 0))]
theorem K258_1 : zRk 258 B258_1 = true := by decide +kernel
def B258_2 : List zRow := [(13, .iload_n 2, 1, (0, 0, 0)), (14, .iconst 1, 1, (0, 0, 0)), (15, .bipush 9, 2, (0, 0, 0))]
theorem K258_2 : zRk 258 B258_2 = true := by decide +kernel
def B258_3 : List zRow := [(25, .iconst (-1), 1, (0, 0, 0)), (26, .istore_n 3, 1, (0, 0, 0)), (27, .iconst 0, 1, (0, 0, 0)), (28, .istore 4, 2, (0, 0, 0)), (30, .iconst 0, 1, (0, 0, 0)), (31, .istore 5, 2, (0, 0, 0))]
theorem K258_3 : zRk 258 B258_3 = true := by decide +kernel
def B258_4 : List zRow := [(20, .ifCond .ne 5, 3, (0, 0, 0))]
theorem K258_4 : zRk 258 B258_4 = true := by decide +kernel
def B258_5 : List zRow := [(10, .ifCond .eq 13, 3, (0, 0, 0))]
theorem K258_5 : zRk 258 B258_5 = true := by decide +kernel
def B258_6 : List zRow := [(91, .iload_n 3, 1, (0, 0, 0))]
theorem K258_6 : zRk 258 B258_6 = true := by decide +kernel
def B258_7 : List zRow := [(44, .aload_n 0, 1, (0, 0, 0)), (45, .iload 5, 2, (0, 0, 0)), (47, .iload_n 1, 1, (0, 0, 0)), (48, .aload_n 0, 1, (0, 0, 0)), (49, .iload_n 1, 1, (0, 0, 0)), (50, .iload_n 2, 1, (0, 0, 0))]
theorem K258_7 : zRk 258 B258_7 = true := by decide +kernel
def B258_8 : List zRow := [(57, .aload_n 0, 1, (0, 0, 0)), (58, .iload 5, 2, (0, 0, 0))]
theorem K258_8 : zRk 258 B258_8 = true := by decide +kernel
def B258_9 : List zRow := [(78, .iload 5, 2, (0, 0, 0)), (80, .istore_n 3, 1, (0, 0, 0)), (81, .iload 6, 2, (0, 0, 0)), (83, .istore 4, 2, (0, 0, 0))]
theorem K258_9 : zRk 258 B258_9 = true := by decide +kernel
def B258_10 : List zRow := [(75, .goto 10, 3, (0, 0, 0))]
theorem K258_10 : zRk 258 B258_10 = true := by decide +kernel
def B258_11 : List zRow := [(66, .istore 6, 2, (0, 0, 0)), (68, .iload 6, 2, (0, 0, 0)), (70, .iload 4, 2, (0, 0, 0)), (72, .if_icmp .gt 6, 3, (0, 0, 0))]
theorem K258_11 : zRk 258 B258_11 = true := by decide +kernel
def B258_12 : List zRow := [(33, .iload 5, 2, (0, 0, 0)), (35, .aload_n 0, 1, (0, 0, 0)), (36, .getfield 13, 3, (12, 14, 5251442)), (39, .iconst 2, 1, (0, 0, 0)), (40, .iaload, 1, (0, 0, 0)), (41, .if_icmp .ge 50, 3, (0, 0, 0))]
theorem K258_12 : zRk 258 B258_12 = true := by decide +kernel
def B258_13 : List zRow := [(85, .iinc 5 1, 3, (0, 0, 0)), (88, .goto (-55), 3, (0, 0, 0))]
theorem K258_13 : zRk 258 B258_13 = true := by decide +kernel
def F258_1 (k0 : Int → Int → Int → Int → Int → zHM → Option (Int × zHM)) (v1 : Int) (v2 : Int) (v3 : Int) (v4 : Int) (v5 : Int) (h : zHM) : Option (Int × zHM) := k0 v1 v2 v3 v4 (wadd v5 1) h
set_option maxRecDepth 100000 in
theorem T258_1 {spec : zRn zH2} {hc : zHC} {o : Int → Int} {d : Nat} (hd : 3 ≤ d) (k0 : Int → Int → Int → Int → Int → zHM → Option (Int × zHM)) (hk0 : ∀ (v1 : Int) (v2 : Int) (v3 : Int) (v4 : Int) (v5 : Int) (h : zHM) (v : (Int × zHM)), k0 v1 v2 v3 v4 v5 h = some v → zFin 0 (fun _ => 0) (zRu2 spec d) 258 (some (0, v.1)) (hc, v.2, o) (33, [some (22, 0), some (0, v1), some (0, v2), some (0, v3), some (0, v4), some (0, v5), none], [], (hc, h, o))) (v1 : Int) (v2 : Int) (v3 : Int) (v4 : Int) (v5 : Int) (h : zHM) (v : (Int × zHM)) (e : F258_1 k0 v1 v2 v3 v4 v5 h = some v) : zFin 0 (fun _ => 0) (zRu2 spec d) 258 (some (0, v.1)) (hc, v.2, o) (85, [some (22, 0), some (0, v1), some (0, v2), some (0, v3), some (0, v4), some (0, v5), none], [], (hc, h, o)) := by
  unfold F258_1 at e
  refine zF_blk (m := []) (d := 0) (b := B258_13) (gs := []) (c' := (33, [some (22, 0), some (0, v1), some (0, v2), some (0, v3), some (0, v4), some (0, (wadd v5 1)), none], [], (hc, h, o))) K258_13 rfl trivial ?_
  exact hk0 v1 v2 v3 v4 (wadd v5 1) h _ e
def F258_0 : Nat → Int → Int → Int → Int → Int → zHM → Option (Int × zHM)
  | 0, _, _, _, _, _, _ => none
  | n + 1, v1, v2, v3, v4, v5, h => if (h 14 2) ≤ v5 then some (v3, h) else (F228 v1 v2 h).bind fun r1 => (F259 v5 v1 r1 h).bind fun r2 => (F207 v5 h).bind fun r3 => (F238 r2 r3).bind fun r4 => if v4 < r4 then F258_1 (F258_0 n) v1 v2 v5 r4 v5 h else F258_1 (F258_0 n) v1 v2 v3 v4 v5 h
set_option maxRecDepth 100000 in
theorem T258_0 {spec : zRn zH2} {hc : zHC} {o : Int → Int} {d : Nat} (hd : 3 ≤ d) : ∀ (n : Nat) (v1 : Int) (v2 : Int) (v3 : Int) (v4 : Int) (v5 : Int) (h : zHM) (v : (Int × zHM)), F258_0 n v1 v2 v3 v4 v5 h = some v → zFin 0 (fun _ => 0) (zRu2 spec d) 258 (some (0, v.1)) (hc, v.2, o) (33, [some (22, 0), some (0, v1), some (0, v2), some (0, v3), some (0, v4), some (0, v5), none], [], (hc, h, o)) := by
  intro n
  induction n with
  | zero => intro v1 v2 v3 v4 v5 h v e; unfold F258_0 at e; cases e
  | succ n hk0 =>
    intro v1 v2 v3 v4 v5 h v e
    unfold F258_0 at e
    rcases zI_s e with ⟨q1, e⟩ | ⟨q1, e⟩
    · refine zF_blk (m := []) (d := 1) (b := B258_12) (gs := [0 ≤ 2 ∧ 2 < 2140, (h 14 2) ≤ v5]) (c' := (91, [some (22, 0), some (0, v1), some (0, v2), some (0, v3), some (0, v4), some (0, v5), none], [], (hc, h, o))) K258_12 rfl ⟨by decide, q1, trivial⟩ ?_
      refine zF_blk (m := []) (d := 0) (b := B258_6) (gs := []) (c' := (92, [some (22, 0), some (0, v1), some (0, v2), some (0, v3), some (0, v4), some (0, v5), none], [(0, v3)], (hc, h, o))) K258_6 rfl trivial ?_
      obtain rfl := Option.some.inj e
      exact zF_ri (by decide +kernel)
    · refine zF_blk (m := []) (d := 0) (b := B258_12) (gs := [0 ≤ 2 ∧ 2 < 2140, ¬ ((h 14 2) ≤ v5)]) (c' := (44, [some (22, 0), some (0, v1), some (0, v2), some (0, v3), some (0, v4), some (0, v5), none], [], (hc, h, o))) K258_12 rfl ⟨by decide, q1, trivial⟩ ?_
      obtain ⟨r1, q2, e⟩ := zB_s e
      refine zF_blk (m := []) (d := 0) (b := B258_7) (gs := []) (c' := (51, [some (22, 0), some (0, v1), some (0, v2), some (0, v3), some (0, v4), some (0, v5), none], [(0, v2), (0, v1), (22, 0), (0, v1), (0, v5), (22, 0)], (hc, h, o))) K258_7 rfl trivial ?_
      refine zF_call (k := 228) (cl := 12) (n := 3) (i := .invokevirtual 273) (args := [(22, 0), (0, v1), (0, v2)]) (rest := [(0, v1), (0, v5), (22, 0)]) (g1 := (hc, h, o)) (r1 := some (0, r1)) (by decide +kernel) rfl rfl rfl (st' := [(0, r1), (0, v1), (0, v5), (22, 0)]) rfl (S228 (Nat.le_trans (by decide) hd) v1 v2 h _ q2) ?_
      obtain ⟨r2, q3, e⟩ := zB_s e
      refine zF_call (k := 259) (cl := 12) (n := 4) (i := .invokevirtual 339) (args := [(22, 0), (0, v5), (0, v1), (0, r1)]) (rest := []) (g1 := (hc, h, o)) (r1 := some (0, r2)) (by decide +kernel) rfl rfl rfl (st' := [(0, r2)]) rfl (S259 (Nat.le_trans (by decide) hd) v5 v1 r1 h _ q3) ?_
      obtain ⟨r3, q4, e⟩ := zB_s e
      refine zF_blk (m := []) (d := 0) (b := B258_8) (gs := []) (c' := (60, [some (22, 0), some (0, v1), some (0, v2), some (0, v3), some (0, v4), some (0, v5), none], [(0, v5), (22, 0), (0, r2)], (hc, h, o))) K258_8 rfl trivial ?_
      refine zF_call (k := 207) (cl := 12) (n := 2) (i := .invokevirtual 241) (args := [(22, 0), (0, v5)]) (rest := [(0, r2)]) (g1 := (hc, h, o)) (r1 := some (0, r3)) (by decide +kernel) rfl rfl rfl (st' := [(0, r3), (0, r2)]) rfl (S207 (Nat.le_trans (by decide) hd) v5 h _ q4) ?_
      obtain ⟨r4, q5, e⟩ := zB_s e
      refine zF_call (k := 238) (cl := 12) (n := 2) (i := .invokestatic 295) (args := [(0, r2), (0, r3)]) (rest := []) (g1 := (hc, h, o)) (r1 := some (0, r4)) (by decide +kernel) rfl rfl rfl (st' := [(0, r4)]) rfl (S238 (Nat.le_trans (by decide) hd) r2 r3 h _ q5) ?_
      rcases zI_s e with ⟨q6, e⟩ | ⟨q6, e⟩
      · refine zF_blk (m := []) (d := 1) (b := B258_11) (gs := [v4 < r4]) (c' := (78, [some (22, 0), some (0, v1), some (0, v2), some (0, v3), some (0, v4), some (0, v5), some (0, r4)], [], (hc, h, o))) K258_11 rfl ⟨q6, trivial⟩ ?_
        refine zF_blk (m := []) (d := 0) (b := B258_9) (gs := []) (c' := (85, [some (22, 0), some (0, v1), some (0, v2), some (0, v5), some (0, r4), some (0, v5), some (0, r4)], [], (hc, h, o))) K258_9 rfl trivial ?_
        refine zF_blk (m := [true, true, true, true, true, true, false]) (d := 0) (b := []) (gs := []) (c' := (85, [some (22, 0), some (0, v1), some (0, v2), some (0, v5), some (0, r4), some (0, v5), none], [], (hc, h, o))) rfl rfl trivial ?_
        exact T258_1 hd (F258_0 n) hk0 v1 v2 v5 r4 v5 h _ e
      · refine zF_blk (m := []) (d := 0) (b := B258_11) (gs := [¬ (v4 < r4)]) (c' := (75, [some (22, 0), some (0, v1), some (0, v2), some (0, v3), some (0, v4), some (0, v5), some (0, r4)], [], (hc, h, o))) K258_11 rfl ⟨q6, trivial⟩ ?_
        refine zF_blk (m := []) (d := 0) (b := B258_10) (gs := []) (c' := (85, [some (22, 0), some (0, v1), some (0, v2), some (0, v3), some (0, v4), some (0, v5), some (0, r4)], [], (hc, h, o))) K258_10 rfl trivial ?_
        refine zF_blk (m := [true, true, true, true, true, true, false]) (d := 0) (b := []) (gs := []) (c' := (85, [some (22, 0), some (0, v1), some (0, v2), some (0, v3), some (0, v4), some (0, v5), none], [], (hc, h, o))) rfl rfl trivial ?_
        exact T258_1 hd (F258_0 n) hk0 v1 v2 v3 v4 v5 h _ e
/-- EchoValeModel.nearest(II)I -/
def F258 (v1 : Int) (v2 : Int) (h : zHM) : Option (Int × zHM) := (F224 v1 (mset h 0 0 0)).bind fun r1 => if r1 = 0 then some ((-1), (mset h 0 0 0)) else (F188 v2 1 9).bind fun r2 => if ¬ r2 = 0 then F258_0 zFu v1 v2 (-1) 0 0 (mset h 0 0 0) else some ((-1), (mset h 0 0 0))
set_option maxRecDepth 100000 in
theorem S258 {spec : zRn zH2} {hc : zHC} {o : Int → Int} {d : Nat} (hd : 4 ≤ d) (v1 : Int) (v2 : Int) (h : zHM) (v : (Int × zHM)) (e : F258 v1 v2 h = some v) : zRu2 spec d 258 [(22, 0), (0, v1), (0, v2)] (hc, h, o) (some (0, v.1)) (hc, v.2, o) := by
  refine zF_in (D := 3) (mx := 7) (L := [some (22, 0), some (0, v1), some (0, v2), none, none, none, none]) (by decide +kernel) rfl rfl hd (fun d hd => ?_)
  unfold F258 at e
  obtain ⟨r1, q1, e⟩ := zB_s e
  refine zF_blk (m := []) (d := 0) (b := B258_0) (gs := []) (c' := (7, [some (22, 0), some (0, v1), some (0, v2), none, none, none, none], [(0, v1), (22, 0)], (hc, (mset h 0 0 0), o))) K258_0 rfl trivial ?_
  refine zF_call (k := 224) (cl := 12) (n := 2) (i := .invokevirtual 305) (args := [(22, 0), (0, v1)]) (rest := []) (g1 := (hc, (mset h 0 0 0), o)) (r1 := some (0, r1)) (by decide +kernel) rfl rfl rfl (st' := [(0, r1)]) rfl (S224 (Nat.le_trans (by decide) hd) v1 (mset h 0 0 0) _ q1) ?_
  rcases zI_s e with ⟨q2, e⟩ | ⟨q2, e⟩
  · refine zF_blk (m := []) (d := 1) (b := B258_5) (gs := [r1 = 0]) (c' := (23, [some (22, 0), some (0, v1), some (0, v2), none, none, none, none], [], (hc, (mset h 0 0 0), o))) K258_5 rfl ⟨q2, trivial⟩ ?_
    refine zF_blk (m := []) (d := 0) (b := B258_1) (gs := []) (c' := (24, [some (22, 0), some (0, v1), some (0, v2), none, none, none, none], [(0, (-1))], (hc, (mset h 0 0 0), o))) K258_1 rfl trivial ?_
    obtain rfl := Option.some.inj e
    exact zF_ri (by decide +kernel)
  · refine zF_blk (m := []) (d := 0) (b := B258_5) (gs := [¬ (r1 = 0)]) (c' := (13, [some (22, 0), some (0, v1), some (0, v2), none, none, none, none], [], (hc, (mset h 0 0 0), o))) K258_5 rfl ⟨q2, trivial⟩ ?_
    obtain ⟨r2, q3, e⟩ := zB_s e
    refine zF_blk (m := []) (d := 0) (b := B258_2) (gs := []) (c' := (17, [some (22, 0), some (0, v1), some (0, v2), none, none, none, none], [(0, 9), (0, 1), (0, v2)], (hc, (mset h 0 0 0), o))) K258_2 rfl trivial ?_
    refine zF_call (k := 188) (cl := 12) (n := 3) (i := .invokestatic 151) (args := [(0, v2), (0, 1), (0, 9)]) (rest := []) (g1 := (hc, (mset h 0 0 0), o)) (r1 := some (0, r2)) (by decide +kernel) rfl rfl rfl (st' := [(0, r2)]) rfl (S188 (Nat.le_trans (by decide) hd) v2 1 9 (mset h 0 0 0) _ q3) ?_
    rcases zI_s e with ⟨q4, e⟩ | ⟨q4, e⟩
    · refine zF_blk (m := []) (d := 1) (b := B258_4) (gs := [¬ r2 = 0]) (c' := (25, [some (22, 0), some (0, v1), some (0, v2), none, none, none, none], [], (hc, (mset h 0 0 0), o))) K258_4 rfl ⟨q4, trivial⟩ ?_
      refine zF_blk (m := []) (d := 0) (b := B258_3) (gs := []) (c' := (33, [some (22, 0), some (0, v1), some (0, v2), some (0, (-1)), some (0, 0), some (0, 0), none], [], (hc, (mset h 0 0 0), o))) K258_3 rfl trivial ?_
      exact T258_0 hd zFu v1 v2 (-1) 0 0 (mset h 0 0 0) _ e
    · refine zF_blk (m := []) (d := 0) (b := B258_4) (gs := [¬ (¬ r2 = 0)]) (c' := (23, [some (22, 0), some (0, v1), some (0, v2), none, none, none, none], [], (hc, (mset h 0 0 0), o))) K258_4 rfl ⟨q4, trivial⟩ ?_
      refine zF_blk (m := []) (d := 0) (b := B258_1) (gs := []) (c' := (24, [some (22, 0), some (0, v1), some (0, v2), none, none, none, none], [(0, (-1))], (hc, (mset h 0 0 0), o))) K258_1 rfl trivial ?_
      obtain rfl := Option.some.inj e
      exact zF_ri (by decide +kernel)
def B119_0 : List zRow := [(28, .iconst 0, 1, (0, 0, 0))]
theorem K119_0 : zRk 119 B119_0 = true := by decide +kernel
def B119_1 : List zRow := [(30, .iconst 0, 1, (0, 0, 0)), (31, .istore 4, 2, (0, 0, 0))]
theorem K119_1 : zRk 119 B119_1 = true := by decide +kernel
def B119_2 : List zRow := [(18, .iload_n 3, 1, (0, 0, 0)), (19, .iconst 3, 1, (0, 0, 0)), (20, .imul, 1, (0, 0, 0)), (21, .aload_n 1, 1, (0, 0, 0)), (22, .getfield 24, 3, (5, 1, 0)), (25, .if_icmp .eq 5, 3, (0, 0, 0))]
theorem K119_2 : zRk 119 B119_2 = true := by decide +kernel
def B119_3 : List zRow := [(12, .iload_n 3, 1, (0, 0, 0)), (13, .bipush 6, 2, (0, 0, 0)), (15, .if_icmp .gt 13, 3, (0, 0, 0))]
theorem K119_3 : zRk 119 B119_3 = true := by decide +kernel
def B119_4 : List zRow := [(0, .aload_n 1, 1, (0, 0, 0)), (1, .getfield 24, 3, (5, 1, 0)), (4, .iconst 3, 1, (0, 0, 0)), (5, .idiv, 1, (0, 0, 0)), (6, .istore_n 3, 1, (0, 0, 0)), (7, .iload_n 3, 1, (0, 0, 0)), (8, .iconst 1, 1, (0, 0, 0)), (9, .if_icmp .lt 19, 3, (0, 0, 0))]
theorem K119_4 : zRk 119 B119_4 = true := by decide +kernel
def B119_5 : List zRow := [(126, .aload_n 0, 1, (0, 0, 0)), (127, .iload_n 3, 1, (0, 0, 0)), (128, .putfield 42, 3, (4, 2, 0)), (131, .iconst 1, 1, (0, 0, 0))]
theorem K119_5 : zRk 119 B119_5 = true := by decide +kernel
def B119_6 : List zRow := [(118, .iconst 0, 1, (0, 0, 0))]
theorem K119_6 : zRk 119 B119_6 = true := by decide +kernel
def B119_7 : List zRow := [(105, .aload_n 0, 1, (0, 0, 0)), (106, .getfield 21, 3, (4, 5, 5242906)), (109, .iload 4, 2, (0, 0, 0)), (111, .iaload, 1, (0, 0, 0))]
theorem K119_7 : zRk 119 B119_7 = true := by decide +kernel
def B119_8 : List zRow := [(120, .iinc 4 1, 3, (0, 0, 0)), (123, .goto (-90), 3, (0, 0, 0))]
theorem K119_8 : zRk 119 B119_8 = true := by decide +kernel
def B119_9 : List zRow := [(115, .ifCond .ne 5, 3, (0, 0, 0))]
theorem K119_9 : zRk 119 B119_9 = true := by decide +kernel
def B119_10 : List zRow := [(39, .aload_n 0, 1, (0, 0, 0)), (40, .getfield 15, 3, (4, 3, 5242906)), (43, .iload 4, 2, (0, 0, 0)), (45, .aload_n 1, 1, (0, 0, 0)), (46, .getfield 30, 3, (5, 0, 5246642)), (49, .iload 4, 2, (0, 0, 0)), (51, .iconst 3, 1, (0, 0, 0)), (52, .imul, 1, (0, 0, 0)), (53, .iaload, 1, (0, 0, 0)), (54, .iastore, 1, (0, 0, 0)), (55, .aload_n 0, 1, (0, 0, 0)), (56, .getfield 18, 3, (4, 4, 5242906)), (59, .iload 4, 2, (0, 0, 0)), (61, .aload_n 1, 1, (0, 0, 0)), (62, .getfield 30, 3, (5, 0, 5246642)), (65, .iload 4, 2, (0, 0, 0)), (67, .iconst 3, 1, (0, 0, 0)), (68, .imul, 1, (0, 0, 0)), (69, .iconst 1, 1, (0, 0, 0)), (70, .iadd, 1, (0, 0, 0)), (71, .iaload, 1, (0, 0, 0)), (72, .iastore, 1, (0, 0, 0)), (73, .aload_n 0, 1, (0, 0, 0)), (74, .getfield 21, 3, (4, 5, 5242906)), (77, .iload 4, 2, (0, 0, 0)), (79, .aload_n 1, 1, (0, 0, 0)), (80, .getfield 30, 3, (5, 0, 5246642)), (83, .iload 4, 2, (0, 0, 0)), (85, .iconst 3, 1, (0, 0, 0)), (86, .imul, 1, (0, 0, 0)), (87, .iconst 2, 1, (0, 0, 0)), (88, .iadd, 1, (0, 0, 0)), (89, .iaload, 1, (0, 0, 0)), (90, .iastore, 1, (0, 0, 0)), (91, .aload_n 0, 1, (0, 0, 0)), (92, .getfield 15, 3, (4, 3, 5242906)), (95, .iload 4, 2, (0, 0, 0)), (97, .iaload, 1, (0, 0, 0)), (98, .aload_n 2, 1, (0, 0, 0)), (99, .getfield 33, 3, (9, 2, 0)), (102, .if_icmp .ge 16, 3, (0, 0, 0))]
theorem K119_10 : zRk 119 B119_10 = true := by decide +kernel
def B119_11 : List zRow := [(33, .iload 4, 2, (0, 0, 0)), (35, .iload_n 3, 1, (0, 0, 0)), (36, .if_icmp .ge 90, 3, (0, 0, 0))]
theorem K119_11 : zRk 119 B119_11 = true := by decide +kernel
def F119_0 : Nat → Int → Int → zHC → Option (Int × zHC)
  | 0, _, _, _ => none
  | n + 1, v3, v4, h => if v3 ≤ v4 then some (1, (hset h 258 0 0 v3)) else zG (0 ≤ (wmul v4 3) ∧ (wmul v4 3) < 940) (zG (0 ≤ v4 ∧ v4 < 6) (zG (0 ≤ (wadd (wmul v4 3) 1) ∧ (wadd (wmul v4 3) 1) < 940) (zG (0 ≤ v4 ∧ v4 < 6) (zG (0 ≤ (wadd (wmul v4 3) 2) ∧ (wadd (wmul v4 3) 2) < 940) (zG (0 ≤ v4 ∧ v4 < 6) (zG (0 ≤ v4 ∧ v4 < 6) (if ((hset (hset (hset h 259 0 v4 (h 320 0 (wmul v4 3))) 260 0 v4 ((hset h 259 0 v4 (h 320 0 (wmul v4 3))) 320 0 (wadd (wmul v4 3) 1))) 261 0 v4 ((hset (hset h 259 0 v4 (h 320 0 (wmul v4 3))) 260 0 v4 ((hset h 259 0 v4 (h 320 0 (wmul v4 3))) 320 0 (wadd (wmul v4 3) 1))) 320 0 (wadd (wmul v4 3) 2))) 578 0 0) ≤ ((hset (hset (hset h 259 0 v4 (h 320 0 (wmul v4 3))) 260 0 v4 ((hset h 259 0 v4 (h 320 0 (wmul v4 3))) 320 0 (wadd (wmul v4 3) 1))) 261 0 v4 ((hset (hset h 259 0 v4 (h 320 0 (wmul v4 3))) 260 0 v4 ((hset h 259 0 v4 (h 320 0 (wmul v4 3))) 320 0 (wadd (wmul v4 3) 1))) 320 0 (wadd (wmul v4 3) 2))) 259 0 v4) then some (0, (hset (hset (hset h 259 0 v4 (h 320 0 (wmul v4 3))) 260 0 v4 ((hset h 259 0 v4 (h 320 0 (wmul v4 3))) 320 0 (wadd (wmul v4 3) 1))) 261 0 v4 ((hset (hset h 259 0 v4 (h 320 0 (wmul v4 3))) 260 0 v4 ((hset h 259 0 v4 (h 320 0 (wmul v4 3))) 320 0 (wadd (wmul v4 3) 1))) 320 0 (wadd (wmul v4 3) 2)))) else zG (0 ≤ v4 ∧ v4 < 6) ((F74 ((hset (hset (hset h 259 0 v4 (h 320 0 (wmul v4 3))) 260 0 v4 ((hset h 259 0 v4 (h 320 0 (wmul v4 3))) 320 0 (wadd (wmul v4 3) 1))) 261 0 v4 ((hset (hset h 259 0 v4 (h 320 0 (wmul v4 3))) 260 0 v4 ((hset h 259 0 v4 (h 320 0 (wmul v4 3))) 320 0 (wadd (wmul v4 3) 1))) 320 0 (wadd (wmul v4 3) 2))) 261 0 v4)).bind fun r1 => if ¬ r1 = 0 then (F119_0 n) v3 (wadd v4 1) (hset (hset (hset h 259 0 v4 (h 320 0 (wmul v4 3))) 260 0 v4 ((hset h 259 0 v4 (h 320 0 (wmul v4 3))) 320 0 (wadd (wmul v4 3) 1))) 261 0 v4 ((hset (hset h 259 0 v4 (h 320 0 (wmul v4 3))) 260 0 v4 ((hset h 259 0 v4 (h 320 0 (wmul v4 3))) 320 0 (wadd (wmul v4 3) 1))) 320 0 (wadd (wmul v4 3) 2))) else some (0, (hset (hset (hset h 259 0 v4 (h 320 0 (wmul v4 3))) 260 0 v4 ((hset h 259 0 v4 (h 320 0 (wmul v4 3))) 320 0 (wadd (wmul v4 3) 1))) 261 0 v4 ((hset (hset h 259 0 v4 (h 320 0 (wmul v4 3))) 260 0 v4 ((hset h 259 0 v4 (h 320 0 (wmul v4 3))) 320 0 (wadd (wmul v4 3) 1))) 320 0 (wadd (wmul v4 3) 2))))))))))))
set_option maxRecDepth 100000 in
theorem T119_0 {spec : zRn zH2} {hm : zHM} {o : Int → Int} {d : Nat} (hd : 1 ≤ d) : ∀ (n : Nat) (v3 : Int) (v4 : Int) (h : zHC) (v : (Int × zHC)), F119_0 n v3 v4 h = some v → zFin 0 (fun _ => 0) (zRu2 spec d) 119 (some (0, v.1)) (v.2, hm, o) (33, [some (14, 0), some (15, 0), some (19, 0), some (0, v3), some (0, v4)], [], (h, hm, o)) := by
  intro n
  induction n with
  | zero => intro v3 v4 h v e; unfold F119_0 at e; cases e
  | succ n hk0 =>
    intro v3 v4 h v e
    unfold F119_0 at e
    rcases zI_s e with ⟨q1, e⟩ | ⟨q1, e⟩
    · refine zF_blk (m := []) (d := 1) (b := B119_11) (gs := [v3 ≤ v4]) (c' := (126, [some (14, 0), some (15, 0), some (19, 0), some (0, v3), some (0, v4)], [], (h, hm, o))) K119_11 rfl ⟨q1, trivial⟩ ?_
      refine zF_blk (m := []) (d := 0) (b := B119_5) (gs := []) (c' := (132, [some (14, 0), some (15, 0), some (19, 0), some (0, v3), some (0, v4)], [(0, 1)], ((hset h 258 0 0 v3), hm, o))) K119_5 rfl trivial ?_
      obtain rfl := Option.some.inj e
      exact zF_rb (by decide +kernel) (Or.inr rfl)
    · refine zF_blk (m := []) (d := 0) (b := B119_11) (gs := [¬ (v3 ≤ v4)]) (c' := (39, [some (14, 0), some (15, 0), some (19, 0), some (0, v3), some (0, v4)], [], (h, hm, o))) K119_11 rfl ⟨q1, trivial⟩ ?_
      obtain ⟨q2, e⟩ := zG_s e
      obtain ⟨q3, e⟩ := zG_s e
      obtain ⟨q4, e⟩ := zG_s e
      obtain ⟨q3, e⟩ := zG_s e
      obtain ⟨q5, e⟩ := zG_s e
      obtain ⟨q3, e⟩ := zG_s e
      obtain ⟨q3, e⟩ := zG_s e
      rcases zI_s e with ⟨q6, e⟩ | ⟨q6, e⟩
      · refine zF_blk (m := []) (d := 1) (b := B119_10) (gs := [0 ≤ (wmul v4 3) ∧ (wmul v4 3) < 940, 0 ≤ v4 ∧ v4 < 6, 0 ≤ (wadd (wmul v4 3) 1) ∧ (wadd (wmul v4 3) 1) < 940, 0 ≤ v4 ∧ v4 < 6, 0 ≤ (wadd (wmul v4 3) 2) ∧ (wadd (wmul v4 3) 2) < 940, 0 ≤ v4 ∧ v4 < 6, 0 ≤ v4 ∧ v4 < 6, ((hset (hset (hset h 259 0 v4 (h 320 0 (wmul v4 3))) 260 0 v4 ((hset h 259 0 v4 (h 320 0 (wmul v4 3))) 320 0 (wadd (wmul v4 3) 1))) 261 0 v4 ((hset (hset h 259 0 v4 (h 320 0 (wmul v4 3))) 260 0 v4 ((hset h 259 0 v4 (h 320 0 (wmul v4 3))) 320 0 (wadd (wmul v4 3) 1))) 320 0 (wadd (wmul v4 3) 2))) 578 0 0) ≤ ((hset (hset (hset h 259 0 v4 (h 320 0 (wmul v4 3))) 260 0 v4 ((hset h 259 0 v4 (h 320 0 (wmul v4 3))) 320 0 (wadd (wmul v4 3) 1))) 261 0 v4 ((hset (hset h 259 0 v4 (h 320 0 (wmul v4 3))) 260 0 v4 ((hset h 259 0 v4 (h 320 0 (wmul v4 3))) 320 0 (wadd (wmul v4 3) 1))) 320 0 (wadd (wmul v4 3) 2))) 259 0 v4)]) (c' := (118, [some (14, 0), some (15, 0), some (19, 0), some (0, v3), some (0, v4)], [], ((hset (hset (hset h 259 0 v4 (h 320 0 (wmul v4 3))) 260 0 v4 ((hset h 259 0 v4 (h 320 0 (wmul v4 3))) 320 0 (wadd (wmul v4 3) 1))) 261 0 v4 ((hset (hset h 259 0 v4 (h 320 0 (wmul v4 3))) 260 0 v4 ((hset h 259 0 v4 (h 320 0 (wmul v4 3))) 320 0 (wadd (wmul v4 3) 1))) 320 0 (wadd (wmul v4 3) 2))), hm, o))) K119_10 rfl ⟨q2, q3, q4, q3, q5, q3, q3, q6, trivial⟩ ?_
        refine zF_blk (m := []) (d := 0) (b := B119_6) (gs := []) (c' := (119, [some (14, 0), some (15, 0), some (19, 0), some (0, v3), some (0, v4)], [(0, 0)], ((hset (hset (hset h 259 0 v4 (h 320 0 (wmul v4 3))) 260 0 v4 ((hset h 259 0 v4 (h 320 0 (wmul v4 3))) 320 0 (wadd (wmul v4 3) 1))) 261 0 v4 ((hset (hset h 259 0 v4 (h 320 0 (wmul v4 3))) 260 0 v4 ((hset h 259 0 v4 (h 320 0 (wmul v4 3))) 320 0 (wadd (wmul v4 3) 1))) 320 0 (wadd (wmul v4 3) 2))), hm, o))) K119_6 rfl trivial ?_
        obtain rfl := Option.some.inj e
        exact zF_rb (by decide +kernel) (Or.inl rfl)
      · refine zF_blk (m := []) (d := 0) (b := B119_10) (gs := [0 ≤ (wmul v4 3) ∧ (wmul v4 3) < 940, 0 ≤ v4 ∧ v4 < 6, 0 ≤ (wadd (wmul v4 3) 1) ∧ (wadd (wmul v4 3) 1) < 940, 0 ≤ v4 ∧ v4 < 6, 0 ≤ (wadd (wmul v4 3) 2) ∧ (wadd (wmul v4 3) 2) < 940, 0 ≤ v4 ∧ v4 < 6, 0 ≤ v4 ∧ v4 < 6, ¬ (((hset (hset (hset h 259 0 v4 (h 320 0 (wmul v4 3))) 260 0 v4 ((hset h 259 0 v4 (h 320 0 (wmul v4 3))) 320 0 (wadd (wmul v4 3) 1))) 261 0 v4 ((hset (hset h 259 0 v4 (h 320 0 (wmul v4 3))) 260 0 v4 ((hset h 259 0 v4 (h 320 0 (wmul v4 3))) 320 0 (wadd (wmul v4 3) 1))) 320 0 (wadd (wmul v4 3) 2))) 578 0 0) ≤ ((hset (hset (hset h 259 0 v4 (h 320 0 (wmul v4 3))) 260 0 v4 ((hset h 259 0 v4 (h 320 0 (wmul v4 3))) 320 0 (wadd (wmul v4 3) 1))) 261 0 v4 ((hset (hset h 259 0 v4 (h 320 0 (wmul v4 3))) 260 0 v4 ((hset h 259 0 v4 (h 320 0 (wmul v4 3))) 320 0 (wadd (wmul v4 3) 1))) 320 0 (wadd (wmul v4 3) 2))) 259 0 v4))]) (c' := (105, [some (14, 0), some (15, 0), some (19, 0), some (0, v3), some (0, v4)], [], ((hset (hset (hset h 259 0 v4 (h 320 0 (wmul v4 3))) 260 0 v4 ((hset h 259 0 v4 (h 320 0 (wmul v4 3))) 320 0 (wadd (wmul v4 3) 1))) 261 0 v4 ((hset (hset h 259 0 v4 (h 320 0 (wmul v4 3))) 260 0 v4 ((hset h 259 0 v4 (h 320 0 (wmul v4 3))) 320 0 (wadd (wmul v4 3) 1))) 320 0 (wadd (wmul v4 3) 2))), hm, o))) K119_10 rfl ⟨q2, q3, q4, q3, q5, q3, q3, q6, trivial⟩ ?_
        obtain ⟨q7, e⟩ := zG_s e
        obtain ⟨r1, q8, e⟩ := zB_s e
        refine zF_blk (m := []) (d := 0) (b := B119_7) (gs := [0 ≤ v4 ∧ v4 < 6]) (c' := (112, [some (14, 0), some (15, 0), some (19, 0), some (0, v3), some (0, v4)], [(0, ((hset (hset (hset h 259 0 v4 (h 320 0 (wmul v4 3))) 260 0 v4 ((hset h 259 0 v4 (h 320 0 (wmul v4 3))) 320 0 (wadd (wmul v4 3) 1))) 261 0 v4 ((hset (hset h 259 0 v4 (h 320 0 (wmul v4 3))) 260 0 v4 ((hset h 259 0 v4 (h 320 0 (wmul v4 3))) 320 0 (wadd (wmul v4 3) 1))) 320 0 (wadd (wmul v4 3) 2))) 261 0 v4))], ((hset (hset (hset h 259 0 v4 (h 320 0 (wmul v4 3))) 260 0 v4 ((hset h 259 0 v4 (h 320 0 (wmul v4 3))) 320 0 (wadd (wmul v4 3) 1))) 261 0 v4 ((hset (hset h 259 0 v4 (h 320 0 (wmul v4 3))) 260 0 v4 ((hset h 259 0 v4 (h 320 0 (wmul v4 3))) 320 0 (wadd (wmul v4 3) 1))) 320 0 (wadd (wmul v4 3) 2))), hm, o))) K119_7 rfl ⟨q7, trivial⟩ ?_
        refine zF_call (k := 74) (cl := 11) (n := 1) (i := .invokestatic 38) (args := [(0, ((hset (hset (hset h 259 0 v4 (h 320 0 (wmul v4 3))) 260 0 v4 ((hset h 259 0 v4 (h 320 0 (wmul v4 3))) 320 0 (wadd (wmul v4 3) 1))) 261 0 v4 ((hset (hset h 259 0 v4 (h 320 0 (wmul v4 3))) 260 0 v4 ((hset h 259 0 v4 (h 320 0 (wmul v4 3))) 320 0 (wadd (wmul v4 3) 1))) 320 0 (wadd (wmul v4 3) 2))) 261 0 v4))]) (rest := []) (g1 := ((hset (hset (hset h 259 0 v4 (h 320 0 (wmul v4 3))) 260 0 v4 ((hset h 259 0 v4 (h 320 0 (wmul v4 3))) 320 0 (wadd (wmul v4 3) 1))) 261 0 v4 ((hset (hset h 259 0 v4 (h 320 0 (wmul v4 3))) 260 0 v4 ((hset h 259 0 v4 (h 320 0 (wmul v4 3))) 320 0 (wadd (wmul v4 3) 1))) 320 0 (wadd (wmul v4 3) 2))), hm, o)) (r1 := some (0, r1)) (by decide +kernel) rfl rfl rfl (st' := [(0, r1)]) rfl (S74 (Nat.le_trans (by decide) hd) ((hset (hset (hset h 259 0 v4 (h 320 0 (wmul v4 3))) 260 0 v4 ((hset h 259 0 v4 (h 320 0 (wmul v4 3))) 320 0 (wadd (wmul v4 3) 1))) 261 0 v4 ((hset (hset h 259 0 v4 (h 320 0 (wmul v4 3))) 260 0 v4 ((hset h 259 0 v4 (h 320 0 (wmul v4 3))) 320 0 (wadd (wmul v4 3) 1))) 320 0 (wadd (wmul v4 3) 2))) 261 0 v4) (hset (hset (hset h 259 0 v4 (h 320 0 (wmul v4 3))) 260 0 v4 ((hset h 259 0 v4 (h 320 0 (wmul v4 3))) 320 0 (wadd (wmul v4 3) 1))) 261 0 v4 ((hset (hset h 259 0 v4 (h 320 0 (wmul v4 3))) 260 0 v4 ((hset h 259 0 v4 (h 320 0 (wmul v4 3))) 320 0 (wadd (wmul v4 3) 1))) 320 0 (wadd (wmul v4 3) 2))) _ q8) ?_
        rcases zI_s e with ⟨q9, e⟩ | ⟨q9, e⟩
        · refine zF_blk (m := []) (d := 1) (b := B119_9) (gs := [¬ r1 = 0]) (c' := (120, [some (14, 0), some (15, 0), some (19, 0), some (0, v3), some (0, v4)], [], ((hset (hset (hset h 259 0 v4 (h 320 0 (wmul v4 3))) 260 0 v4 ((hset h 259 0 v4 (h 320 0 (wmul v4 3))) 320 0 (wadd (wmul v4 3) 1))) 261 0 v4 ((hset (hset h 259 0 v4 (h 320 0 (wmul v4 3))) 260 0 v4 ((hset h 259 0 v4 (h 320 0 (wmul v4 3))) 320 0 (wadd (wmul v4 3) 1))) 320 0 (wadd (wmul v4 3) 2))), hm, o))) K119_9 rfl ⟨q9, trivial⟩ ?_
          refine zF_blk (m := []) (d := 0) (b := B119_8) (gs := []) (c' := (33, [some (14, 0), some (15, 0), some (19, 0), some (0, v3), some (0, (wadd v4 1))], [], ((hset (hset (hset h 259 0 v4 (h 320 0 (wmul v4 3))) 260 0 v4 ((hset h 259 0 v4 (h 320 0 (wmul v4 3))) 320 0 (wadd (wmul v4 3) 1))) 261 0 v4 ((hset (hset h 259 0 v4 (h 320 0 (wmul v4 3))) 260 0 v4 ((hset h 259 0 v4 (h 320 0 (wmul v4 3))) 320 0 (wadd (wmul v4 3) 1))) 320 0 (wadd (wmul v4 3) 2))), hm, o))) K119_8 rfl trivial ?_
          exact hk0 v3 (wadd v4 1) (hset (hset (hset h 259 0 v4 (h 320 0 (wmul v4 3))) 260 0 v4 ((hset h 259 0 v4 (h 320 0 (wmul v4 3))) 320 0 (wadd (wmul v4 3) 1))) 261 0 v4 ((hset (hset h 259 0 v4 (h 320 0 (wmul v4 3))) 260 0 v4 ((hset h 259 0 v4 (h 320 0 (wmul v4 3))) 320 0 (wadd (wmul v4 3) 1))) 320 0 (wadd (wmul v4 3) 2))) _ e
        · refine zF_blk (m := []) (d := 0) (b := B119_9) (gs := [¬ (¬ r1 = 0)]) (c' := (118, [some (14, 0), some (15, 0), some (19, 0), some (0, v3), some (0, v4)], [], ((hset (hset (hset h 259 0 v4 (h 320 0 (wmul v4 3))) 260 0 v4 ((hset h 259 0 v4 (h 320 0 (wmul v4 3))) 320 0 (wadd (wmul v4 3) 1))) 261 0 v4 ((hset (hset h 259 0 v4 (h 320 0 (wmul v4 3))) 260 0 v4 ((hset h 259 0 v4 (h 320 0 (wmul v4 3))) 320 0 (wadd (wmul v4 3) 1))) 320 0 (wadd (wmul v4 3) 2))), hm, o))) K119_9 rfl ⟨q9, trivial⟩ ?_
          refine zF_blk (m := []) (d := 0) (b := B119_6) (gs := []) (c' := (119, [some (14, 0), some (15, 0), some (19, 0), some (0, v3), some (0, v4)], [(0, 0)], ((hset (hset (hset h 259 0 v4 (h 320 0 (wmul v4 3))) 260 0 v4 ((hset h 259 0 v4 (h 320 0 (wmul v4 3))) 320 0 (wadd (wmul v4 3) 1))) 261 0 v4 ((hset (hset h 259 0 v4 (h 320 0 (wmul v4 3))) 260 0 v4 ((hset h 259 0 v4 (h 320 0 (wmul v4 3))) 320 0 (wadd (wmul v4 3) 1))) 320 0 (wadd (wmul v4 3) 2))), hm, o))) K119_6 rfl trivial ?_
          obtain rfl := Option.some.inj e
          exact zF_rb (by decide +kernel) (Or.inl rfl)
/-- EchoVale$Pieces.take(LEchoVale$Reader;LEchoVale$Valley;)Z -/
def F119 (h : zHC) : Option (Int × zHC) := if (wdiv (h 321 0 0) 3) < 1 then some (0, h) else if 6 < (wdiv (h 321 0 0) 3) then some (0, h) else if (wmul (wdiv (h 321 0 0) 3) 3) = (h 321 0 0) then F119_0 zFu (wdiv (h 321 0 0) 3) 0 h else some (0, h)
set_option maxRecDepth 100000 in
theorem S119 {spec : zRn zH2} {hm : zHM} {o : Int → Int} {d : Nat} (hd : 2 ≤ d) (h : zHC) (v : (Int × zHC)) (e : F119 h = some v) : zRu2 spec d 119 [(14, 0), (15, 0), (19, 0)] (h, hm, o) (some (0, v.1)) (v.2, hm, o) := by
  refine zF_in (D := 1) (mx := 5) (L := [some (14, 0), some (15, 0), some (19, 0), none, none]) (by decide +kernel) rfl rfl hd (fun d hd => ?_)
  unfold F119 at e
  rcases zI_s e with ⟨q1, e⟩ | ⟨q1, e⟩
  · refine zF_blk (m := []) (d := 1) (b := B119_4) (gs := [¬ 3 = 0, (wdiv (h 321 0 0) 3) < 1]) (c' := (28, [some (14, 0), some (15, 0), some (19, 0), some (0, (wdiv (h 321 0 0) 3)), none], [], (h, hm, o))) K119_4 rfl ⟨by decide, q1, trivial⟩ ?_
    refine zF_blk (m := []) (d := 0) (b := B119_0) (gs := []) (c' := (29, [some (14, 0), some (15, 0), some (19, 0), some (0, (wdiv (h 321 0 0) 3)), none], [(0, 0)], (h, hm, o))) K119_0 rfl trivial ?_
    obtain rfl := Option.some.inj e
    exact zF_rb (by decide +kernel) (Or.inl rfl)
  · refine zF_blk (m := []) (d := 0) (b := B119_4) (gs := [¬ 3 = 0, ¬ ((wdiv (h 321 0 0) 3) < 1)]) (c' := (12, [some (14, 0), some (15, 0), some (19, 0), some (0, (wdiv (h 321 0 0) 3)), none], [], (h, hm, o))) K119_4 rfl ⟨by decide, q1, trivial⟩ ?_
    rcases zI_s e with ⟨q2, e⟩ | ⟨q2, e⟩
    · refine zF_blk (m := []) (d := 1) (b := B119_3) (gs := [6 < (wdiv (h 321 0 0) 3)]) (c' := (28, [some (14, 0), some (15, 0), some (19, 0), some (0, (wdiv (h 321 0 0) 3)), none], [], (h, hm, o))) K119_3 rfl ⟨q2, trivial⟩ ?_
      refine zF_blk (m := []) (d := 0) (b := B119_0) (gs := []) (c' := (29, [some (14, 0), some (15, 0), some (19, 0), some (0, (wdiv (h 321 0 0) 3)), none], [(0, 0)], (h, hm, o))) K119_0 rfl trivial ?_
      obtain rfl := Option.some.inj e
      exact zF_rb (by decide +kernel) (Or.inl rfl)
    · refine zF_blk (m := []) (d := 0) (b := B119_3) (gs := [¬ (6 < (wdiv (h 321 0 0) 3))]) (c' := (18, [some (14, 0), some (15, 0), some (19, 0), some (0, (wdiv (h 321 0 0) 3)), none], [], (h, hm, o))) K119_3 rfl ⟨q2, trivial⟩ ?_
      rcases zI_s e with ⟨q3, e⟩ | ⟨q3, e⟩
      · refine zF_blk (m := []) (d := 1) (b := B119_2) (gs := [(wmul (wdiv (h 321 0 0) 3) 3) = (h 321 0 0)]) (c' := (30, [some (14, 0), some (15, 0), some (19, 0), some (0, (wdiv (h 321 0 0) 3)), none], [], (h, hm, o))) K119_2 rfl ⟨q3, trivial⟩ ?_
        refine zF_blk (m := []) (d := 0) (b := B119_1) (gs := []) (c' := (33, [some (14, 0), some (15, 0), some (19, 0), some (0, (wdiv (h 321 0 0) 3)), some (0, 0)], [], (h, hm, o))) K119_1 rfl trivial ?_
        exact T119_0 hd zFu (wdiv (h 321 0 0) 3) 0 h _ e
      · refine zF_blk (m := []) (d := 0) (b := B119_2) (gs := [¬ ((wmul (wdiv (h 321 0 0) 3) 3) = (h 321 0 0))]) (c' := (28, [some (14, 0), some (15, 0), some (19, 0), some (0, (wdiv (h 321 0 0) 3)), none], [], (h, hm, o))) K119_2 rfl ⟨q3, trivial⟩ ?_
        refine zF_blk (m := []) (d := 0) (b := B119_0) (gs := []) (c' := (29, [some (14, 0), some (15, 0), some (19, 0), some (0, (wdiv (h 321 0 0) 3)), none], [(0, 0)], (h, hm, o))) K119_0 rfl trivial ?_
        obtain rfl := Option.some.inj e
        exact zF_rb (by decide +kernel) (Or.inl rfl)
def B122_0 : List zRow := [(0, .iconst 0, 1, (0, 0, 0)), (1, .istore_n 3, 1, (0, 0, 0))]
theorem K122_0 : zRk 122 B122_0 = true := by decide +kernel
def B122_1 : List zRow := [(80, .iconst 0, 1, (0, 0, 0))]
theorem K122_1 : zRk 122 B122_1 = true := by decide +kernel
def B122_2 : List zRow := [(12, .iconst 0, 1, (0, 0, 0)), (13, .istore 4, 2, (0, 0, 0)), (15, .iconst 0, 1, (0, 0, 0)), (16, .istore 5, 2, (0, 0, 0))]
theorem K122_2 : zRk 122 B122_2 = true := by decide +kernel
def B122_3 : List zRow := [(2, .iload_n 3, 1, (0, 0, 0)), (3, .iconst 1, 1, (0, 0, 0)), (4, .aload_n 0, 1, (0, 0, 0)), (5, .getfield 33, 3, (9, 2, 0)), (8, .ishl, 1, (0, 0, 0)), (9, .if_icmp .ge 71, 3, (0, 0, 0))]
theorem K122_3 : zRk 122 B122_3 = true := by decide +kernel
def B122_4 : List zRow := [(64, .iload_n 3, 1, (0, 0, 0)), (65, .iload_n 1, 1, (0, 0, 0))]
theorem K122_4 : zRk 122 B122_4 = true := by decide +kernel
def B122_5 : List zRow := [(72, .iconst 1, 1, (0, 0, 0))]
theorem K122_5 : zRk 122 B122_5 = true := by decide +kernel
def B122_6 : List zRow := [(69, .ifCond .eq 5, 3, (0, 0, 0))]
theorem K122_6 : zRk 122 B122_6 = true := by decide +kernel
def B122_7 : List zRow := [(58, .iload 4, 2, (0, 0, 0)), (60, .iload_n 2, 1, (0, 0, 0)), (61, .if_icmp .ne 13, 3, (0, 0, 0))]
theorem K122_7 : zRk 122 B122_7 = true := by decide +kernel
def B122_8 : List zRow := [(27, .iload 4, 2, (0, 0, 0)), (29, .iload_n 3, 1, (0, 0, 0)), (30, .iload 5, 2, (0, 0, 0))]
theorem K122_8 : zRk 122 B122_8 = true := by decide +kernel
def B122_9 : List zRow := [(48, .iconst 0, 1, (0, 0, 0))]
theorem K122_9 : zRk 122 B122_9 = true := by decide +kernel
def B122_10 : List zRow := [(38, .aload_n 0, 1, (0, 0, 0)), (39, .getfield 71, 3, (9, 9, 5242906)), (42, .iload 5, 2, (0, 0, 0)), (44, .iaload, 1, (0, 0, 0)), (45, .goto 4, 3, (0, 0, 0))]
theorem K122_10 : zRk 122 B122_10 = true := by decide +kernel
def B122_11 : List zRow := [(35, .ifCond .eq 13, 3, (0, 0, 0))]
theorem K122_11 : zRk 122 B122_11 = true := by decide +kernel
def B122_12 : List zRow := [(18, .iload 5, 2, (0, 0, 0)), (20, .aload_n 0, 1, (0, 0, 0)), (21, .getfield 33, 3, (9, 2, 0)), (24, .if_icmp .ge 34, 3, (0, 0, 0))]
theorem K122_12 : zRk 122 B122_12 = true := by decide +kernel
def B122_13 : List zRow := [(49, .iadd, 1, (0, 0, 0)), (50, .istore 4, 2, (0, 0, 0)), (52, .iinc 5 1, 3, (0, 0, 0)), (55, .goto (-37), 3, (0, 0, 0))]
theorem K122_13 : zRk 122 B122_13 = true := by decide +kernel
def B122_14 : List zRow := [(74, .iinc 3 1, 3, (0, 0, 0)), (77, .goto (-75), 3, (0, 0, 0))]
theorem K122_14 : zRk 122 B122_14 = true := by decide +kernel
def F122_2 (k0 : Int → Int → Int → Option Int) (h : zHC) (v1 : Int) (v2 : Int) (v3 : Int) : Option Int := k0 v1 v2 (wadd v3 1)
set_option maxRecDepth 100000 in
theorem T122_2 {spec : zRn zH2} {hm : zHM} {o : Int → Int} {d : Nat} (hd : 1 ≤ d) (h : zHC) (k0 : Int → Int → Int → Option Int) (hk0 : ∀ (v1 : Int) (v2 : Int) (v3 : Int) (v : Int), k0 v1 v2 v3 = some v → zFin 0 (fun _ => 0) (zRu2 spec d) 122 (some (0, v)) (h, hm, o) (2, [some (19, 0), some (0, v1), some (0, v2), some (0, v3), none, none], [], (h, hm, o))) (v1 : Int) (v2 : Int) (v3 : Int) (v : Int) (e : F122_2 k0 h v1 v2 v3 = some v) : zFin 0 (fun _ => 0) (zRu2 spec d) 122 (some (0, v)) (h, hm, o) (74, [some (19, 0), some (0, v1), some (0, v2), some (0, v3), none, none], [], (h, hm, o)) := by
  unfold F122_2 at e
  refine zF_blk (m := []) (d := 0) (b := B122_14) (gs := []) (c' := (2, [some (19, 0), some (0, v1), some (0, v2), some (0, (wadd v3 1)), none, none], [], (h, hm, o))) K122_14 rfl trivial ?_
  exact hk0 v1 v2 (wadd v3 1) _ e
def F122_3 (k0 : Int → Int → Int → Option Int) (k1 : Int → Int → Int → Int → Int → Option Int) (h : zHC) (v1 : Int) (v2 : Int) (v3 : Int) (v5 : Int) (s0 : Int) (s1 : Int) : Option Int := k1 v1 v2 v3 (wadd s1 s0) (wadd v5 1)
set_option maxRecDepth 100000 in
theorem T122_3 {spec : zRn zH2} {hm : zHM} {o : Int → Int} {d : Nat} (hd : 1 ≤ d) (h : zHC) (k0 : Int → Int → Int → Option Int) (hk0 : ∀ (v1 : Int) (v2 : Int) (v3 : Int) (v : Int), k0 v1 v2 v3 = some v → zFin 0 (fun _ => 0) (zRu2 spec d) 122 (some (0, v)) (h, hm, o) (2, [some (19, 0), some (0, v1), some (0, v2), some (0, v3), none, none], [], (h, hm, o))) (k1 : Int → Int → Int → Int → Int → Option Int) (hk1 : ∀ (v1 : Int) (v2 : Int) (v3 : Int) (v4 : Int) (v5 : Int) (v : Int), k1 v1 v2 v3 v4 v5 = some v → zFin 0 (fun _ => 0) (zRu2 spec d) 122 (some (0, v)) (h, hm, o) (18, [some (19, 0), some (0, v1), some (0, v2), some (0, v3), some (0, v4), some (0, v5)], [], (h, hm, o))) (v1 : Int) (v2 : Int) (v3 : Int) (v5 : Int) (s0 : Int) (s1 : Int) (v : Int) (e : F122_3 k0 k1 h v1 v2 v3 v5 s0 s1 = some v) : zFin 0 (fun _ => 0) (zRu2 spec d) 122 (some (0, v)) (h, hm, o) (49, [some (19, 0), some (0, v1), some (0, v2), some (0, v3), none, some (0, v5)], [(0, s0), (0, s1)], (h, hm, o)) := by
  unfold F122_3 at e
  refine zF_blk (m := []) (d := 0) (b := B122_13) (gs := []) (c' := (18, [some (19, 0), some (0, v1), some (0, v2), some (0, v3), some (0, (wadd s1 s0)), some (0, (wadd v5 1))], [], (h, hm, o))) K122_13 rfl trivial ?_
  exact hk1 v1 v2 v3 (wadd s1 s0) (wadd v5 1) _ e
def F122_1 (k0 : Int → Int → Int → Option Int) (h : zHC) : Nat → Int → Int → Int → Int → Int → Option Int
  | 0, _, _, _, _, _ => none
  | n + 1, v1, v2, v3, v4, v5 => if (h 578 0 0) ≤ v5 then if ¬ v4 = v2 then F122_2 k0 h v1 v2 v3 else (F65 v3 v1).bind fun r1 => if r1 = 0 then F122_2 k0 h v1 v2 v3 else some 1 else (F65 v3 v5).bind fun r2 => if r2 = 0 then F122_3 k0 (F122_1 k0 h n) h v1 v2 v3 v5 0 v4 else zG (0 ≤ v5 ∧ v5 < 6) (F122_3 k0 (F122_1 k0 h n) h v1 v2 v3 v5 (h 585 0 v5) v4)
set_option maxRecDepth 100000 in
theorem T122_1 {spec : zRn zH2} {hm : zHM} {o : Int → Int} {d : Nat} (hd : 1 ≤ d) (h : zHC) (k0 : Int → Int → Int → Option Int) (hk0 : ∀ (v1 : Int) (v2 : Int) (v3 : Int) (v : Int), k0 v1 v2 v3 = some v → zFin 0 (fun _ => 0) (zRu2 spec d) 122 (some (0, v)) (h, hm, o) (2, [some (19, 0), some (0, v1), some (0, v2), some (0, v3), none, none], [], (h, hm, o))) : ∀ (n : Nat) (v1 : Int) (v2 : Int) (v3 : Int) (v4 : Int) (v5 : Int) (v : Int), F122_1 k0 h n v1 v2 v3 v4 v5 = some v → zFin 0 (fun _ => 0) (zRu2 spec d) 122 (some (0, v)) (h, hm, o) (18, [some (19, 0), some (0, v1), some (0, v2), some (0, v3), some (0, v4), some (0, v5)], [], (h, hm, o)) := by
  intro n
  induction n with
  | zero => intro v1 v2 v3 v4 v5 v e; unfold F122_1 at e; cases e
  | succ n hk1 =>
    intro v1 v2 v3 v4 v5 v e
    unfold F122_1 at e
    rcases zI_s e with ⟨q1, e⟩ | ⟨q1, e⟩
    · refine zF_blk (m := []) (d := 1) (b := B122_12) (gs := [(h 578 0 0) ≤ v5]) (c' := (58, [some (19, 0), some (0, v1), some (0, v2), some (0, v3), some (0, v4), some (0, v5)], [], (h, hm, o))) K122_12 rfl ⟨q1, trivial⟩ ?_
      rcases zI_s e with ⟨q2, e⟩ | ⟨q2, e⟩
      · refine zF_blk (m := []) (d := 1) (b := B122_7) (gs := [¬ v4 = v2]) (c' := (74, [some (19, 0), some (0, v1), some (0, v2), some (0, v3), some (0, v4), some (0, v5)], [], (h, hm, o))) K122_7 rfl ⟨q2, trivial⟩ ?_
        refine zF_blk (m := [true, true, true, true, false, false]) (d := 0) (b := []) (gs := []) (c' := (74, [some (19, 0), some (0, v1), some (0, v2), some (0, v3), none, none], [], (h, hm, o))) rfl rfl trivial ?_
        exact T122_2 hd h k0 hk0 v1 v2 v3 _ e
      · refine zF_blk (m := []) (d := 0) (b := B122_7) (gs := [¬ (¬ v4 = v2)]) (c' := (64, [some (19, 0), some (0, v1), some (0, v2), some (0, v3), some (0, v4), some (0, v5)], [], (h, hm, o))) K122_7 rfl ⟨q2, trivial⟩ ?_
        obtain ⟨r1, q3, e⟩ := zB_s e
        refine zF_blk (m := []) (d := 0) (b := B122_4) (gs := []) (c' := (66, [some (19, 0), some (0, v1), some (0, v2), some (0, v3), some (0, v4), some (0, v5)], [(0, v1), (0, v3)], (h, hm, o))) K122_4 rfl trivial ?_
        refine zF_call (k := 65) (cl := 11) (n := 2) (i := .invokestatic 67) (args := [(0, v3), (0, v1)]) (rest := []) (g1 := (h, hm, o)) (r1 := some (0, r1)) (by decide +kernel) rfl rfl rfl (st' := [(0, r1)]) rfl (S65 (Nat.le_trans (by decide) hd) v3 v1 h _ q3) ?_
        rcases zI_s e with ⟨q4, e⟩ | ⟨q4, e⟩
        · refine zF_blk (m := []) (d := 1) (b := B122_6) (gs := [r1 = 0]) (c' := (74, [some (19, 0), some (0, v1), some (0, v2), some (0, v3), some (0, v4), some (0, v5)], [], (h, hm, o))) K122_6 rfl ⟨q4, trivial⟩ ?_
          refine zF_blk (m := [true, true, true, true, false, false]) (d := 0) (b := []) (gs := []) (c' := (74, [some (19, 0), some (0, v1), some (0, v2), some (0, v3), none, none], [], (h, hm, o))) rfl rfl trivial ?_
          exact T122_2 hd h k0 hk0 v1 v2 v3 _ e
        · refine zF_blk (m := []) (d := 0) (b := B122_6) (gs := [¬ (r1 = 0)]) (c' := (72, [some (19, 0), some (0, v1), some (0, v2), some (0, v3), some (0, v4), some (0, v5)], [], (h, hm, o))) K122_6 rfl ⟨q4, trivial⟩ ?_
          refine zF_blk (m := []) (d := 0) (b := B122_5) (gs := []) (c' := (73, [some (19, 0), some (0, v1), some (0, v2), some (0, v3), some (0, v4), some (0, v5)], [(0, 1)], (h, hm, o))) K122_5 rfl trivial ?_
          obtain rfl := Option.some.inj e
          exact zF_rb (by decide +kernel) (Or.inr rfl)
    · refine zF_blk (m := []) (d := 0) (b := B122_12) (gs := [¬ ((h 578 0 0) ≤ v5)]) (c' := (27, [some (19, 0), some (0, v1), some (0, v2), some (0, v3), some (0, v4), some (0, v5)], [], (h, hm, o))) K122_12 rfl ⟨q1, trivial⟩ ?_
      obtain ⟨r2, q5, e⟩ := zB_s e
      refine zF_blk (m := []) (d := 0) (b := B122_8) (gs := []) (c' := (32, [some (19, 0), some (0, v1), some (0, v2), some (0, v3), some (0, v4), some (0, v5)], [(0, v5), (0, v3), (0, v4)], (h, hm, o))) K122_8 rfl trivial ?_
      refine zF_call (k := 65) (cl := 11) (n := 2) (i := .invokestatic 67) (args := [(0, v3), (0, v5)]) (rest := [(0, v4)]) (g1 := (h, hm, o)) (r1 := some (0, r2)) (by decide +kernel) rfl rfl rfl (st' := [(0, r2), (0, v4)]) rfl (S65 (Nat.le_trans (by decide) hd) v3 v5 h _ q5) ?_
      rcases zI_s e with ⟨q6, e⟩ | ⟨q6, e⟩
      · refine zF_blk (m := []) (d := 1) (b := B122_11) (gs := [r2 = 0]) (c' := (48, [some (19, 0), some (0, v1), some (0, v2), some (0, v3), some (0, v4), some (0, v5)], [(0, v4)], (h, hm, o))) K122_11 rfl ⟨q6, trivial⟩ ?_
        refine zF_blk (m := []) (d := 0) (b := B122_9) (gs := []) (c' := (49, [some (19, 0), some (0, v1), some (0, v2), some (0, v3), some (0, v4), some (0, v5)], [(0, 0), (0, v4)], (h, hm, o))) K122_9 rfl trivial ?_
        refine zF_blk (m := [true, true, true, true, false, true]) (d := 0) (b := []) (gs := []) (c' := (49, [some (19, 0), some (0, v1), some (0, v2), some (0, v3), none, some (0, v5)], [(0, 0), (0, v4)], (h, hm, o))) rfl rfl trivial ?_
        exact T122_3 hd h k0 hk0 (F122_1 k0 h n) hk1 v1 v2 v3 v5 0 v4 _ e
      · refine zF_blk (m := []) (d := 0) (b := B122_11) (gs := [¬ (r2 = 0)]) (c' := (38, [some (19, 0), some (0, v1), some (0, v2), some (0, v3), some (0, v4), some (0, v5)], [(0, v4)], (h, hm, o))) K122_11 rfl ⟨q6, trivial⟩ ?_
        obtain ⟨q7, e⟩ := zG_s e
        refine zF_blk (m := []) (d := 0) (b := B122_10) (gs := [0 ≤ v5 ∧ v5 < 6]) (c' := (49, [some (19, 0), some (0, v1), some (0, v2), some (0, v3), some (0, v4), some (0, v5)], [(0, (h 585 0 v5)), (0, v4)], (h, hm, o))) K122_10 rfl ⟨q7, trivial⟩ ?_
        refine zF_blk (m := [true, true, true, true, false, true]) (d := 0) (b := []) (gs := []) (c' := (49, [some (19, 0), some (0, v1), some (0, v2), some (0, v3), none, some (0, v5)], [(0, (h 585 0 v5)), (0, v4)], (h, hm, o))) rfl rfl trivial ?_
        exact T122_3 hd h k0 hk0 (F122_1 k0 h n) hk1 v1 v2 v3 v5 (h 585 0 v5) v4 _ e
def F122_0 (h : zHC) : Nat → Int → Int → Int → Option Int
  | 0, _, _, _ => none
  | n + 1, v1, v2, v3 => if (wshl 1 (h 578 0 0)) ≤ v3 then some 0 else F122_1 (F122_0 h n) h zFu v1 v2 v3 0 0
set_option maxRecDepth 100000 in
theorem T122_0 {spec : zRn zH2} {hm : zHM} {o : Int → Int} {d : Nat} (hd : 1 ≤ d) (h : zHC) : ∀ (n : Nat) (v1 : Int) (v2 : Int) (v3 : Int) (v : Int), F122_0 h n v1 v2 v3 = some v → zFin 0 (fun _ => 0) (zRu2 spec d) 122 (some (0, v)) (h, hm, o) (2, [some (19, 0), some (0, v1), some (0, v2), some (0, v3), none, none], [], (h, hm, o)) := by
  intro n
  induction n with
  | zero => intro v1 v2 v3 v e; unfold F122_0 at e; cases e
  | succ n hk0 =>
    intro v1 v2 v3 v e
    unfold F122_0 at e
    rcases zI_s e with ⟨q1, e⟩ | ⟨q1, e⟩
    · refine zF_blk (m := []) (d := 1) (b := B122_3) (gs := [(wshl 1 (h 578 0 0)) ≤ v3]) (c' := (80, [some (19, 0), some (0, v1), some (0, v2), some (0, v3), none, none], [], (h, hm, o))) K122_3 rfl ⟨q1, trivial⟩ ?_
      refine zF_blk (m := []) (d := 0) (b := B122_1) (gs := []) (c' := (81, [some (19, 0), some (0, v1), some (0, v2), some (0, v3), none, none], [(0, 0)], (h, hm, o))) K122_1 rfl trivial ?_
      obtain rfl := Option.some.inj e
      exact zF_rb (by decide +kernel) (Or.inl rfl)
    · refine zF_blk (m := []) (d := 0) (b := B122_3) (gs := [¬ ((wshl 1 (h 578 0 0)) ≤ v3)]) (c' := (12, [some (19, 0), some (0, v1), some (0, v2), some (0, v3), none, none], [], (h, hm, o))) K122_3 rfl ⟨q1, trivial⟩ ?_
      refine zF_blk (m := []) (d := 0) (b := B122_2) (gs := []) (c' := (18, [some (19, 0), some (0, v1), some (0, v2), some (0, v3), some (0, 0), some (0, 0)], [], (h, hm, o))) K122_2 rfl trivial ?_
      exact T122_1 hd h (F122_0 h n) hk0 zFu v1 v2 v3 0 0 _ e
/-- EchoVale$Pieces.canTake(LEchoVale$Valley;II)Z -/
def F122 (v1 : Int) (v2 : Int) (h : zHC) : Option Int := F122_0 h zFu v1 v2 0
set_option maxRecDepth 100000 in
theorem S122 {spec : zRn zH2} {hm : zHM} {o : Int → Int} {d : Nat} (hd : 2 ≤ d) (v1 : Int) (v2 : Int) (h : zHC) (v : Int) (e : F122 v1 v2 h = some v) : zRu2 spec d 122 [(19, 0), (0, v1), (0, v2)] (h, hm, o) (some (0, v)) (h, hm, o) := by
  refine zF_in (D := 1) (mx := 6) (L := [some (19, 0), some (0, v1), some (0, v2), none, none, none]) (by decide +kernel) rfl rfl hd (fun d hd => ?_)
  unfold F122 at e
  refine zF_blk (m := []) (d := 0) (b := B122_0) (gs := []) (c' := (2, [some (19, 0), some (0, v1), some (0, v2), some (0, 0), none, none], [], (h, hm, o))) K122_0 rfl trivial ?_
  exact T122_0 hd h zFu v1 v2 0 _ e
def B121_0 : List zRow := [(0, .iconst 0, 1, (0, 0, 0)), (1, .istore_n 3, 1, (0, 0, 0))]
theorem K121_0 : zRk 121 B121_0 = true := by decide +kernel
def B121_1 : List zRow := [(39, .iconst 1, 1, (0, 0, 0))]
theorem K121_1 : zRk 121 B121_1 = true := by decide +kernel
def B121_2 : List zRow := [(10, .aload_n 1, 1, (0, 0, 0)), (11, .aload_n 0, 1, (0, 0, 0)), (12, .getfield 15, 3, (4, 3, 5242906)), (15, .iload_n 3, 1, (0, 0, 0)), (16, .iaload, 1, (0, 0, 0)), (17, .aload_n 0, 1, (0, 0, 0)), (18, .getfield 18, 3, (4, 4, 5242906)), (21, .iload_n 3, 1, (0, 0, 0)), (22, .iaload, 1, (0, 0, 0)), (23, .iload_n 2, 1, (0, 0, 0)), (24, .isub, 1, (0, 0, 0))]
theorem K121_2 : zRk 121 B121_2 = true := by decide +kernel
def B121_3 : List zRow := [(33, .iinc 3 1, 3, (0, 0, 0)), (36, .goto (-34), 3, (0, 0, 0))]
theorem K121_3 : zRk 121 B121_3 = true := by decide +kernel
def B121_4 : List zRow := [(31, .iconst 0, 1, (0, 0, 0))]
theorem K121_4 : zRk 121 B121_4 = true := by decide +kernel
def B121_5 : List zRow := [(28, .ifCond .ne 5, 3, (0, 0, 0))]
theorem K121_5 : zRk 121 B121_5 = true := by decide +kernel
def B121_6 : List zRow := [(2, .iload_n 3, 1, (0, 0, 0)), (3, .aload_n 0, 1, (0, 0, 0)), (4, .getfield 42, 3, (4, 2, 0)), (7, .if_icmp .ge 32, 3, (0, 0, 0))]
theorem K121_6 : zRk 121 B121_6 = true := by decide +kernel
def F121_0 (h : zHC) : Nat → Int → Int → Option Int
  | 0, _, _ => none
  | n + 1, v2, v3 => if (h 258 0 0) ≤ v3 then some 1 else zG (0 ≤ v3 ∧ v3 < 6) (zG (0 ≤ v3 ∧ v3 < 6) ((F122 (h 259 0 v3) (wsub (h 260 0 v3) v2) h).bind fun r1 => if ¬ r1 = 0 then (F121_0 h n) v2 (wadd v3 1) else some 0))
set_option maxRecDepth 100000 in
theorem T121_0 {spec : zRn zH2} {hm : zHM} {o : Int → Int} {d : Nat} (hd : 2 ≤ d) (h : zHC) : ∀ (n : Nat) (v2 : Int) (v3 : Int) (v : Int), F121_0 h n v2 v3 = some v → zFin 0 (fun _ => 0) (zRu2 spec d) 121 (some (0, v)) (h, hm, o) (2, [some (14, 0), some (19, 0), some (0, v2), some (0, v3)], [], (h, hm, o)) := by
  intro n
  induction n with
  | zero => intro v2 v3 v e; unfold F121_0 at e; cases e
  | succ n hk0 =>
    intro v2 v3 v e
    unfold F121_0 at e
    rcases zI_s e with ⟨q1, e⟩ | ⟨q1, e⟩
    · refine zF_blk (m := []) (d := 1) (b := B121_6) (gs := [(h 258 0 0) ≤ v3]) (c' := (39, [some (14, 0), some (19, 0), some (0, v2), some (0, v3)], [], (h, hm, o))) K121_6 rfl ⟨q1, trivial⟩ ?_
      refine zF_blk (m := []) (d := 0) (b := B121_1) (gs := []) (c' := (40, [some (14, 0), some (19, 0), some (0, v2), some (0, v3)], [(0, 1)], (h, hm, o))) K121_1 rfl trivial ?_
      obtain rfl := Option.some.inj e
      exact zF_rb (by decide +kernel) (Or.inr rfl)
    · refine zF_blk (m := []) (d := 0) (b := B121_6) (gs := [¬ ((h 258 0 0) ≤ v3)]) (c' := (10, [some (14, 0), some (19, 0), some (0, v2), some (0, v3)], [], (h, hm, o))) K121_6 rfl ⟨q1, trivial⟩ ?_
      obtain ⟨q2, e⟩ := zG_s e
      obtain ⟨q2, e⟩ := zG_s e
      obtain ⟨r1, q3, e⟩ := zB_s e
      refine zF_blk (m := []) (d := 0) (b := B121_2) (gs := [0 ≤ v3 ∧ v3 < 6, 0 ≤ v3 ∧ v3 < 6]) (c' := (25, [some (14, 0), some (19, 0), some (0, v2), some (0, v3)], [(0, (wsub (h 260 0 v3) v2)), (0, (h 259 0 v3)), (19, 0)], (h, hm, o))) K121_2 rfl ⟨q2, q2, trivial⟩ ?_
      refine zF_call (k := 122) (cl := 4) (n := 3) (i := .invokestatic 63) (args := [(19, 0), (0, (h 259 0 v3)), (0, (wsub (h 260 0 v3) v2))]) (rest := []) (g1 := (h, hm, o)) (r1 := some (0, r1)) (by decide +kernel) rfl rfl rfl (st' := [(0, r1)]) rfl (S122 (Nat.le_trans (by decide) hd) (h 259 0 v3) (wsub (h 260 0 v3) v2) h _ q3) ?_
      rcases zI_s e with ⟨q4, e⟩ | ⟨q4, e⟩
      · refine zF_blk (m := []) (d := 1) (b := B121_5) (gs := [¬ r1 = 0]) (c' := (33, [some (14, 0), some (19, 0), some (0, v2), some (0, v3)], [], (h, hm, o))) K121_5 rfl ⟨q4, trivial⟩ ?_
        refine zF_blk (m := []) (d := 0) (b := B121_3) (gs := []) (c' := (2, [some (14, 0), some (19, 0), some (0, v2), some (0, (wadd v3 1))], [], (h, hm, o))) K121_3 rfl trivial ?_
        exact hk0 v2 (wadd v3 1) _ e
      · refine zF_blk (m := []) (d := 0) (b := B121_5) (gs := [¬ (¬ r1 = 0)]) (c' := (31, [some (14, 0), some (19, 0), some (0, v2), some (0, v3)], [], (h, hm, o))) K121_5 rfl ⟨q4, trivial⟩ ?_
        refine zF_blk (m := []) (d := 0) (b := B121_4) (gs := []) (c' := (32, [some (14, 0), some (19, 0), some (0, v2), some (0, v3)], [(0, 0)], (h, hm, o))) K121_4 rfl trivial ?_
        obtain rfl := Option.some.inj e
        exact zF_rb (by decide +kernel) (Or.inl rfl)
/-- EchoVale$Pieces.canBegin(LEchoVale$Valley;I)Z -/
def F121 (v2 : Int) (h : zHC) : Option Int := F121_0 h zFu v2 0
set_option maxRecDepth 100000 in
theorem S121 {spec : zRn zH2} {hm : zHM} {o : Int → Int} {d : Nat} (hd : 3 ≤ d) (v2 : Int) (h : zHC) (v : Int) (e : F121 v2 h = some v) : zRu2 spec d 121 [(14, 0), (19, 0), (0, v2)] (h, hm, o) (some (0, v)) (h, hm, o) := by
  refine zF_in (D := 2) (mx := 4) (L := [some (14, 0), some (19, 0), some (0, v2), none]) (by decide +kernel) rfl rfl hd (fun d hd => ?_)
  unfold F121 at e
  refine zF_blk (m := []) (d := 0) (b := B121_0) (gs := []) (c' := (2, [some (14, 0), some (19, 0), some (0, v2), some (0, 0)], [], (h, hm, o))) K121_0 rfl trivial ?_
  exact T121_0 hd h zFu v2 0 _ e
def B125_0 : List zRow := [(15, .iconst 0, 1, (0, 0, 0))]
theorem K125_0 : zRk 125 B125_0 = true := by decide +kernel
def B125_1 : List zRow := [(11, .iconst 1, 1, (0, 0, 0)), (12, .goto 4, 3, (0, 0, 0))]
theorem K125_1 : zRk 125 B125_1 = true := by decide +kernel
def B125_2 : List zRow := [(0, .aload_n 0, 1, (0, 0, 0)), (1, .getfield 27, 3, (1, 8, 5243002)), (4, .iload_n 1, 1, (0, 0, 0)), (5, .iaload, 1, (0, 0, 0)), (6, .ldc 87, 2, (0, 0, 1000000)), (8, .if_icmp .eq 7, 3, (0, 0, 0))]
theorem K125_2 : zRk 125 B125_2 = true := by decide +kernel
/-- EchoVale$Course.isPending(I)Z -/
def F125 (v1 : Int) (h : zHC) : Option Int := zG (0 ≤ v1 ∧ v1 < 30) (if (h 72 1 v1) = 1000000 then some 0 else some 1)
set_option maxRecDepth 100000 in
theorem S125 {spec : zRn zH2} {hm : zHM} {o : Int → Int} {d : Nat} (hd : 1 ≤ d) (v1 : Int) (h : zHC) (v : Int) (e : F125 v1 h = some v) : zRu2 spec d 125 [(11, 1), (0, v1)] (h, hm, o) (some (0, v)) (h, hm, o) := by
  refine zF_in (D := 0) (mx := 2) (L := [some (11, 1), some (0, v1)]) (by decide +kernel) rfl rfl hd (fun d hd => ?_)
  unfold F125 at e
  obtain ⟨q1, e⟩ := zG_s e
  rcases zI_s e with ⟨q2, e⟩ | ⟨q2, e⟩
  · refine zF_blk (m := []) (d := 1) (b := B125_2) (gs := [0 ≤ v1 ∧ v1 < 30, (h 72 1 v1) = 1000000]) (c' := (15, [some (11, 1), some (0, v1)], [], (h, hm, o))) K125_2 rfl ⟨q1, q2, trivial⟩ ?_
    refine zF_blk (m := []) (d := 0) (b := B125_0) (gs := []) (c' := (16, [some (11, 1), some (0, v1)], [(0, 0)], (h, hm, o))) K125_0 rfl trivial ?_
    obtain rfl := Option.some.inj e
    exact zF_rb (by decide +kernel) (Or.inl rfl)
  · refine zF_blk (m := []) (d := 0) (b := B125_2) (gs := [0 ≤ v1 ∧ v1 < 30, ¬ ((h 72 1 v1) = 1000000)]) (c' := (11, [some (11, 1), some (0, v1)], [], (h, hm, o))) K125_2 rfl ⟨q1, q2, trivial⟩ ?_
    refine zF_blk (m := []) (d := 0) (b := B125_1) (gs := []) (c' := (16, [some (11, 1), some (0, v1)], [(0, 1)], (h, hm, o))) K125_1 rfl trivial ?_
    obtain rfl := Option.some.inj e
    exact zF_rb (by decide +kernel) (Or.inr rfl)
def B124_0 : List zRow := [(0, .aload_n 0, 1, (0, 0, 0)), (1, .iload_n 2, 1, (0, 0, 0))]
theorem K124_0 : zRk 124 B124_0 = true := by decide +kernel
def B124_1 : List zRow := [(10, .aload_n 0, 1, (0, 0, 0)), (11, .aload_n 0, 1, (0, 0, 0)), (12, .getfield 27, 3, (1, 8, 5243002)), (15, .iload_n 2, 1, (0, 0, 0)), (16, .iaload, 1, (0, 0, 0)), (17, .putfield 30, 3, (1, 0, 0)), (20, .aload_n 0, 1, (0, 0, 0)), (21, .aload_n 1, 1, (0, 0, 0)), (22, .iload_n 2, 1, (0, 0, 0)), (23, .iconst 0, 1, (0, 0, 0))]
theorem K124_1 : zRk 124 B124_1 = true := by decide +kernel
def B124_2 : List zRow := [(27, .iconst 1, 1, (0, 0, 0))]
theorem K124_2 : zRk 124 B124_2 = true := by decide +kernel
def B124_3 : List zRow := [(8, .iconst 0, 1, (0, 0, 0))]
theorem K124_3 : zRk 124 B124_3 = true := by decide +kernel
def B124_4 : List zRow := [(5, .ifCond .ne 5, 3, (0, 0, 0))]
theorem K124_4 : zRk 124 B124_4 = true := by decide +kernel
/-- EchoVale$Course.leap(LEchoVale$Valley;I)Z -/
def F124 (v2 : Int) (h : zHC) : Option (Int × zHC) := (F125 v2 h).bind fun r1 => if ¬ r1 = 0 then zG (0 ≤ v2 ∧ v2 < 30) ((F90b v2 0 (hset h 64 1 0 (h 72 1 v2))).bind fun r2 => some (1, r2)) else some (0, h)
set_option maxRecDepth 100000 in
theorem S124 {spec : zRn zH2} {hm : zHM} {o : Int → Int} {d : Nat} (hd : 5 ≤ d) (v2 : Int) (h : zHC) (v : (Int × zHC)) (e : F124 v2 h = some v) : zRu2 spec d 124 [(11, 1), (19, 0), (0, v2)] (h, hm, o) (some (0, v.1)) (v.2, hm, o) := by
  refine zF_in (D := 4) (mx := 3) (L := [some (11, 1), some (19, 0), some (0, v2)]) (by decide +kernel) rfl rfl hd (fun d hd => ?_)
  unfold F124 at e
  obtain ⟨r1, q1, e⟩ := zB_s e
  refine zF_blk (m := []) (d := 0) (b := B124_0) (gs := []) (c' := (2, [some (11, 1), some (19, 0), some (0, v2)], [(0, v2), (11, 1)], (h, hm, o))) K124_0 rfl trivial ?_
  refine zF_call (k := 125) (cl := 1) (n := 2) (i := .invokevirtual 108) (args := [(11, 1), (0, v2)]) (rest := []) (g1 := (h, hm, o)) (r1 := some (0, r1)) (by decide +kernel) rfl rfl rfl (st' := [(0, r1)]) rfl (S125 (Nat.le_trans (by decide) hd) v2 h _ q1) ?_
  rcases zI_s e with ⟨q2, e⟩ | ⟨q2, e⟩
  · refine zF_blk (m := []) (d := 1) (b := B124_4) (gs := [¬ r1 = 0]) (c' := (10, [some (11, 1), some (19, 0), some (0, v2)], [], (h, hm, o))) K124_4 rfl ⟨q2, trivial⟩ ?_
    obtain ⟨q3, e⟩ := zG_s e
    obtain ⟨r2, q4, e⟩ := zB_s e
    refine zF_blk (m := []) (d := 0) (b := B124_1) (gs := [0 ≤ v2 ∧ v2 < 30]) (c' := (24, [some (11, 1), some (19, 0), some (0, v2)], [(0, 0), (0, v2), (19, 0), (11, 1)], ((hset h 64 1 0 (h 72 1 v2)), hm, o))) K124_1 rfl ⟨q3, trivial⟩ ?_
    refine zF_call (k := 90) (cl := 1) (n := 4) (i := .invokevirtual 104) (args := [(11, 1), (19, 0), (0, v2), (0, 0)]) (rest := []) (g1 := (r2, hm, o)) (r1 := none) (by decide +kernel) rfl rfl rfl (st' := []) rfl (S90b (Nat.le_trans (by decide) hd) v2 0 (hset h 64 1 0 (h 72 1 v2)) _ q4) ?_
    refine zF_blk (m := []) (d := 0) (b := B124_2) (gs := []) (c' := (28, [some (11, 1), some (19, 0), some (0, v2)], [(0, 1)], (r2, hm, o))) K124_2 rfl trivial ?_
    obtain rfl := Option.some.inj e
    exact zF_rb (by decide +kernel) (Or.inr rfl)
  · refine zF_blk (m := []) (d := 0) (b := B124_4) (gs := [¬ (¬ r1 = 0)]) (c' := (8, [some (11, 1), some (19, 0), some (0, v2)], [], (h, hm, o))) K124_4 rfl ⟨q2, trivial⟩ ?_
    refine zF_blk (m := []) (d := 0) (b := B124_3) (gs := []) (c' := (9, [some (11, 1), some (19, 0), some (0, v2)], [(0, 0)], (h, hm, o))) K124_3 rfl trivial ?_
    obtain rfl := Option.some.inj e
    exact zF_rb (by decide +kernel) (Or.inl rfl)
def B126_0 : List zRow := [(0, .iconst 0, 1, (0, 0, 0)), (1, .istore_n 3, 1, (0, 0, 0))]
theorem K126_0 : zRk 126 B126_0 = true := by decide +kernel
def B126_1 : List zRow := [(63, .iconst 0, 1, (0, 0, 0))]
theorem K126_1 : zRk 126 B126_1 = true := by decide +kernel
def B126_2 : List zRow := [(10, .aload_n 1, 1, (0, 0, 0)), (11, .iload_n 3, 1, (0, 0, 0)), (12, .iconst 1, 1, (0, 0, 0))]
theorem K126_2 : zRk 126 B126_2 = true := by decide +kernel
def B126_3 : List zRow := [(25, .aload_n 1, 1, (0, 0, 0)), (26, .iload_n 3, 1, (0, 0, 0)), (27, .iconst 2, 1, (0, 0, 0))]
theorem K126_3 : zRk 126 B126_3 = true := by decide +kernel
def B126_4 : List zRow := [(40, .aload_n 1, 1, (0, 0, 0)), (41, .iload_n 3, 1, (0, 0, 0)), (42, .iconst 3, 1, (0, 0, 0))]
theorem K126_4 : zRk 126 B126_4 = true := by decide +kernel
def B126_5 : List zRow := [(55, .iconst 1, 1, (0, 0, 0))]
theorem K126_5 : zRk 126 B126_5 = true := by decide +kernel
def B126_6 : List zRow := [(46, .aload_n 0, 1, (0, 0, 0)), (47, .getfield 21, 3, (4, 5, 5242906)), (50, .iload_n 2, 1, (0, 0, 0)), (51, .iaload, 1, (0, 0, 0)), (52, .if_icmp .ne 5, 3, (0, 0, 0))]
theorem K126_6 : zRk 126 B126_6 = true := by decide +kernel
def B126_7 : List zRow := [(31, .aload_n 0, 1, (0, 0, 0)), (32, .getfield 18, 3, (4, 4, 5242906)), (35, .iload_n 2, 1, (0, 0, 0)), (36, .iaload, 1, (0, 0, 0)), (37, .if_icmp .ne 20, 3, (0, 0, 0))]
theorem K126_7 : zRk 126 B126_7 = true := by decide +kernel
def B126_8 : List zRow := [(16, .aload_n 0, 1, (0, 0, 0)), (17, .getfield 15, 3, (4, 3, 5242906)), (20, .iload_n 2, 1, (0, 0, 0)), (21, .iaload, 1, (0, 0, 0)), (22, .if_icmp .ne 35, 3, (0, 0, 0))]
theorem K126_8 : zRk 126 B126_8 = true := by decide +kernel
def B126_9 : List zRow := [(2, .iload_n 3, 1, (0, 0, 0)), (3, .aload_n 1, 1, (0, 0, 0)), (4, .getfield 81, 3, (1, 2, 0)), (7, .if_icmp .ge 56, 3, (0, 0, 0))]
theorem K126_9 : zRk 126 B126_9 = true := by decide +kernel
def B126_10 : List zRow := [(57, .iinc 3 1, 3, (0, 0, 0)), (60, .goto (-58), 3, (0, 0, 0))]
theorem K126_10 : zRk 126 B126_10 = true := by decide +kernel
def F126_1 (k0 : Int → Int → Option Int) (h : zHC) (v2 : Int) (v3 : Int) : Option Int := k0 v2 (wadd v3 1)
set_option maxRecDepth 100000 in
theorem T126_1 {spec : zRn zH2} {hm : zHM} {o : Int → Int} {d : Nat} (hd : 1 ≤ d) (h : zHC) (k0 : Int → Int → Option Int) (hk0 : ∀ (v2 : Int) (v3 : Int) (v : Int), k0 v2 v3 = some v → zFin 0 (fun _ => 0) (zRu2 spec d) 126 (some (0, v)) (h, hm, o) (2, [some (14, 0), some (11, 1), some (0, v2), some (0, v3)], [], (h, hm, o))) (v2 : Int) (v3 : Int) (v : Int) (e : F126_1 k0 h v2 v3 = some v) : zFin 0 (fun _ => 0) (zRu2 spec d) 126 (some (0, v)) (h, hm, o) (57, [some (14, 0), some (11, 1), some (0, v2), some (0, v3)], [], (h, hm, o)) := by
  unfold F126_1 at e
  refine zF_blk (m := []) (d := 0) (b := B126_10) (gs := []) (c' := (2, [some (14, 0), some (11, 1), some (0, v2), some (0, (wadd v3 1))], [], (h, hm, o))) K126_10 rfl trivial ?_
  exact hk0 v2 (wadd v3 1) _ e
def F126_0 (h : zHC) : Nat → Int → Int → Option Int
  | 0, _, _ => none
  | n + 1, v2, v3 => if (h 66 1 0) ≤ v3 then some 0 else (F67b v3 1 h).bind fun r1 => zG (0 ≤ v2 ∧ v2 < 6) (if ¬ r1 = (h 259 0 v2) then F126_1 (F126_0 h n) h v2 v3 else (F67b v3 2 h).bind fun r2 => zG (0 ≤ v2 ∧ v2 < 6) (if ¬ r2 = (h 260 0 v2) then F126_1 (F126_0 h n) h v2 v3 else (F67b v3 3 h).bind fun r3 => zG (0 ≤ v2 ∧ v2 < 6) (if ¬ r3 = (h 261 0 v2) then F126_1 (F126_0 h n) h v2 v3 else some 1)))
set_option maxRecDepth 100000 in
theorem T126_0 {spec : zRn zH2} {hm : zHM} {o : Int → Int} {d : Nat} (hd : 1 ≤ d) (h : zHC) : ∀ (n : Nat) (v2 : Int) (v3 : Int) (v : Int), F126_0 h n v2 v3 = some v → zFin 0 (fun _ => 0) (zRu2 spec d) 126 (some (0, v)) (h, hm, o) (2, [some (14, 0), some (11, 1), some (0, v2), some (0, v3)], [], (h, hm, o)) := by
  intro n
  induction n with
  | zero => intro v2 v3 v e; unfold F126_0 at e; cases e
  | succ n hk0 =>
    intro v2 v3 v e
    unfold F126_0 at e
    rcases zI_s e with ⟨q1, e⟩ | ⟨q1, e⟩
    · refine zF_blk (m := []) (d := 1) (b := B126_9) (gs := [(h 66 1 0) ≤ v3]) (c' := (63, [some (14, 0), some (11, 1), some (0, v2), some (0, v3)], [], (h, hm, o))) K126_9 rfl ⟨q1, trivial⟩ ?_
      refine zF_blk (m := []) (d := 0) (b := B126_1) (gs := []) (c' := (64, [some (14, 0), some (11, 1), some (0, v2), some (0, v3)], [(0, 0)], (h, hm, o))) K126_1 rfl trivial ?_
      obtain rfl := Option.some.inj e
      exact zF_rb (by decide +kernel) (Or.inl rfl)
    · refine zF_blk (m := []) (d := 0) (b := B126_9) (gs := [¬ ((h 66 1 0) ≤ v3)]) (c' := (10, [some (14, 0), some (11, 1), some (0, v2), some (0, v3)], [], (h, hm, o))) K126_9 rfl ⟨q1, trivial⟩ ?_
      obtain ⟨r1, q2, e⟩ := zB_s e
      refine zF_blk (m := []) (d := 0) (b := B126_2) (gs := []) (c' := (13, [some (14, 0), some (11, 1), some (0, v2), some (0, v3)], [(0, 1), (0, v3), (11, 1)], (h, hm, o))) K126_2 rfl trivial ?_
      refine zF_call (k := 67) (cl := 1) (n := 3) (i := .invokevirtual 95) (args := [(11, 1), (0, v3), (0, 1)]) (rest := []) (g1 := (h, hm, o)) (r1 := some (0, r1)) (by decide +kernel) rfl rfl rfl (st' := [(0, r1)]) rfl (S67b (Nat.le_trans (by decide) hd) v3 1 h _ q2) ?_
      obtain ⟨q3, e⟩ := zG_s e
      rcases zI_s e with ⟨q4, e⟩ | ⟨q4, e⟩
      · refine zF_blk (m := []) (d := 1) (b := B126_8) (gs := [0 ≤ v2 ∧ v2 < 6, ¬ r1 = (h 259 0 v2)]) (c' := (57, [some (14, 0), some (11, 1), some (0, v2), some (0, v3)], [], (h, hm, o))) K126_8 rfl ⟨q3, q4, trivial⟩ ?_
        exact T126_1 hd h (F126_0 h n) hk0 v2 v3 _ e
      · refine zF_blk (m := []) (d := 0) (b := B126_8) (gs := [0 ≤ v2 ∧ v2 < 6, ¬ (¬ r1 = (h 259 0 v2))]) (c' := (25, [some (14, 0), some (11, 1), some (0, v2), some (0, v3)], [], (h, hm, o))) K126_8 rfl ⟨q3, q4, trivial⟩ ?_
        obtain ⟨r2, q5, e⟩ := zB_s e
        refine zF_blk (m := []) (d := 0) (b := B126_3) (gs := []) (c' := (28, [some (14, 0), some (11, 1), some (0, v2), some (0, v3)], [(0, 2), (0, v3), (11, 1)], (h, hm, o))) K126_3 rfl trivial ?_
        refine zF_call (k := 67) (cl := 1) (n := 3) (i := .invokevirtual 95) (args := [(11, 1), (0, v3), (0, 2)]) (rest := []) (g1 := (h, hm, o)) (r1 := some (0, r2)) (by decide +kernel) rfl rfl rfl (st' := [(0, r2)]) rfl (S67b (Nat.le_trans (by decide) hd) v3 2 h _ q5) ?_
        obtain ⟨q6, e⟩ := zG_s e
        rcases zI_s e with ⟨q7, e⟩ | ⟨q7, e⟩
        · refine zF_blk (m := []) (d := 1) (b := B126_7) (gs := [0 ≤ v2 ∧ v2 < 6, ¬ r2 = (h 260 0 v2)]) (c' := (57, [some (14, 0), some (11, 1), some (0, v2), some (0, v3)], [], (h, hm, o))) K126_7 rfl ⟨q6, q7, trivial⟩ ?_
          exact T126_1 hd h (F126_0 h n) hk0 v2 v3 _ e
        · refine zF_blk (m := []) (d := 0) (b := B126_7) (gs := [0 ≤ v2 ∧ v2 < 6, ¬ (¬ r2 = (h 260 0 v2))]) (c' := (40, [some (14, 0), some (11, 1), some (0, v2), some (0, v3)], [], (h, hm, o))) K126_7 rfl ⟨q6, q7, trivial⟩ ?_
          obtain ⟨r3, q8, e⟩ := zB_s e
          refine zF_blk (m := []) (d := 0) (b := B126_4) (gs := []) (c' := (43, [some (14, 0), some (11, 1), some (0, v2), some (0, v3)], [(0, 3), (0, v3), (11, 1)], (h, hm, o))) K126_4 rfl trivial ?_
          refine zF_call (k := 67) (cl := 1) (n := 3) (i := .invokevirtual 95) (args := [(11, 1), (0, v3), (0, 3)]) (rest := []) (g1 := (h, hm, o)) (r1 := some (0, r3)) (by decide +kernel) rfl rfl rfl (st' := [(0, r3)]) rfl (S67b (Nat.le_trans (by decide) hd) v3 3 h _ q8) ?_
          obtain ⟨q9, e⟩ := zG_s e
          rcases zI_s e with ⟨q10, e⟩ | ⟨q10, e⟩
          · refine zF_blk (m := []) (d := 1) (b := B126_6) (gs := [0 ≤ v2 ∧ v2 < 6, ¬ r3 = (h 261 0 v2)]) (c' := (57, [some (14, 0), some (11, 1), some (0, v2), some (0, v3)], [], (h, hm, o))) K126_6 rfl ⟨q9, q10, trivial⟩ ?_
            exact T126_1 hd h (F126_0 h n) hk0 v2 v3 _ e
          · refine zF_blk (m := []) (d := 0) (b := B126_6) (gs := [0 ≤ v2 ∧ v2 < 6, ¬ (¬ r3 = (h 261 0 v2))]) (c' := (55, [some (14, 0), some (11, 1), some (0, v2), some (0, v3)], [], (h, hm, o))) K126_6 rfl ⟨q9, q10, trivial⟩ ?_
            refine zF_blk (m := []) (d := 0) (b := B126_5) (gs := []) (c' := (56, [some (14, 0), some (11, 1), some (0, v2), some (0, v3)], [(0, 1)], (h, hm, o))) K126_5 rfl trivial ?_
            obtain rfl := Option.some.inj e
            exact zF_rb (by decide +kernel) (Or.inr rfl)
/-- EchoVale$Pieces.isLogged(LEchoVale$Course;I)Z -/
def F126 (v2 : Int) (h : zHC) : Option Int := F126_0 h zFu v2 0
set_option maxRecDepth 100000 in
theorem S126 {spec : zRn zH2} {hm : zHM} {o : Int → Int} {d : Nat} (hd : 2 ≤ d) (v2 : Int) (h : zHC) (v : Int) (e : F126 v2 h = some v) : zRu2 spec d 126 [(14, 0), (11, 1), (0, v2)] (h, hm, o) (some (0, v)) (h, hm, o) := by
  refine zF_in (D := 1) (mx := 4) (L := [some (14, 0), some (11, 1), some (0, v2), none]) (by decide +kernel) rfl rfl hd (fun d hd => ?_)
  unfold F126 at e
  refine zF_blk (m := []) (d := 0) (b := B126_0) (gs := []) (c' := (2, [some (14, 0), some (11, 1), some (0, v2), some (0, 0)], [], (h, hm, o))) K126_0 rfl trivial ?_
  exact T126_0 hd h zFu v2 0 _ e
def B123_0 : List zRow := [(0, .aload_n 2, 1, (0, 0, 0)), (1, .iload_n 3, 1, (0, 0, 0)), (2, .putfield 74, 3, (1, 0, 0)), (5, .aload_n 2, 1, (0, 0, 0)), (6, .iconst 0, 1, (0, 0, 0)), (7, .putfield 78, 3, (1, 1, 0)), (10, .aload_n 2, 1, (0, 0, 0)), (11, .iconst 0, 1, (0, 0, 0)), (12, .putfield 81, 3, (1, 2, 0)), (15, .aload_n 2, 1, (0, 0, 0)), (16, .aload_n 1, 1, (0, 0, 0)), (17, .iconst 0, 1, (0, 0, 0)), (18, .iload 4, 2, (0, 0, 0)), (20, .iconst 1, 1, (0, 0, 0)), (21, .iload 5, 2, (0, 0, 0))]
theorem K123_0 : zRk 123 B123_0 = true := by decide +kernel
def B123_1 : List zRow := [(38, .iconst 0, 1, (0, 0, 0))]
theorem K123_1 : zRk 123 B123_1 = true := by decide +kernel
def B123_2 : List zRow := [(34, .iconst 1, 1, (0, 0, 0)), (35, .goto 4, 3, (0, 0, 0))]
theorem K123_2 : zRk 123 B123_2 = true := by decide +kernel
def B123_3 : List zRow := [(26, .istore 6, 2, (0, 0, 0)), (28, .iload 6, 2, (0, 0, 0)), (30, .iconst (-1), 1, (0, 0, 0)), (31, .if_icmp .eq 7, 3, (0, 0, 0))]
theorem K123_3 : zRk 123 B123_3 = true := by decide +kernel
def B123_4 : List zRow := [(39, .istore 7, 2, (0, 0, 0)), (41, .iconst 0, 1, (0, 0, 0)), (42, .istore 8, 2, (0, 0, 0))]
theorem K123_4 : zRk 123 B123_4 = true := by decide +kernel
def B123_5 : List zRow := [(56, .aload_n 2, 1, (0, 0, 0)), (57, .aload_n 1, 1, (0, 0, 0)), (58, .iload 6, 2, (0, 0, 0))]
theorem K123_5 : zRk 123 B123_5 = true := by decide +kernel
def B123_6 : List zRow := [(63, .istore 7, 2, (0, 0, 0)), (65, .iinc 8 1, 3, (0, 0, 0)), (68, .goto (-24), 3, (0, 0, 0))]
theorem K123_6 : zRk 123 B123_6 = true := by decide +kernel
def B123_7 : List zRow := [(51, .iload 7, 2, (0, 0, 0)), (53, .ifCond .eq 18, 3, (0, 0, 0))]
theorem K123_7 : zRk 123 B123_7 = true := by decide +kernel
def B123_8 : List zRow := [(44, .iload 8, 2, (0, 0, 0)), (46, .bipush 6, 2, (0, 0, 0)), (48, .if_icmp .ge 23, 3, (0, 0, 0))]
theorem K123_8 : zRk 123 B123_8 = true := by decide +kernel
def B123_9 : List zRow := [(71, .iconst 0, 1, (0, 0, 0)), (72, .istore 8, 2, (0, 0, 0))]
theorem K123_9 : zRk 123 B123_9 = true := by decide +kernel
def B123_10 : List zRow := [(101, .iconst 1, 1, (0, 0, 0))]
theorem K123_10 : zRk 123 B123_10 = true := by decide +kernel
def B123_11 : List zRow := [(83, .aload_n 0, 1, (0, 0, 0)), (84, .aload_n 2, 1, (0, 0, 0)), (85, .iload 8, 2, (0, 0, 0))]
theorem K123_11 : zRk 123 B123_11 = true := by decide +kernel
def B123_12 : List zRow := [(95, .iinc 8 1, 3, (0, 0, 0)), (98, .goto (-24), 3, (0, 0, 0))]
theorem K123_12 : zRk 123 B123_12 = true := by decide +kernel
def B123_13 : List zRow := [(93, .iconst 0, 1, (0, 0, 0))]
theorem K123_13 : zRk 123 B123_13 = true := by decide +kernel
def B123_14 : List zRow := [(90, .ifCond .ne 5, 3, (0, 0, 0))]
theorem K123_14 : zRk 123 B123_14 = true := by decide +kernel
def B123_15 : List zRow := [(74, .iload 8, 2, (0, 0, 0)), (76, .aload_n 0, 1, (0, 0, 0)), (77, .getfield 42, 3, (4, 2, 0)), (80, .if_icmp .ge 21, 3, (0, 0, 0))]
theorem K123_15 : zRk 123 B123_15 = true := by decide +kernel
def F123_3 : Nat → Int → zHC → Option (Int × zHC)
  | 0, _, _ => none
  | n + 1, v8, h => if (h 258 0 0) ≤ v8 then some (1, h) else (F126 v8 h).bind fun r1 => if ¬ r1 = 0 then (F123_3 n) (wadd v8 1) h else some (0, h)
set_option maxRecDepth 100000 in
theorem T123_3 {spec : zRn zH2} {hm : zHM} {o : Int → Int} {d : Nat} (hd : 5 ≤ d) : ∀ (n : Nat) (v8 : Int) (h : zHC) (v : (Int × zHC)), F123_3 n v8 h = some v → zFin 0 (fun _ => 0) (zRu2 spec d) 123 (some (0, v.1)) (v.2, hm, o) (74, [some (14, 0), none, some (11, 1), none, none, none, none, none, some (0, v8)], [], (h, hm, o)) := by
  intro n
  induction n with
  | zero => intro v8 h v e; unfold F123_3 at e; cases e
  | succ n hk0 =>
    intro v8 h v e
    unfold F123_3 at e
    rcases zI_s e with ⟨q1, e⟩ | ⟨q1, e⟩
    · refine zF_blk (m := []) (d := 1) (b := B123_15) (gs := [(h 258 0 0) ≤ v8]) (c' := (101, [some (14, 0), none, some (11, 1), none, none, none, none, none, some (0, v8)], [], (h, hm, o))) K123_15 rfl ⟨q1, trivial⟩ ?_
      refine zF_blk (m := []) (d := 0) (b := B123_10) (gs := []) (c' := (102, [some (14, 0), none, some (11, 1), none, none, none, none, none, some (0, v8)], [(0, 1)], (h, hm, o))) K123_10 rfl trivial ?_
      obtain rfl := Option.some.inj e
      exact zF_rb (by decide +kernel) (Or.inr rfl)
    · refine zF_blk (m := []) (d := 0) (b := B123_15) (gs := [¬ ((h 258 0 0) ≤ v8)]) (c' := (83, [some (14, 0), none, some (11, 1), none, none, none, none, none, some (0, v8)], [], (h, hm, o))) K123_15 rfl ⟨q1, trivial⟩ ?_
      obtain ⟨r1, q2, e⟩ := zB_s e
      refine zF_blk (m := []) (d := 0) (b := B123_11) (gs := []) (c' := (87, [some (14, 0), none, some (11, 1), none, none, none, none, none, some (0, v8)], [(0, v8), (11, 1), (14, 0)], (h, hm, o))) K123_11 rfl trivial ?_
      refine zF_call (k := 126) (cl := 4) (n := 3) (i := .invokevirtual 91) (args := [(14, 0), (11, 1), (0, v8)]) (rest := []) (g1 := (h, hm, o)) (r1 := some (0, r1)) (by decide +kernel) rfl rfl rfl (st' := [(0, r1)]) rfl (S126 (Nat.le_trans (by decide) hd) v8 h _ q2) ?_
      rcases zI_s e with ⟨q3, e⟩ | ⟨q3, e⟩
      · refine zF_blk (m := []) (d := 1) (b := B123_14) (gs := [¬ r1 = 0]) (c' := (95, [some (14, 0), none, some (11, 1), none, none, none, none, none, some (0, v8)], [], (h, hm, o))) K123_14 rfl ⟨q3, trivial⟩ ?_
        refine zF_blk (m := []) (d := 0) (b := B123_12) (gs := []) (c' := (74, [some (14, 0), none, some (11, 1), none, none, none, none, none, some (0, (wadd v8 1))], [], (h, hm, o))) K123_12 rfl trivial ?_
        exact hk0 (wadd v8 1) h _ e
      · refine zF_blk (m := []) (d := 0) (b := B123_14) (gs := [¬ (¬ r1 = 0)]) (c' := (93, [some (14, 0), none, some (11, 1), none, none, none, none, none, some (0, v8)], [], (h, hm, o))) K123_14 rfl ⟨q3, trivial⟩ ?_
        refine zF_blk (m := []) (d := 0) (b := B123_13) (gs := []) (c' := (94, [some (14, 0), none, some (11, 1), none, none, none, none, none, some (0, v8)], [(0, 0)], (h, hm, o))) K123_13 rfl trivial ?_
        obtain rfl := Option.some.inj e
        exact zF_rb (by decide +kernel) (Or.inl rfl)
def F123_2 (h : zHC) : Option (Int × zHC) := F123_3 zFu 0 h
set_option maxRecDepth 100000 in
theorem T123_2 {spec : zRn zH2} {hm : zHM} {o : Int → Int} {d : Nat} (hd : 5 ≤ d) (h : zHC) (v : (Int × zHC)) (e : F123_2 h = some v) : zFin 0 (fun _ => 0) (zRu2 spec d) 123 (some (0, v.1)) (v.2, hm, o) (71, [some (14, 0), none, some (11, 1), none, none, none, none, none, none], [], (h, hm, o)) := by
  unfold F123_2 at e
  refine zF_blk (m := []) (d := 0) (b := B123_9) (gs := []) (c' := (74, [some (14, 0), none, some (11, 1), none, none, none, none, none, some (0, 0)], [], (h, hm, o))) K123_9 rfl trivial ?_
  exact T123_3 hd zFu 0 h _ e
def F123_1 : Nat → Int → Int → Int → zHC → Option (Int × zHC)
  | 0, _, _, _, _ => none
  | n + 1, v6, v7, v8, h => if 6 ≤ v8 then F123_2 h else if v7 = 0 then F123_2 h else (F124 v6 h).bind fun r1 => (F123_1 n) v6 r1.1 (wadd v8 1) r1.2
set_option maxRecDepth 100000 in
theorem T123_1 {spec : zRn zH2} {hm : zHM} {o : Int → Int} {d : Nat} (hd : 5 ≤ d) : ∀ (n : Nat) (v6 : Int) (v7 : Int) (v8 : Int) (h : zHC) (v : (Int × zHC)), F123_1 n v6 v7 v8 h = some v → zFin 0 (fun _ => 0) (zRu2 spec d) 123 (some (0, v.1)) (v.2, hm, o) (44, [some (14, 0), some (19, 0), some (11, 1), none, none, none, some (0, v6), some (0, v7), some (0, v8)], [], (h, hm, o)) := by
  intro n
  induction n with
  | zero => intro v6 v7 v8 h v e; unfold F123_1 at e; cases e
  | succ n hk0 =>
    intro v6 v7 v8 h v e
    unfold F123_1 at e
    rcases zI_s e with ⟨q1, e⟩ | ⟨q1, e⟩
    · refine zF_blk (m := []) (d := 1) (b := B123_8) (gs := [6 ≤ v8]) (c' := (71, [some (14, 0), some (19, 0), some (11, 1), none, none, none, some (0, v6), some (0, v7), some (0, v8)], [], (h, hm, o))) K123_8 rfl ⟨q1, trivial⟩ ?_
      refine zF_blk (m := [true, false, true, false, false, false, false, false, false]) (d := 0) (b := []) (gs := []) (c' := (71, [some (14, 0), none, some (11, 1), none, none, none, none, none, none], [], (h, hm, o))) rfl rfl trivial ?_
      exact T123_2 hd h _ e
    · refine zF_blk (m := []) (d := 0) (b := B123_8) (gs := [¬ (6 ≤ v8)]) (c' := (51, [some (14, 0), some (19, 0), some (11, 1), none, none, none, some (0, v6), some (0, v7), some (0, v8)], [], (h, hm, o))) K123_8 rfl ⟨q1, trivial⟩ ?_
      rcases zI_s e with ⟨q2, e⟩ | ⟨q2, e⟩
      · refine zF_blk (m := []) (d := 1) (b := B123_7) (gs := [v7 = 0]) (c' := (71, [some (14, 0), some (19, 0), some (11, 1), none, none, none, some (0, v6), some (0, v7), some (0, v8)], [], (h, hm, o))) K123_7 rfl ⟨q2, trivial⟩ ?_
        refine zF_blk (m := [true, false, true, false, false, false, false, false, false]) (d := 0) (b := []) (gs := []) (c' := (71, [some (14, 0), none, some (11, 1), none, none, none, none, none, none], [], (h, hm, o))) rfl rfl trivial ?_
        exact T123_2 hd h _ e
      · refine zF_blk (m := []) (d := 0) (b := B123_7) (gs := [¬ (v7 = 0)]) (c' := (56, [some (14, 0), some (19, 0), some (11, 1), none, none, none, some (0, v6), some (0, v7), some (0, v8)], [], (h, hm, o))) K123_7 rfl ⟨q2, trivial⟩ ?_
        obtain ⟨r1, q3, e⟩ := zB_s e
        refine zF_blk (m := []) (d := 0) (b := B123_5) (gs := []) (c' := (60, [some (14, 0), some (19, 0), some (11, 1), none, none, none, some (0, v6), some (0, v7), some (0, v8)], [(0, v6), (19, 0), (11, 1)], (h, hm, o))) K123_5 rfl trivial ?_
        refine zF_call (k := 124) (cl := 1) (n := 3) (i := .invokevirtual 88) (args := [(11, 1), (19, 0), (0, v6)]) (rest := []) (g1 := (r1.2, hm, o)) (r1 := some (0, r1.1)) (by decide +kernel) rfl rfl rfl (st' := [(0, r1.1)]) rfl (S124 (Nat.le_trans (by decide) hd) v6 h _ q3) ?_
        refine zF_blk (m := []) (d := 0) (b := B123_6) (gs := []) (c' := (44, [some (14, 0), some (19, 0), some (11, 1), none, none, none, some (0, v6), some (0, r1.1), some (0, (wadd v8 1))], [], (r1.2, hm, o))) K123_6 rfl trivial ?_
        exact hk0 v6 r1.1 (wadd v8 1) r1.2 _ e
def F123_0 (v6 : Int) (s0 : Int) (h : zHC) : Option (Int × zHC) := F123_1 zFu v6 s0 0 h
set_option maxRecDepth 100000 in
theorem T123_0 {spec : zRn zH2} {hm : zHM} {o : Int → Int} {d : Nat} (hd : 5 ≤ d) (v6 : Int) (s0 : Int) (h : zHC) (v : (Int × zHC)) (e : F123_0 v6 s0 h = some v) : zFin 0 (fun _ => 0) (zRu2 spec d) 123 (some (0, v.1)) (v.2, hm, o) (39, [some (14, 0), some (19, 0), some (11, 1), none, none, none, some (0, v6), none, none], [(0, s0)], (h, hm, o)) := by
  unfold F123_0 at e
  refine zF_blk (m := []) (d := 0) (b := B123_4) (gs := []) (c' := (44, [some (14, 0), some (19, 0), some (11, 1), none, none, none, some (0, v6), some (0, s0), some (0, 0)], [], (h, hm, o))) K123_4 rfl trivial ?_
  exact T123_1 hd zFu v6 s0 0 h _ e
/-- EchoVale$Pieces.isWay(LEchoVale$Valley;LEchoVale$Course;III)Z -/
def F123 (v3 : Int) (v4 : Int) (v5 : Int) (h : zHC) : Option (Int × zHC) := (F79b 0 v4 1 v5 (hset (hset (hset h 64 1 0 v3) 65 1 0 0) 66 1 0 0)).bind fun r1 => if r1.1 = (-1) then F123_0 r1.1 0 r1.2 else F123_0 r1.1 1 r1.2
set_option maxRecDepth 100000 in
theorem S123 {spec : zRn zH2} {hm : zHM} {o : Int → Int} {d : Nat} (hd : 6 ≤ d) (v3 : Int) (v4 : Int) (v5 : Int) (h : zHC) (v : (Int × zHC)) (e : F123 v3 v4 v5 h = some v) : zRu2 spec d 123 [(14, 0), (19, 0), (11, 1), (0, v3), (0, v4), (0, v5)] (h, hm, o) (some (0, v.1)) (v.2, hm, o) := by
  refine zF_in (D := 5) (mx := 9) (L := [some (14, 0), some (19, 0), some (11, 1), some (0, v3), some (0, v4), some (0, v5), none, none, none]) (by decide +kernel) rfl rfl hd (fun d hd => ?_)
  unfold F123 at e
  obtain ⟨r1, q1, e⟩ := zB_s e
  refine zF_blk (m := []) (d := 0) (b := B123_0) (gs := []) (c' := (23, [some (14, 0), some (19, 0), some (11, 1), some (0, v3), some (0, v4), some (0, v5), none, none, none], [(0, v5), (0, 1), (0, v4), (0, 0), (19, 0), (11, 1)], ((hset (hset (hset h 64 1 0 v3) 65 1 0 0) 66 1 0 0), hm, o))) K123_0 rfl trivial ?_
  refine zF_call (k := 79) (cl := 1) (n := 6) (i := .invokevirtual 84) (args := [(11, 1), (19, 0), (0, 0), (0, v4), (0, 1), (0, v5)]) (rest := []) (g1 := (r1.2, hm, o)) (r1 := some (0, r1.1)) (by decide +kernel) rfl rfl rfl (st' := [(0, r1.1)]) rfl (S79b (Nat.le_trans (by decide) hd) 0 v4 1 v5 (hset (hset (hset h 64 1 0 v3) 65 1 0 0) 66 1 0 0) _ q1) ?_
  rcases zI_s e with ⟨q2, e⟩ | ⟨q2, e⟩
  · refine zF_blk (m := []) (d := 1) (b := B123_3) (gs := [r1.1 = (-1)]) (c' := (38, [some (14, 0), some (19, 0), some (11, 1), some (0, v3), some (0, v4), some (0, v5), some (0, r1.1), none, none], [], (r1.2, hm, o))) K123_3 rfl ⟨q2, trivial⟩ ?_
    refine zF_blk (m := []) (d := 0) (b := B123_1) (gs := []) (c' := (39, [some (14, 0), some (19, 0), some (11, 1), some (0, v3), some (0, v4), some (0, v5), some (0, r1.1), none, none], [(0, 0)], (r1.2, hm, o))) K123_1 rfl trivial ?_
    refine zF_blk (m := [true, true, true, false, false, false, true, false, false]) (d := 0) (b := []) (gs := []) (c' := (39, [some (14, 0), some (19, 0), some (11, 1), none, none, none, some (0, r1.1), none, none], [(0, 0)], (r1.2, hm, o))) rfl rfl trivial ?_
    exact T123_0 hd r1.1 0 r1.2 _ e
  · refine zF_blk (m := []) (d := 0) (b := B123_3) (gs := [¬ (r1.1 = (-1))]) (c' := (34, [some (14, 0), some (19, 0), some (11, 1), some (0, v3), some (0, v4), some (0, v5), some (0, r1.1), none, none], [], (r1.2, hm, o))) K123_3 rfl ⟨q2, trivial⟩ ?_
    refine zF_blk (m := []) (d := 0) (b := B123_2) (gs := []) (c' := (39, [some (14, 0), some (19, 0), some (11, 1), some (0, v3), some (0, v4), some (0, v5), some (0, r1.1), none, none], [(0, 1)], (r1.2, hm, o))) K123_2 rfl trivial ?_
    refine zF_blk (m := [true, true, true, false, false, false, true, false, false]) (d := 0) (b := []) (gs := []) (c' := (39, [some (14, 0), some (19, 0), some (11, 1), none, none, none, some (0, r1.1), none, none], [(0, 1)], (r1.2, hm, o))) rfl rfl trivial ?_
    exact T123_0 hd r1.1 1 r1.2 _ e
def B127_0 : List zRow := [(9, .aload_n 0, 1, (0, 0, 0)), (10, .getfield 9, 3, (4, 1, 5243082)), (13, .aload_n 0, 1, (0, 0, 0)), (14, .getfield 45, 3, (4, 0, 0)), (17, .iload_n 1, 1, (0, 0, 0)), (18, .iastore, 1, (0, 0, 0))]
theorem K127_0 : zRk 127 B127_0 = true := by decide +kernel
def B127_1 : List zRow := [(0, .aload_n 0, 1, (0, 0, 0)), (1, .getfield 45, 3, (4, 0, 0)), (4, .bipush 50, 2, (0, 0, 0)), (6, .if_icmp .ge 13, 3, (0, 0, 0))]
theorem K127_1 : zRk 127 B127_1 = true := by decide +kernel
def B127_2 : List zRow := [(19, .aload_n 0, 1, (0, 0, 0)), (20, .dup, 1, (0, 0, 0)), (21, .getfield 45, 3, (4, 0, 0)), (24, .iconst 1, 1, (0, 0, 0)), (25, .iadd, 1, (0, 0, 0)), (26, .putfield 45, 3, (4, 0, 0))]
theorem K127_2 : zRk 127 B127_2 = true := by decide +kernel
def F127_0 (h : zHC) : Option zHC := some (hset h 256 0 0 (wadd (h 256 0 0) 1))
set_option maxRecDepth 100000 in
theorem T127_0 {spec : zRn zH2} {hm : zHM} {o : Int → Int} {d : Nat} (hd : 0 ≤ d) (h : zHC) (v : zHC) (e : F127_0 h = some v) : zFin 0 (fun _ => 0) (zRu2 spec d) 127 none (v, hm, o) (19, [some (14, 0), none], [], (h, hm, o)) := by
  unfold F127_0 at e
  refine zF_blk (m := []) (d := 0) (b := B127_2) (gs := []) (c' := (29, [some (14, 0), none], [], ((hset h 256 0 0 (wadd (h 256 0 0) 1)), hm, o))) K127_2 rfl trivial ?_
  obtain rfl := Option.some.inj e
  exact zF_rv (by decide +kernel)
/-- EchoVale$Pieces.addWay(I)V -/
def F127 (v1 : Int) (h : zHC) : Option zHC := if 50 ≤ (h 256 0 0) then F127_0 h else zG (0 ≤ (h 256 0 0) ∧ (h 256 0 0) < 50) (F127_0 (hset h 257 0 (h 256 0 0) v1))
set_option maxRecDepth 100000 in
theorem S127 {spec : zRn zH2} {hm : zHM} {o : Int → Int} {d : Nat} (hd : 1 ≤ d) (v1 : Int) (h : zHC) (v : zHC) (e : F127 v1 h = some v) : zRu2 spec d 127 [(14, 0), (0, v1)] (h, hm, o) none (v, hm, o) := by
  refine zF_in (D := 0) (mx := 2) (L := [some (14, 0), some (0, v1)]) (by decide +kernel) rfl rfl hd (fun d hd => ?_)
  unfold F127 at e
  rcases zI_s e with ⟨q1, e⟩ | ⟨q1, e⟩
  · refine zF_blk (m := []) (d := 1) (b := B127_1) (gs := [50 ≤ (h 256 0 0)]) (c' := (19, [some (14, 0), some (0, v1)], [], (h, hm, o))) K127_1 rfl ⟨q1, trivial⟩ ?_
    refine zF_blk (m := [true, false]) (d := 0) (b := []) (gs := []) (c' := (19, [some (14, 0), none], [], (h, hm, o))) rfl rfl trivial ?_
    exact T127_0 hd h _ e
  · refine zF_blk (m := []) (d := 0) (b := B127_1) (gs := [¬ (50 ≤ (h 256 0 0))]) (c' := (9, [some (14, 0), some (0, v1)], [], (h, hm, o))) K127_1 rfl ⟨q1, trivial⟩ ?_
    obtain ⟨q2, e⟩ := zG_s e
    refine zF_blk (m := []) (d := 0) (b := B127_0) (gs := [0 ≤ (h 256 0 0) ∧ (h 256 0 0) < 50]) (c' := (19, [some (14, 0), some (0, v1)], [], ((hset h 257 0 (h 256 0 0) v1), hm, o))) K127_0 rfl ⟨q2, trivial⟩ ?_
    refine zF_blk (m := [true, false]) (d := 0) (b := []) (gs := []) (c' := (19, [some (14, 0), none], [], ((hset h 257 0 (h 256 0 0) v1), hm, o))) rfl rfl trivial ?_
    exact T127_0 hd (hset h 257 0 (h 256 0 0) v1) _ e
def B120_0 : List zRow := [(0, .aload_n 0, 1, (0, 0, 0)), (1, .iconst 0, 1, (0, 0, 0)), (2, .putfield 45, 3, (4, 0, 0)), (5, .iconst 0, 1, (0, 0, 0)), (6, .istore_n 3, 1, (0, 0, 0))]
theorem K120_0 : zRk 120 B120_0 = true := by decide +kernel
def B120_1 : List zRow := [(106, .aload_n 0, 1, (0, 0, 0)), (107, .getfield 45, 3, (4, 0, 0))]
theorem K120_1 : zRk 120 B120_1 = true := by decide +kernel
def B120_2 : List zRow := [(14, .aload_n 0, 1, (0, 0, 0)), (15, .aload_n 1, 1, (0, 0, 0)), (16, .iload_n 3, 1, (0, 0, 0))]
theorem K120_2 : zRk 120 B120_2 = true := by decide +kernel
def B120_3 : List zRow := [(20, .istore 4, 2, (0, 0, 0)), (22, .iconst 0, 1, (0, 0, 0)), (23, .istore 5, 2, (0, 0, 0))]
theorem K120_3 : zRk 120 B120_3 = true := by decide +kernel
def B120_4 : List zRow := [(7, .iload_n 3, 1, (0, 0, 0)), (8, .sipush 200, 3, (0, 0, 0)), (11, .if_icmp .gt 95, 3, (0, 0, 0))]
theorem K120_4 : zRk 120 B120_4 = true := by decide +kernel
def B120_5 : List zRow := [(37, .iconst 1, 1, (0, 0, 0)), (38, .istore 6, 2, (0, 0, 0))]
theorem K120_5 : zRk 120 B120_5 = true := by decide +kernel
def B120_6 : List zRow := [(32, .iload 4, 2, (0, 0, 0)), (34, .ifCond .eq 66, 3, (0, 0, 0))]
theorem K120_6 : zRk 120 B120_6 = true := by decide +kernel
def B120_7 : List zRow := [(25, .iload 5, 2, (0, 0, 0)), (27, .bipush 100, 2, (0, 0, 0)), (29, .if_icmp .ge 71, 3, (0, 0, 0))]
theorem K120_7 : zRk 120 B120_7 = true := by decide +kernel
def B120_8 : List zRow := [(47, .aload_n 1, 1, (0, 0, 0)), (48, .iload 5, 2, (0, 0, 0))]
theorem K120_8 : zRk 120 B120_8 = true := by decide +kernel
def B120_9 : List zRow := [(56, .aload_n 0, 1, (0, 0, 0)), (57, .aload_n 1, 1, (0, 0, 0)), (58, .aload_n 2, 1, (0, 0, 0)), (59, .iload_n 3, 1, (0, 0, 0)), (60, .iload 5, 2, (0, 0, 0)), (62, .iload 6, 2, (0, 0, 0))]
theorem K120_9 : zRk 120 B120_9 = true := by decide +kernel
def B120_10 : List zRow := [(70, .aload_n 0, 1, (0, 0, 0)), (71, .iload_n 3, 1, (0, 0, 0)), (72, .sipush 1000, 3, (0, 0, 0)), (75, .imul, 1, (0, 0, 0)), (76, .iload 5, 2, (0, 0, 0)), (78, .bipush 10, 2, (0, 0, 0)), (80, .imul, 1, (0, 0, 0)), (81, .iadd, 1, (0, 0, 0)), (82, .iload 6, 2, (0, 0, 0)), (84, .iadd, 1, (0, 0, 0))]
theorem K120_10 : zRk 120 B120_10 = true := by decide +kernel
def B120_11 : List zRow := [(67, .ifCond .eq 21, 3, (0, 0, 0))]
theorem K120_11 : zRk 120 B120_11 = true := by decide +kernel
def B120_12 : List zRow := [(53, .ifCond .eq 41, 3, (0, 0, 0))]
theorem K120_12 : zRk 120 B120_12 = true := by decide +kernel
def B120_13 : List zRow := [(40, .iload 6, 2, (0, 0, 0)), (42, .bipush 9, 2, (0, 0, 0)), (44, .if_icmp .gt 50, 3, (0, 0, 0))]
theorem K120_13 : zRk 120 B120_13 = true := by decide +kernel
def B120_14 : List zRow := [(88, .iinc 6 1, 3, (0, 0, 0)), (91, .goto (-51), 3, (0, 0, 0))]
theorem K120_14 : zRk 120 B120_14 = true := by decide +kernel
def B120_15 : List zRow := [(94, .iinc 5 1, 3, (0, 0, 0)), (97, .goto (-72), 3, (0, 0, 0))]
theorem K120_15 : zRk 120 B120_15 = true := by decide +kernel
def B120_16 : List zRow := [(100, .iinc 3 1, 3, (0, 0, 0)), (103, .goto (-96), 3, (0, 0, 0))]
theorem K120_16 : zRk 120 B120_16 = true := by decide +kernel
def F120_2 (k0 : Int → zHC → Option (Int × zHC)) (v3 : Int) (h : zHC) : Option (Int × zHC) := k0 (wadd v3 1) h
set_option maxRecDepth 100000 in
theorem T120_2 {spec : zRn zH2} {hm : zHM} {o : Int → Int} {d : Nat} (hd : 6 ≤ d) (k0 : Int → zHC → Option (Int × zHC)) (hk0 : ∀ (v3 : Int) (h : zHC) (v : (Int × zHC)), k0 v3 h = some v → zFin 0 (fun _ => 0) (zRu2 spec d) 120 (some (0, v.1)) (v.2, hm, o) (7, [some (14, 0), some (19, 0), some (11, 1), some (0, v3), none, none, none], [], (h, hm, o))) (v3 : Int) (h : zHC) (v : (Int × zHC)) (e : F120_2 k0 v3 h = some v) : zFin 0 (fun _ => 0) (zRu2 spec d) 120 (some (0, v.1)) (v.2, hm, o) (100, [some (14, 0), some (19, 0), some (11, 1), some (0, v3), none, none, none], [], (h, hm, o)) := by
  unfold F120_2 at e
  refine zF_blk (m := []) (d := 0) (b := B120_16) (gs := []) (c' := (7, [some (14, 0), some (19, 0), some (11, 1), some (0, (wadd v3 1)), none, none, none], [], (h, hm, o))) K120_16 rfl trivial ?_
  exact hk0 (wadd v3 1) h _ e
def F120_4 (k0 : Int → zHC → Option (Int × zHC)) (k1 : Int → Int → Int → zHC → Option (Int × zHC)) (v3 : Int) (v4 : Int) (v5 : Int) (h : zHC) : Option (Int × zHC) := k1 v3 v4 (wadd v5 1) h
set_option maxRecDepth 100000 in
theorem T120_4 {spec : zRn zH2} {hm : zHM} {o : Int → Int} {d : Nat} (hd : 6 ≤ d) (k0 : Int → zHC → Option (Int × zHC)) (hk0 : ∀ (v3 : Int) (h : zHC) (v : (Int × zHC)), k0 v3 h = some v → zFin 0 (fun _ => 0) (zRu2 spec d) 120 (some (0, v.1)) (v.2, hm, o) (7, [some (14, 0), some (19, 0), some (11, 1), some (0, v3), none, none, none], [], (h, hm, o))) (k1 : Int → Int → Int → zHC → Option (Int × zHC)) (hk1 : ∀ (v3 : Int) (v4 : Int) (v5 : Int) (h : zHC) (v : (Int × zHC)), k1 v3 v4 v5 h = some v → zFin 0 (fun _ => 0) (zRu2 spec d) 120 (some (0, v.1)) (v.2, hm, o) (25, [some (14, 0), some (19, 0), some (11, 1), some (0, v3), some (0, v4), some (0, v5), none], [], (h, hm, o))) (v3 : Int) (v4 : Int) (v5 : Int) (h : zHC) (v : (Int × zHC)) (e : F120_4 k0 k1 v3 v4 v5 h = some v) : zFin 0 (fun _ => 0) (zRu2 spec d) 120 (some (0, v.1)) (v.2, hm, o) (94, [some (14, 0), some (19, 0), some (11, 1), some (0, v3), some (0, v4), some (0, v5), none], [], (h, hm, o)) := by
  unfold F120_4 at e
  refine zF_blk (m := []) (d := 0) (b := B120_15) (gs := []) (c' := (25, [some (14, 0), some (19, 0), some (11, 1), some (0, v3), some (0, v4), some (0, (wadd v5 1)), none], [], (h, hm, o))) K120_15 rfl trivial ?_
  exact hk1 v3 v4 (wadd v5 1) h _ e
def F120_5 (k0 : Int → zHC → Option (Int × zHC)) (k1 : Int → Int → Int → zHC → Option (Int × zHC)) (k2 : Int → Int → Int → Int → zHC → Option (Int × zHC)) (v3 : Int) (v4 : Int) (v5 : Int) (v6 : Int) (h : zHC) : Option (Int × zHC) := k2 v3 v4 v5 (wadd v6 1) h
set_option maxRecDepth 100000 in
theorem T120_5 {spec : zRn zH2} {hm : zHM} {o : Int → Int} {d : Nat} (hd : 6 ≤ d) (k0 : Int → zHC → Option (Int × zHC)) (hk0 : ∀ (v3 : Int) (h : zHC) (v : (Int × zHC)), k0 v3 h = some v → zFin 0 (fun _ => 0) (zRu2 spec d) 120 (some (0, v.1)) (v.2, hm, o) (7, [some (14, 0), some (19, 0), some (11, 1), some (0, v3), none, none, none], [], (h, hm, o))) (k1 : Int → Int → Int → zHC → Option (Int × zHC)) (hk1 : ∀ (v3 : Int) (v4 : Int) (v5 : Int) (h : zHC) (v : (Int × zHC)), k1 v3 v4 v5 h = some v → zFin 0 (fun _ => 0) (zRu2 spec d) 120 (some (0, v.1)) (v.2, hm, o) (25, [some (14, 0), some (19, 0), some (11, 1), some (0, v3), some (0, v4), some (0, v5), none], [], (h, hm, o))) (k2 : Int → Int → Int → Int → zHC → Option (Int × zHC)) (hk2 : ∀ (v3 : Int) (v4 : Int) (v5 : Int) (v6 : Int) (h : zHC) (v : (Int × zHC)), k2 v3 v4 v5 v6 h = some v → zFin 0 (fun _ => 0) (zRu2 spec d) 120 (some (0, v.1)) (v.2, hm, o) (40, [some (14, 0), some (19, 0), some (11, 1), some (0, v3), some (0, v4), some (0, v5), some (0, v6)], [], (h, hm, o))) (v3 : Int) (v4 : Int) (v5 : Int) (v6 : Int) (h : zHC) (v : (Int × zHC)) (e : F120_5 k0 k1 k2 v3 v4 v5 v6 h = some v) : zFin 0 (fun _ => 0) (zRu2 spec d) 120 (some (0, v.1)) (v.2, hm, o) (88, [some (14, 0), some (19, 0), some (11, 1), some (0, v3), some (0, v4), some (0, v5), some (0, v6)], [], (h, hm, o)) := by
  unfold F120_5 at e
  refine zF_blk (m := []) (d := 0) (b := B120_14) (gs := []) (c' := (40, [some (14, 0), some (19, 0), some (11, 1), some (0, v3), some (0, v4), some (0, v5), some (0, (wadd v6 1))], [], (h, hm, o))) K120_14 rfl trivial ?_
  exact hk2 v3 v4 v5 (wadd v6 1) h _ e
def F120_3 (k0 : Int → zHC → Option (Int × zHC)) (k1 : Int → Int → Int → zHC → Option (Int × zHC)) : Nat → Int → Int → Int → Int → zHC → Option (Int × zHC)
  | 0, _, _, _, _, _ => none
  | n + 1, v3, v4, v5, v6, h => if 9 < v6 then F120_4 k0 k1 v3 v4 v5 h else (F69 v5 h).bind fun r1 => if r1 = 0 then F120_4 k0 k1 v3 v4 v5 h else (F123 v3 v5 v6 h).bind fun r2 => if r2.1 = 0 then F120_5 k0 k1 (F120_3 k0 k1 n) v3 v4 v5 v6 r2.2 else (F127 (wadd (wadd (wmul v3 1000) (wmul v5 10)) v6) r2.2).bind fun r3 => F120_5 k0 k1 (F120_3 k0 k1 n) v3 v4 v5 v6 r3
set_option maxRecDepth 100000 in
theorem T120_3 {spec : zRn zH2} {hm : zHM} {o : Int → Int} {d : Nat} (hd : 6 ≤ d) (k0 : Int → zHC → Option (Int × zHC)) (hk0 : ∀ (v3 : Int) (h : zHC) (v : (Int × zHC)), k0 v3 h = some v → zFin 0 (fun _ => 0) (zRu2 spec d) 120 (some (0, v.1)) (v.2, hm, o) (7, [some (14, 0), some (19, 0), some (11, 1), some (0, v3), none, none, none], [], (h, hm, o))) (k1 : Int → Int → Int → zHC → Option (Int × zHC)) (hk1 : ∀ (v3 : Int) (v4 : Int) (v5 : Int) (h : zHC) (v : (Int × zHC)), k1 v3 v4 v5 h = some v → zFin 0 (fun _ => 0) (zRu2 spec d) 120 (some (0, v.1)) (v.2, hm, o) (25, [some (14, 0), some (19, 0), some (11, 1), some (0, v3), some (0, v4), some (0, v5), none], [], (h, hm, o))) : ∀ (n : Nat) (v3 : Int) (v4 : Int) (v5 : Int) (v6 : Int) (h : zHC) (v : (Int × zHC)), F120_3 k0 k1 n v3 v4 v5 v6 h = some v → zFin 0 (fun _ => 0) (zRu2 spec d) 120 (some (0, v.1)) (v.2, hm, o) (40, [some (14, 0), some (19, 0), some (11, 1), some (0, v3), some (0, v4), some (0, v5), some (0, v6)], [], (h, hm, o)) := by
  intro n
  induction n with
  | zero => intro v3 v4 v5 v6 h v e; unfold F120_3 at e; cases e
  | succ n hk2 =>
    intro v3 v4 v5 v6 h v e
    unfold F120_3 at e
    rcases zI_s e with ⟨q1, e⟩ | ⟨q1, e⟩
    · refine zF_blk (m := []) (d := 1) (b := B120_13) (gs := [9 < v6]) (c' := (94, [some (14, 0), some (19, 0), some (11, 1), some (0, v3), some (0, v4), some (0, v5), some (0, v6)], [], (h, hm, o))) K120_13 rfl ⟨q1, trivial⟩ ?_
      refine zF_blk (m := [true, true, true, true, true, true, false]) (d := 0) (b := []) (gs := []) (c' := (94, [some (14, 0), some (19, 0), some (11, 1), some (0, v3), some (0, v4), some (0, v5), none], [], (h, hm, o))) rfl rfl trivial ?_
      exact T120_4 hd k0 hk0 k1 hk1 v3 v4 v5 h _ e
    · refine zF_blk (m := []) (d := 0) (b := B120_13) (gs := [¬ (9 < v6)]) (c' := (47, [some (14, 0), some (19, 0), some (11, 1), some (0, v3), some (0, v4), some (0, v5), some (0, v6)], [], (h, hm, o))) K120_13 rfl ⟨q1, trivial⟩ ?_
      obtain ⟨r1, q2, e⟩ := zB_s e
      refine zF_blk (m := []) (d := 0) (b := B120_8) (gs := []) (c' := (50, [some (14, 0), some (19, 0), some (11, 1), some (0, v3), some (0, v4), some (0, v5), some (0, v6)], [(0, v5), (19, 0)], (h, hm, o))) K120_8 rfl trivial ?_
      refine zF_call (k := 69) (cl := 9) (n := 2) (i := .invokevirtual 52) (args := [(19, 0), (0, v5)]) (rest := []) (g1 := (h, hm, o)) (r1 := some (0, r1)) (by decide +kernel) rfl rfl rfl (st' := [(0, r1)]) rfl (S69 (Nat.le_trans (by decide) hd) v5 h _ q2) ?_
      rcases zI_s e with ⟨q3, e⟩ | ⟨q3, e⟩
      · refine zF_blk (m := []) (d := 1) (b := B120_12) (gs := [r1 = 0]) (c' := (94, [some (14, 0), some (19, 0), some (11, 1), some (0, v3), some (0, v4), some (0, v5), some (0, v6)], [], (h, hm, o))) K120_12 rfl ⟨q3, trivial⟩ ?_
        refine zF_blk (m := [true, true, true, true, true, true, false]) (d := 0) (b := []) (gs := []) (c' := (94, [some (14, 0), some (19, 0), some (11, 1), some (0, v3), some (0, v4), some (0, v5), none], [], (h, hm, o))) rfl rfl trivial ?_
        exact T120_4 hd k0 hk0 k1 hk1 v3 v4 v5 h _ e
      · refine zF_blk (m := []) (d := 0) (b := B120_12) (gs := [¬ (r1 = 0)]) (c' := (56, [some (14, 0), some (19, 0), some (11, 1), some (0, v3), some (0, v4), some (0, v5), some (0, v6)], [], (h, hm, o))) K120_12 rfl ⟨q3, trivial⟩ ?_
        obtain ⟨r2, q4, e⟩ := zB_s e
        refine zF_blk (m := []) (d := 0) (b := B120_9) (gs := []) (c' := (64, [some (14, 0), some (19, 0), some (11, 1), some (0, v3), some (0, v4), some (0, v5), some (0, v6)], [(0, v6), (0, v5), (0, v3), (11, 1), (19, 0), (14, 0)], (h, hm, o))) K120_9 rfl trivial ?_
        refine zF_call (k := 123) (cl := 4) (n := 6) (i := .invokevirtual 55) (args := [(14, 0), (19, 0), (11, 1), (0, v3), (0, v5), (0, v6)]) (rest := []) (g1 := (r2.2, hm, o)) (r1 := some (0, r2.1)) (by decide +kernel) rfl rfl rfl (st' := [(0, r2.1)]) rfl (S123 (Nat.le_trans (by decide) hd) v3 v5 v6 h _ q4) ?_
        rcases zI_s e with ⟨q5, e⟩ | ⟨q5, e⟩
        · refine zF_blk (m := []) (d := 1) (b := B120_11) (gs := [r2.1 = 0]) (c' := (88, [some (14, 0), some (19, 0), some (11, 1), some (0, v3), some (0, v4), some (0, v5), some (0, v6)], [], (r2.2, hm, o))) K120_11 rfl ⟨q5, trivial⟩ ?_
          exact T120_5 hd k0 hk0 k1 hk1 (F120_3 k0 k1 n) hk2 v3 v4 v5 v6 r2.2 _ e
        · refine zF_blk (m := []) (d := 0) (b := B120_11) (gs := [¬ (r2.1 = 0)]) (c' := (70, [some (14, 0), some (19, 0), some (11, 1), some (0, v3), some (0, v4), some (0, v5), some (0, v6)], [], (r2.2, hm, o))) K120_11 rfl ⟨q5, trivial⟩ ?_
          obtain ⟨r3, q6, e⟩ := zB_s e
          refine zF_blk (m := []) (d := 0) (b := B120_10) (gs := []) (c' := (85, [some (14, 0), some (19, 0), some (11, 1), some (0, v3), some (0, v4), some (0, v5), some (0, v6)], [(0, (wadd (wadd (wmul v3 1000) (wmul v5 10)) v6)), (14, 0)], (r2.2, hm, o))) K120_10 rfl trivial ?_
          refine zF_call (k := 127) (cl := 4) (n := 2) (i := .invokevirtual 59) (args := [(14, 0), (0, (wadd (wadd (wmul v3 1000) (wmul v5 10)) v6))]) (rest := []) (g1 := (r3, hm, o)) (r1 := none) (by decide +kernel) rfl rfl rfl (st' := []) rfl (S127 (Nat.le_trans (by decide) hd) (wadd (wadd (wmul v3 1000) (wmul v5 10)) v6) r2.2 _ q6) ?_
          exact T120_5 hd k0 hk0 k1 hk1 (F120_3 k0 k1 n) hk2 v3 v4 v5 v6 r3 _ e
def F120_1 (k0 : Int → zHC → Option (Int × zHC)) : Nat → Int → Int → Int → zHC → Option (Int × zHC)
  | 0, _, _, _, _ => none
  | n + 1, v3, v4, v5, h => if 100 ≤ v5 then F120_2 k0 v3 h else if v4 = 0 then F120_2 k0 v3 h else F120_3 k0 (F120_1 k0 n) zFu v3 v4 v5 1 h
set_option maxRecDepth 100000 in
theorem T120_1 {spec : zRn zH2} {hm : zHM} {o : Int → Int} {d : Nat} (hd : 6 ≤ d) (k0 : Int → zHC → Option (Int × zHC)) (hk0 : ∀ (v3 : Int) (h : zHC) (v : (Int × zHC)), k0 v3 h = some v → zFin 0 (fun _ => 0) (zRu2 spec d) 120 (some (0, v.1)) (v.2, hm, o) (7, [some (14, 0), some (19, 0), some (11, 1), some (0, v3), none, none, none], [], (h, hm, o))) : ∀ (n : Nat) (v3 : Int) (v4 : Int) (v5 : Int) (h : zHC) (v : (Int × zHC)), F120_1 k0 n v3 v4 v5 h = some v → zFin 0 (fun _ => 0) (zRu2 spec d) 120 (some (0, v.1)) (v.2, hm, o) (25, [some (14, 0), some (19, 0), some (11, 1), some (0, v3), some (0, v4), some (0, v5), none], [], (h, hm, o)) := by
  intro n
  induction n with
  | zero => intro v3 v4 v5 h v e; unfold F120_1 at e; cases e
  | succ n hk1 =>
    intro v3 v4 v5 h v e
    unfold F120_1 at e
    rcases zI_s e with ⟨q1, e⟩ | ⟨q1, e⟩
    · refine zF_blk (m := []) (d := 1) (b := B120_7) (gs := [100 ≤ v5]) (c' := (100, [some (14, 0), some (19, 0), some (11, 1), some (0, v3), some (0, v4), some (0, v5), none], [], (h, hm, o))) K120_7 rfl ⟨q1, trivial⟩ ?_
      refine zF_blk (m := [true, true, true, true, false, false, false]) (d := 0) (b := []) (gs := []) (c' := (100, [some (14, 0), some (19, 0), some (11, 1), some (0, v3), none, none, none], [], (h, hm, o))) rfl rfl trivial ?_
      exact T120_2 hd k0 hk0 v3 h _ e
    · refine zF_blk (m := []) (d := 0) (b := B120_7) (gs := [¬ (100 ≤ v5)]) (c' := (32, [some (14, 0), some (19, 0), some (11, 1), some (0, v3), some (0, v4), some (0, v5), none], [], (h, hm, o))) K120_7 rfl ⟨q1, trivial⟩ ?_
      rcases zI_s e with ⟨q2, e⟩ | ⟨q2, e⟩
      · refine zF_blk (m := []) (d := 1) (b := B120_6) (gs := [v4 = 0]) (c' := (100, [some (14, 0), some (19, 0), some (11, 1), some (0, v3), some (0, v4), some (0, v5), none], [], (h, hm, o))) K120_6 rfl ⟨q2, trivial⟩ ?_
        refine zF_blk (m := [true, true, true, true, false, false, false]) (d := 0) (b := []) (gs := []) (c' := (100, [some (14, 0), some (19, 0), some (11, 1), some (0, v3), none, none, none], [], (h, hm, o))) rfl rfl trivial ?_
        exact T120_2 hd k0 hk0 v3 h _ e
      · refine zF_blk (m := []) (d := 0) (b := B120_6) (gs := [¬ (v4 = 0)]) (c' := (37, [some (14, 0), some (19, 0), some (11, 1), some (0, v3), some (0, v4), some (0, v5), none], [], (h, hm, o))) K120_6 rfl ⟨q2, trivial⟩ ?_
        refine zF_blk (m := []) (d := 0) (b := B120_5) (gs := []) (c' := (40, [some (14, 0), some (19, 0), some (11, 1), some (0, v3), some (0, v4), some (0, v5), some (0, 1)], [], (h, hm, o))) K120_5 rfl trivial ?_
        exact T120_3 hd k0 hk0 (F120_1 k0 n) hk1 zFu v3 v4 v5 1 h _ e
def F120_0 : Nat → Int → zHC → Option (Int × zHC)
  | 0, _, _ => none
  | n + 1, v3, h => if 200 < v3 then some ((h 256 0 0), h) else (F121 v3 h).bind fun r1 => F120_1 (F120_0 n) zFu v3 r1 0 h
set_option maxRecDepth 100000 in
theorem T120_0 {spec : zRn zH2} {hm : zHM} {o : Int → Int} {d : Nat} (hd : 6 ≤ d) : ∀ (n : Nat) (v3 : Int) (h : zHC) (v : (Int × zHC)), F120_0 n v3 h = some v → zFin 0 (fun _ => 0) (zRu2 spec d) 120 (some (0, v.1)) (v.2, hm, o) (7, [some (14, 0), some (19, 0), some (11, 1), some (0, v3), none, none, none], [], (h, hm, o)) := by
  intro n
  induction n with
  | zero => intro v3 h v e; unfold F120_0 at e; cases e
  | succ n hk0 =>
    intro v3 h v e
    unfold F120_0 at e
    rcases zI_s e with ⟨q1, e⟩ | ⟨q1, e⟩
    · refine zF_blk (m := []) (d := 1) (b := B120_4) (gs := [200 < v3]) (c' := (106, [some (14, 0), some (19, 0), some (11, 1), some (0, v3), none, none, none], [], (h, hm, o))) K120_4 rfl ⟨q1, trivial⟩ ?_
      refine zF_blk (m := []) (d := 0) (b := B120_1) (gs := []) (c' := (110, [some (14, 0), some (19, 0), some (11, 1), some (0, v3), none, none, none], [(0, (h 256 0 0))], (h, hm, o))) K120_1 rfl trivial ?_
      obtain rfl := Option.some.inj e
      exact zF_ri (by decide +kernel)
    · refine zF_blk (m := []) (d := 0) (b := B120_4) (gs := [¬ (200 < v3)]) (c' := (14, [some (14, 0), some (19, 0), some (11, 1), some (0, v3), none, none, none], [], (h, hm, o))) K120_4 rfl ⟨q1, trivial⟩ ?_
      obtain ⟨r1, q2, e⟩ := zB_s e
      refine zF_blk (m := []) (d := 0) (b := B120_2) (gs := []) (c' := (17, [some (14, 0), some (19, 0), some (11, 1), some (0, v3), none, none, none], [(0, v3), (19, 0), (14, 0)], (h, hm, o))) K120_2 rfl trivial ?_
      refine zF_call (k := 121) (cl := 4) (n := 3) (i := .invokevirtual 48) (args := [(14, 0), (19, 0), (0, v3)]) (rest := []) (g1 := (h, hm, o)) (r1 := some (0, r1)) (by decide +kernel) rfl rfl rfl (st' := [(0, r1)]) rfl (S121 (Nat.le_trans (by decide) hd) v3 h _ q2) ?_
      refine zF_blk (m := []) (d := 0) (b := B120_3) (gs := []) (c' := (25, [some (14, 0), some (19, 0), some (11, 1), some (0, v3), some (0, r1), some (0, 0), none], [], (h, hm, o))) K120_3 rfl trivial ?_
      exact T120_1 hd (F120_0 n) hk0 zFu v3 r1 0 h _ e
/-- EchoVale$Pieces.find(LEchoVale$Valley;LEchoVale$Course;)I -/
def F120 (h : zHC) : Option (Int × zHC) := F120_0 zFu 0 (hset h 256 0 0 0)
set_option maxRecDepth 100000 in
theorem S120 {spec : zRn zH2} {hm : zHM} {o : Int → Int} {d : Nat} (hd : 7 ≤ d) (h : zHC) (v : (Int × zHC)) (e : F120 h = some v) : zRu2 spec d 120 [(14, 0), (19, 0), (11, 1)] (h, hm, o) (some (0, v.1)) (v.2, hm, o) := by
  refine zF_in (D := 6) (mx := 7) (L := [some (14, 0), some (19, 0), some (11, 1), none, none, none, none]) (by decide +kernel) rfl rfl hd (fun d hd => ?_)
  unfold F120 at e
  refine zF_blk (m := []) (d := 0) (b := B120_0) (gs := []) (c' := (7, [some (14, 0), some (19, 0), some (11, 1), some (0, 0), none, none, none], [], ((hset h 256 0 0 0), hm, o))) K120_0 rfl trivial ?_
  exact T120_0 hd zFu 0 (hset h 256 0 0 0) _ e
def B118_0 : List zRow := [(0, .aload_n 0, 1, (0, 0, 0)), (1, .getfield 80, 3, (11, 10, 19)), (4, .aload_n 0, 1, (0, 0, 0)), (5, .getfield 12, 3, (11, 0, 23)), (8, .aload_n 0, 1, (0, 0, 0)), (9, .getfield 19, 3, (11, 1, 39))]
theorem K118_0 : zRk 118 B118_0 = true := by decide +kernel
def B118_1 : List zRow := [(46, .iconst (-1), 1, (0, 0, 0))]
theorem K118_1 : zRk 118 B118_1 = true := by decide +kernel
def B118_2 : List zRow := [(28, .aload_n 0, 1, (0, 0, 0)), (29, .getfield 80, 3, (11, 10, 19)), (32, .aload_n 0, 1, (0, 0, 0)), (33, .getfield 19, 3, (11, 1, 39)), (36, .aload_n 0, 1, (0, 0, 0)), (37, .getfield 60, 3, (11, 7, 135))]
theorem K118_2 : zRk 118 B118_2 = true := by decide +kernel
def B118_3 : List zRow := [(43, .goto 4, 3, (0, 0, 0))]
theorem K118_3 : zRk 118 B118_3 = true := by decide +kernel
def B118_4 : List zRow := [(15, .istore_n 1, 1, (0, 0, 0)), (16, .aload_n 0, 1, (0, 0, 0)), (17, .getfield 12, 3, (11, 0, 23)), (20, .iconst 0, 1, (0, 0, 0)), (21, .putfield 105, 3, (5, 1, 0)), (24, .iload_n 1, 1, (0, 0, 0)), (25, .ifCond .eq 21, 3, (0, 0, 0))]
theorem K118_4 : zRk 118 B118_4 = true := by decide +kernel
/-- EchoVale.pieces()I -/
def F118 (h : zHC) : Option (Int × zHC) := (F119 h).bind fun r1 => if r1.1 = 0 then some ((-1), (hset r1.2 321 0 0 0)) else (F120 (hset r1.2 321 0 0 0)).bind fun r2 => some (r2.1, r2.2)
set_option maxRecDepth 100000 in
theorem S118 {spec : zRn zH2} {hm : zHM} {o : Int → Int} {d : Nat} (hd : 8 ≤ d) (h : zHC) (v : (Int × zHC)) (e : F118 h = some v) : zRu2 spec d 118 [(21, 0)] (h, hm, o) (some (0, v.1)) (v.2, hm, o) := by
  refine zF_in (D := 7) (mx := 2) (L := [some (21, 0), none]) (by decide +kernel) rfl rfl hd (fun d hd => ?_)
  unfold F118 at e
  obtain ⟨r1, q1, e⟩ := zB_s e
  refine zF_blk (m := []) (d := 0) (b := B118_0) (gs := []) (c' := (12, [some (21, 0), none], [(19, 0), (15, 0), (14, 0)], (h, hm, o))) K118_0 rfl trivial ?_
  refine zF_call (k := 119) (cl := 4) (n := 3) (i := .invokevirtual 291) (args := [(14, 0), (15, 0), (19, 0)]) (rest := []) (g1 := (r1.2, hm, o)) (r1 := some (0, r1.1)) (by decide +kernel) rfl rfl rfl (st' := [(0, r1.1)]) rfl (S119 (Nat.le_trans (by decide) hd)  h _ q1) ?_
  rcases zI_s e with ⟨q2, e⟩ | ⟨q2, e⟩
  · refine zF_blk (m := []) (d := 1) (b := B118_4) (gs := [r1.1 = 0]) (c' := (46, [some (21, 0), some (0, r1.1)], [], ((hset r1.2 321 0 0 0), hm, o))) K118_4 rfl ⟨q2, trivial⟩ ?_
    refine zF_blk (m := []) (d := 0) (b := B118_1) (gs := []) (c' := (47, [some (21, 0), some (0, r1.1)], [(0, (-1))], ((hset r1.2 321 0 0 0), hm, o))) K118_1 rfl trivial ?_
    obtain rfl := Option.some.inj e
    exact zF_ri (by decide +kernel)
  · refine zF_blk (m := []) (d := 0) (b := B118_4) (gs := [¬ (r1.1 = 0)]) (c' := (28, [some (21, 0), some (0, r1.1)], [], ((hset r1.2 321 0 0 0), hm, o))) K118_4 rfl ⟨q2, trivial⟩ ?_
    obtain ⟨r2, q3, e⟩ := zB_s e
    refine zF_blk (m := []) (d := 0) (b := B118_2) (gs := []) (c' := (40, [some (21, 0), some (0, r1.1)], [(11, 1), (19, 0), (14, 0)], ((hset r1.2 321 0 0 0), hm, o))) K118_2 rfl trivial ?_
    refine zF_call (k := 120) (cl := 4) (n := 3) (i := .invokevirtual 295) (args := [(14, 0), (19, 0), (11, 1)]) (rest := []) (g1 := (r2.2, hm, o)) (r1 := some (0, r2.1)) (by decide +kernel) rfl rfl rfl (st' := [(0, r2.1)]) rfl (S120 (Nat.le_trans (by decide) hd)  (hset r1.2 321 0 0 0) _ q3) ?_
    refine zF_blk (m := []) (d := 0) (b := B118_3) (gs := []) (c' := (47, [some (21, 0), some (0, r1.1)], [(0, r2.1)], (r2.2, hm, o))) K118_3 rfl trivial ?_
    obtain rfl := Option.some.inj e
    exact zF_ri (by decide +kernel)
