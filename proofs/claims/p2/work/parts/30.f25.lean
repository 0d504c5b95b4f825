/-! Functions of the methods, by wip/gen/lift.py. -/
def B91_0 : List zRow := [(0, .iconst (-1), 1, (0, 0, 0)), (1, .istore_n 2, 1, (0, 0, 0)), (2, .iconst 0, 1, (0, 0, 0)), (3, .istore_n 3, 1, (0, 0, 0)), (4, .iconst 0, 1, (0, 0, 0)), (5, .istore 4, 2, (0, 0, 0))]
theorem K91_0 : zRk 91 B91_0 = true := by decide +kernel
def B91_1 : List zRow := [(60, .iload_n 3, 1, (0, 0, 0))]
theorem K91_1 : zRk 91 B91_1 = true := by decide +kernel
def B91_2 : List zRow := [(38, .aload_n 0, 1, (0, 0, 0)), (39, .getfield 46, 3, (9, 18, 5242906)), (42, .iload 4, 2, (0, 0, 0)), (44, .iaload, 1, (0, 0, 0)), (45, .istore_n 2, 1, (0, 0, 0)), (46, .aload_n 0, 1, (0, 0, 0)), (47, .getfield 49, 3, (9, 19, 5242906)), (50, .iload 4, 2, (0, 0, 0)), (52, .iaload, 1, (0, 0, 0)), (53, .istore_n 3, 1, (0, 0, 0))]
theorem K91_2 : zRk 91 B91_2 = true := by decide +kernel
def B91_3 : List zRow := [(27, .aload_n 0, 1, (0, 0, 0)), (28, .getfield 46, 3, (9, 18, 5242906)), (31, .iload 4, 2, (0, 0, 0)), (33, .iaload, 1, (0, 0, 0)), (34, .iload_n 2, 1, (0, 0, 0)), (35, .if_icmp .le 19, 3, (0, 0, 0))]
theorem K91_3 : zRk 91 B91_3 = true := by decide +kernel
def B91_4 : List zRow := [(16, .aload_n 0, 1, (0, 0, 0)), (17, .getfield 46, 3, (9, 18, 5242906)), (20, .iload 4, 2, (0, 0, 0)), (22, .iaload, 1, (0, 0, 0)), (23, .iload_n 1, 1, (0, 0, 0)), (24, .if_icmp .gt 30, 3, (0, 0, 0))]
theorem K91_4 : zRk 91 B91_4 = true := by decide +kernel
def B91_5 : List zRow := [(7, .iload 4, 2, (0, 0, 0)), (9, .aload_n 0, 1, (0, 0, 0)), (10, .getfield 71, 3, (9, 6, 0)), (13, .if_icmp .ge 47, 3, (0, 0, 0))]
theorem K91_5 : zRk 91 B91_5 = true := by decide +kernel
def B91_6 : List zRow := [(54, .iinc 4 1, 3, (0, 0, 0)), (57, .goto (-50), 3, (0, 0, 0))]
theorem K91_6 : zRk 91 B91_6 = true := by decide +kernel
def F91_1 (k0 : Int → Int → Int → Int → Int → Option Int) (h : zHC) (v0 : Int) (v1 : Int) (v2 : Int) (v3 : Int) (v4 : Int) : Option Int := k0 v0 v1 v2 v3 (wadd v4 1)
set_option maxRecDepth 100000 in
theorem T91_1 {spec : zRn zH2} {hm : zHM} {o : Int → Int} {d : Nat} (hd : 0 ≤ d) (h : zHC) (k0 : Int → Int → Int → Int → Int → Option Int) (hk0 : ∀ (v0 : Int) (v1 : Int) (v2 : Int) (v3 : Int) (v4 : Int) (v : Int), k0 v0 v1 v2 v3 v4 = some v → zFin 0 (fun _ => 0) (zRu2 spec d) 91 (some (0, v)) (h, hm, o) (7, [some (19, v0), some (0, v1), some (0, v2), some (0, v3), some (0, v4)], [], (h, hm, o))) (v0 : Int) (v1 : Int) (v2 : Int) (v3 : Int) (v4 : Int) (v : Int) (e : F91_1 k0 h v0 v1 v2 v3 v4 = some v) : zFin 0 (fun _ => 0) (zRu2 spec d) 91 (some (0, v)) (h, hm, o) (54, [some (19, v0), some (0, v1), some (0, v2), some (0, v3), some (0, v4)], [], (h, hm, o)) := by
  unfold F91_1 at e
  refine zF_blk (m := []) (d := 0) (b := B91_6) (gs := []) (c' := (7, [some (19, v0), some (0, v1), some (0, v2), some (0, v3), some (0, (wadd v4 1))], [], (h, hm, o))) K91_6 rfl trivial ?_
  exact hk0 v0 v1 v2 v3 (wadd v4 1) _ e
def F91_0 (h : zHC) : Nat → Int → Int → Int → Int → Int → Option Int
  | 0, _, _, _, _, _ => none
  | n + 1, v0, v1, v2, v3, v4 => if (h 582 v0 0) ≤ v4 then some v3 else zG (0 ≤ v4 ∧ v4 < 6) (if v1 < (h 594 v0 v4) then F91_1 (F91_0 h n) h v0 v1 v2 v3 v4 else zG (0 ≤ v4 ∧ v4 < 6) (if (h 594 v0 v4) ≤ v2 then F91_1 (F91_0 h n) h v0 v1 v2 v3 v4 else zG (0 ≤ v4 ∧ v4 < 6) (zG (0 ≤ v4 ∧ v4 < 6) (F91_1 (F91_0 h n) h v0 v1 (h 594 v0 v4) (h 595 v0 v4) v4))))
set_option maxRecDepth 100000 in
theorem T91_0 {spec : zRn zH2} {hm : zHM} {o : Int → Int} {d : Nat} (hd : 0 ≤ d) (h : zHC) : ∀ (n : Nat) (v0 : Int) (v1 : Int) (v2 : Int) (v3 : Int) (v4 : Int) (v : Int), F91_0 h n v0 v1 v2 v3 v4 = some v → zFin 0 (fun _ => 0) (zRu2 spec d) 91 (some (0, v)) (h, hm, o) (7, [some (19, v0), some (0, v1), some (0, v2), some (0, v3), some (0, v4)], [], (h, hm, o)) := by
  intro n
  induction n with
  | zero => intro v0 v1 v2 v3 v4 v e; unfold F91_0 at e; cases e
  | succ n hk0 =>
    intro v0 v1 v2 v3 v4 v e
    unfold F91_0 at e
    rcases zI_s e with ⟨q1, e⟩ | ⟨q1, e⟩
    · refine zF_blk (m := []) (d := 1) (b := B91_5) (gs := [(h 582 v0 0) ≤ v4]) (c' := (60, [some (19, v0), some (0, v1), some (0, v2), some (0, v3), some (0, v4)], [], (h, hm, o))) K91_5 rfl ⟨q1, trivial⟩ ?_
      refine zF_blk (m := []) (d := 0) (b := B91_1) (gs := []) (c' := (61, [some (19, v0), some (0, v1), some (0, v2), some (0, v3), some (0, v4)], [(0, v3)], (h, hm, o))) K91_1 rfl trivial ?_
      obtain rfl := Option.some.inj e
      exact zF_ri (by decide +kernel)
    · refine zF_blk (m := []) (d := 0) (b := B91_5) (gs := [¬ ((h 582 v0 0) ≤ v4)]) (c' := (16, [some (19, v0), some (0, v1), some (0, v2), some (0, v3), some (0, v4)], [], (h, hm, o))) K91_5 rfl ⟨q1, trivial⟩ ?_
      obtain ⟨q2, e⟩ := zG_s e
      rcases zI_s e with ⟨q3, e⟩ | ⟨q3, e⟩
      · refine zF_blk (m := []) (d := 1) (b := B91_4) (gs := [0 ≤ v4 ∧ v4 < 6, v1 < (h 594 v0 v4)]) (c' := (54, [some (19, v0), some (0, v1), some (0, v2), some (0, v3), some (0, v4)], [], (h, hm, o))) K91_4 rfl ⟨q2, q3, trivial⟩ ?_
        exact T91_1 hd h (F91_0 h n) hk0 v0 v1 v2 v3 v4 _ e
      · refine zF_blk (m := []) (d := 0) (b := B91_4) (gs := [0 ≤ v4 ∧ v4 < 6, ¬ (v1 < (h 594 v0 v4))]) (c' := (27, [some (19, v0), some (0, v1), some (0, v2), some (0, v3), some (0, v4)], [], (h, hm, o))) K91_4 rfl ⟨q2, q3, trivial⟩ ?_
        obtain ⟨q4, e⟩ := zG_s e
        rcases zI_s e with ⟨q5, e⟩ | ⟨q5, e⟩
        · refine zF_blk (m := []) (d := 1) (b := B91_3) (gs := [0 ≤ v4 ∧ v4 < 6, (h 594 v0 v4) ≤ v2]) (c' := (54, [some (19, v0), some (0, v1), some (0, v2), some (0, v3), some (0, v4)], [], (h, hm, o))) K91_3 rfl ⟨q4, q5, trivial⟩ ?_
          exact T91_1 hd h (F91_0 h n) hk0 v0 v1 v2 v3 v4 _ e
        · refine zF_blk (m := []) (d := 0) (b := B91_3) (gs := [0 ≤ v4 ∧ v4 < 6, ¬ ((h 594 v0 v4) ≤ v2)]) (c' := (38, [some (19, v0), some (0, v1), some (0, v2), some (0, v3), some (0, v4)], [], (h, hm, o))) K91_3 rfl ⟨q4, q5, trivial⟩ ?_
          obtain ⟨q6, e⟩ := zG_s e
          obtain ⟨q6, e⟩ := zG_s e
          refine zF_blk (m := []) (d := 0) (b := B91_2) (gs := [0 ≤ v4 ∧ v4 < 6, 0 ≤ v4 ∧ v4 < 6]) (c' := (54, [some (19, v0), some (0, v1), some (0, (h 594 v0 v4)), some (0, (h 595 v0 v4)), some (0, v4)], [], (h, hm, o))) K91_2 rfl ⟨q6, q6, trivial⟩ ?_
          exact T91_1 hd h (F91_0 h n) hk0 v0 v1 (h 594 v0 v4) (h 595 v0 v4) v4 _ e
/-- EchoVale$Valley.snowAt(I)I -/
def F91 (v0 : Int) (v1 : Int) (h : zHC) : Option Int := F91_0 h zFu v0 v1 (-1) 0 0
set_option maxRecDepth 100000 in
theorem S91 {spec : zRn zH2} {hm : zHM} {o : Int → Int} {d : Nat} (hd : 1 ≤ d) (v0 : Int) (v1 : Int) (h : zHC) (v : Int) (e : F91 v0 v1 h = some v) : zRu2 spec d 91 [(19, v0), (0, v1)] (h, hm, o) (some (0, v)) (h, hm, o) := by
  refine zF_in (D := 0) (mx := 5) (L := [some (19, v0), some (0, v1), none, none, none]) (by decide +kernel) rfl rfl hd (fun d hd => ?_)
  unfold F91 at e
  refine zF_blk (m := []) (d := 0) (b := B91_0) (gs := []) (c' := (7, [some (19, v0), some (0, v1), some (0, (-1)), some (0, 0), some (0, 0)], [], (h, hm, o))) K91_0 rfl trivial ?_
  exact T91_0 hd h zFu v0 v1 (-1) 0 0 _ e
def B93_0 : List zRow := [(0, .iconst 0, 1, (0, 0, 0)), (1, .istore 4, 2, (0, 0, 0)), (3, .iconst 0, 1, (0, 0, 0)), (4, .istore 5, 2, (0, 0, 0))]
theorem K93_0 : zRk 93 B93_0 = true := by decide +kernel
def B93_1 : List zRow := [(54, .iload 4, 2, (0, 0, 0))]
theorem K93_1 : zRk 93 B93_1 = true := by decide +kernel
def B93_2 : List zRow := [(22, .aload_n 0, 1, (0, 0, 0)), (23, .getfield 15, 3, (9, 8, 5242906)), (26, .iload_n 1, 1, (0, 0, 0)), (27, .iaload, 1, (0, 0, 0)), (28, .aload_n 3, 1, (0, 0, 0)), (29, .iload 5, 2, (0, 0, 0)), (31, .iaload, 1, (0, 0, 0))]
theorem K93_2 : zRk 93 B93_2 = true := by decide +kernel
def B93_3 : List zRow := [(39, .iload 4, 2, (0, 0, 0)), (41, .iconst 1, 1, (0, 0, 0)), (42, .iload 5, 2, (0, 0, 0)), (44, .ishl, 1, (0, 0, 0)), (45, .ior, 1, (0, 0, 0)), (46, .istore 4, 2, (0, 0, 0))]
theorem K93_3 : zRk 93 B93_3 = true := by decide +kernel
def B93_4 : List zRow := [(35, .iload_n 2, 1, (0, 0, 0)), (36, .if_icmp .gt 12, 3, (0, 0, 0))]
theorem K93_4 : zRk 93 B93_4 = true := by decide +kernel
def B93_5 : List zRow := [(15, .iload 5, 2, (0, 0, 0)), (17, .aload_n 3, 1, (0, 0, 0)), (18, .arraylength, 1, (0, 0, 0)), (19, .if_icmp .ge 35, 3, (0, 0, 0))]
theorem K93_5 : zRk 93 B93_5 = true := by decide +kernel
def B93_6 : List zRow := [(6, .iload 5, 2, (0, 0, 0)), (8, .aload_n 0, 1, (0, 0, 0)), (9, .getfield 62, 3, (9, 3, 0)), (12, .if_icmp .ge 42, 3, (0, 0, 0))]
theorem K93_6 : zRk 93 B93_6 = true := by decide +kernel
def B93_7 : List zRow := [(48, .iinc 5 1, 3, (0, 0, 0)), (51, .goto (-45), 3, (0, 0, 0))]
theorem K93_7 : zRk 93 B93_7 = true := by decide +kernel
def F93_1 (k0 : Int → Int → Int → Int → Int → Int → Option Int) (h : zHC) (v0 : Int) (v1 : Int) (v2 : Int) (v3 : Int) (v4 : Int) (v5 : Int) : Option Int := k0 v0 v1 v2 v3 v4 (wadd v5 1)
set_option maxRecDepth 100000 in
theorem T93_1 {spec : zRn zH2} {hm : zHM} {o : Int → Int} {d : Nat} (hd : 1 ≤ d) (h : zHC) (k0 : Int → Int → Int → Int → Int → Int → Option Int) (hk0 : ∀ (v0 : Int) (v1 : Int) (v2 : Int) (v3 : Int) (v4 : Int) (v5 : Int) (v : Int), k0 v0 v1 v2 v3 v4 v5 = some v → zFin 0 (fun _ => 0) (zRu2 spec d) 93 (some (0, v)) (h, hm, o) (6, [some (19, v0), some (0, v1), some (0, v2), some (1342184491, v3), some (0, v4), some (0, v5)], [], (h, hm, o))) (v0 : Int) (v1 : Int) (v2 : Int) (v3 : Int) (v4 : Int) (v5 : Int) (v : Int) (e : F93_1 k0 h v0 v1 v2 v3 v4 v5 = some v) : zFin 0 (fun _ => 0) (zRu2 spec d) 93 (some (0, v)) (h, hm, o) (48, [some (19, v0), some (0, v1), some (0, v2), some (1342184491, v3), some (0, v4), some (0, v5)], [], (h, hm, o)) := by
  unfold F93_1 at e
  refine zF_blk (m := []) (d := 0) (b := B93_7) (gs := []) (c' := (6, [some (19, v0), some (0, v1), some (0, v2), some (1342184491, v3), some (0, v4), some (0, (wadd v5 1))], [], (h, hm, o))) K93_7 rfl trivial ?_
  exact hk0 v0 v1 v2 v3 v4 (wadd v5 1) _ e
def F93_0 (h : zHC) : Nat → Int → Int → Int → Int → Int → Int → Option Int
  | 0, _, _, _, _, _, _ => none
  | n + 1, v0, v1, v2, v3, v4, v5 => if (h 579 v0 0) ≤ v5 then some v4 else if 6 ≤ v5 then some v4 else zG (0 ≤ v1 ∧ v1 < 6) (zG (0 ≤ v5 ∧ v5 < 6) ((F83 (h 584 v0 v1) (h 67 v3 v5)).bind fun r1 => if v2 < r1 then F93_1 (F93_0 h n) h v0 v1 v2 v3 v4 v5 else F93_1 (F93_0 h n) h v0 v1 v2 v3 (wor v4 (wshl 1 v5)) v5))
set_option maxRecDepth 100000 in
theorem T93_0 {spec : zRn zH2} {hm : zHM} {o : Int → Int} {d : Nat} (hd : 1 ≤ d) (h : zHC) : ∀ (n : Nat) (v0 : Int) (v1 : Int) (v2 : Int) (v3 : Int) (v4 : Int) (v5 : Int) (v : Int), F93_0 h n v0 v1 v2 v3 v4 v5 = some v → zFin 0 (fun _ => 0) (zRu2 spec d) 93 (some (0, v)) (h, hm, o) (6, [some (19, v0), some (0, v1), some (0, v2), some (1342184491, v3), some (0, v4), some (0, v5)], [], (h, hm, o)) := by
  intro n
  induction n with
  | zero => intro v0 v1 v2 v3 v4 v5 v e; unfold F93_0 at e; cases e
  | succ n hk0 =>
    intro v0 v1 v2 v3 v4 v5 v e
    unfold F93_0 at e
    rcases zI_s e with ⟨q1, e⟩ | ⟨q1, e⟩
    · refine zF_blk (m := []) (d := 1) (b := B93_6) (gs := [(h 579 v0 0) ≤ v5]) (c' := (54, [some (19, v0), some (0, v1), some (0, v2), some (1342184491, v3), some (0, v4), some (0, v5)], [], (h, hm, o))) K93_6 rfl ⟨q1, trivial⟩ ?_
      refine zF_blk (m := []) (d := 0) (b := B93_1) (gs := []) (c' := (56, [some (19, v0), some (0, v1), some (0, v2), some (1342184491, v3), some (0, v4), some (0, v5)], [(0, v4)], (h, hm, o))) K93_1 rfl trivial ?_
      obtain rfl := Option.some.inj e
      exact zF_ri (by decide +kernel)
    · refine zF_blk (m := []) (d := 0) (b := B93_6) (gs := [¬ ((h 579 v0 0) ≤ v5)]) (c' := (15, [some (19, v0), some (0, v1), some (0, v2), some (1342184491, v3), some (0, v4), some (0, v5)], [], (h, hm, o))) K93_6 rfl ⟨q1, trivial⟩ ?_
      rcases zI_s e with ⟨q2, e⟩ | ⟨q2, e⟩
      · refine zF_blk (m := []) (d := 1) (b := B93_5) (gs := [6 ≤ v5]) (c' := (54, [some (19, v0), some (0, v1), some (0, v2), some (1342184491, v3), some (0, v4), some (0, v5)], [], (h, hm, o))) K93_5 rfl ⟨q2, trivial⟩ ?_
        refine zF_blk (m := []) (d := 0) (b := B93_1) (gs := []) (c' := (56, [some (19, v0), some (0, v1), some (0, v2), some (1342184491, v3), some (0, v4), some (0, v5)], [(0, v4)], (h, hm, o))) K93_1 rfl trivial ?_
        obtain rfl := Option.some.inj e
        exact zF_ri (by decide +kernel)
      · refine zF_blk (m := []) (d := 0) (b := B93_5) (gs := [¬ (6 ≤ v5)]) (c' := (22, [some (19, v0), some (0, v1), some (0, v2), some (1342184491, v3), some (0, v4), some (0, v5)], [], (h, hm, o))) K93_5 rfl ⟨q2, trivial⟩ ?_
        obtain ⟨q3, e⟩ := zG_s e
        obtain ⟨q4, e⟩ := zG_s e
        obtain ⟨r1, q5, e⟩ := zB_s e
        refine zF_blk (m := []) (d := 0) (b := B93_2) (gs := [0 ≤ v1 ∧ v1 < 6, 0 ≤ v5 ∧ v5 < 6]) (c' := (32, [some (19, v0), some (0, v1), some (0, v2), some (1342184491, v3), some (0, v4), some (0, v5)], [(0, (h 67 v3 v5)), (0, (h 584 v0 v1))], (h, hm, o))) K93_2 rfl ⟨q3, q4, trivial⟩ ?_
        refine zF_call (k := 83) (cl := 9) (n := 2) (i := .invokestatic 101) (args := [(0, (h 584 v0 v1)), (0, (h 67 v3 v5))]) (rest := []) (g1 := (h, hm, o)) (r1 := some (0, r1)) (by decide +kernel) rfl rfl rfl (st' := [(0, r1)]) rfl (S83 (Nat.le_trans (by decide) hd) (h 584 v0 v1) (h 67 v3 v5) h _ q5) ?_
        rcases zI_s e with ⟨q6, e⟩ | ⟨q6, e⟩
        · refine zF_blk (m := []) (d := 1) (b := B93_4) (gs := [v2 < r1]) (c' := (48, [some (19, v0), some (0, v1), some (0, v2), some (1342184491, v3), some (0, v4), some (0, v5)], [], (h, hm, o))) K93_4 rfl ⟨q6, trivial⟩ ?_
          exact T93_1 hd h (F93_0 h n) hk0 v0 v1 v2 v3 v4 v5 _ e
        · refine zF_blk (m := []) (d := 0) (b := B93_4) (gs := [¬ (v2 < r1)]) (c' := (39, [some (19, v0), some (0, v1), some (0, v2), some (1342184491, v3), some (0, v4), some (0, v5)], [], (h, hm, o))) K93_4 rfl ⟨q6, trivial⟩ ?_
          refine zF_blk (m := []) (d := 0) (b := B93_3) (gs := []) (c' := (48, [some (19, v0), some (0, v1), some (0, v2), some (1342184491, v3), some (0, (wor v4 (wshl 1 v5))), some (0, v5)], [], (h, hm, o))) K93_3 rfl trivial ?_
          exact T93_1 hd h (F93_0 h n) hk0 v0 v1 v2 v3 (wor v4 (wshl 1 v5)) v5 _ e
/-- EchoVale$Valley.hearersAt(II[I)I -/
def F93 (v0 : Int) (v1 : Int) (v2 : Int) (v3 : Int) (h : zHC) : Option Int := F93_0 h zFu v0 v1 v2 v3 0 0
set_option maxRecDepth 100000 in
theorem S93 {spec : zRn zH2} {hm : zHM} {o : Int → Int} {d : Nat} (hd : 2 ≤ d) (v0 : Int) (v1 : Int) (v2 : Int) (v3 : Int) (h : zHC) (v : Int) (e : F93 v0 v1 v2 v3 h = some v) : zRu2 spec d 93 [(19, v0), (0, v1), (0, v2), (1342184491, v3)] (h, hm, o) (some (0, v)) (h, hm, o) := by
  refine zF_in (D := 1) (mx := 6) (L := [some (19, v0), some (0, v1), some (0, v2), some (1342184491, v3), none, none]) (by decide +kernel) rfl rfl hd (fun d hd => ?_)
  unfold F93 at e
  refine zF_blk (m := []) (d := 0) (b := B93_0) (gs := []) (c' := (6, [some (19, v0), some (0, v1), some (0, v2), some (1342184491, v3), some (0, 0), some (0, 0)], [], (h, hm, o))) K93_0 rfl trivial ?_
  exact T93_0 hd h zFu v0 v1 v2 v3 0 0 _ e
def B94_0 : List zRow := [(11, .aload_n 0, 1, (0, 0, 0)), (12, .getfield 37, 3, (1, 2, 0)), (15, .iconst 5, 1, (0, 0, 0)), (16, .imul, 1, (0, 0, 0)), (17, .istore 5, 2, (0, 0, 0)), (19, .aload_n 0, 1, (0, 0, 0)), (20, .getfield 24, 3, (1, 7, 5246482)), (23, .iload 5, 2, (0, 0, 0)), (25, .iconst 0, 1, (0, 0, 0)), (26, .iadd, 1, (0, 0, 0)), (27, .iload_n 1, 1, (0, 0, 0)), (28, .iastore, 1, (0, 0, 0)), (29, .aload_n 0, 1, (0, 0, 0)), (30, .getfield 24, 3, (1, 7, 5246482)), (33, .iload 5, 2, (0, 0, 0)), (35, .iconst 1, 1, (0, 0, 0)), (36, .iadd, 1, (0, 0, 0)), (37, .iload_n 2, 1, (0, 0, 0)), (38, .iastore, 1, (0, 0, 0)), (39, .aload_n 0, 1, (0, 0, 0)), (40, .getfield 24, 3, (1, 7, 5246482)), (43, .iload 5, 2, (0, 0, 0)), (45, .iconst 2, 1, (0, 0, 0)), (46, .iadd, 1, (0, 0, 0)), (47, .aload_n 0, 1, (0, 0, 0)), (48, .getfield 30, 3, (1, 0, 0)), (51, .iastore, 1, (0, 0, 0)), (52, .aload_n 0, 1, (0, 0, 0)), (53, .getfield 24, 3, (1, 7, 5246482)), (56, .iload 5, 2, (0, 0, 0)), (58, .iconst 3, 1, (0, 0, 0)), (59, .iadd, 1, (0, 0, 0)), (60, .iload_n 3, 1, (0, 0, 0)), (61, .iastore, 1, (0, 0, 0)), (62, .aload_n 0, 1, (0, 0, 0)), (63, .getfield 24, 3, (1, 7, 5246482)), (66, .iload 5, 2, (0, 0, 0)), (68, .iconst 4, 1, (0, 0, 0)), (69, .iadd, 1, (0, 0, 0)), (70, .iload 4, 2, (0, 0, 0)), (72, .iastore, 1, (0, 0, 0)), (73, .aload_n 0, 1, (0, 0, 0)), (74, .dup, 1, (0, 0, 0)), (75, .getfield 37, 3, (1, 2, 0)), (78, .iconst 1, 1, (0, 0, 0)), (79, .iadd, 1, (0, 0, 0)), (80, .putfield 37, 3, (1, 2, 0))]
theorem K94_0 : zRk 94 B94_0 = true := by decide +kernel
def B94_1 : List zRow := [(0, .aload_n 0, 1, (0, 0, 0)), (1, .getfield 37, 3, (1, 2, 0)), (4, .sipush 180, 3, (0, 0, 0)), (7, .if_icmp .lt 4, 3, (0, 0, 0))]
theorem K94_1 : zRk 94 B94_1 = true := by decide +kernel
/-- EchoVale$Course.enterLog(IIII)V -/
def F94 (v0 : Int) (v1 : Int) (v2 : Int) (v3 : Int) (v4 : Int) (h : zHC) : Option zHC := if (h 66 v0 0) < 180 then zG (0 ≤ (wadd (wmul (h 66 v0 0) 5) 0) ∧ (wadd (wmul (h 66 v0 0) 5) 0) < 900) (zG (0 ≤ (wadd (wmul (h 66 v0 0) 5) 1) ∧ (wadd (wmul (h 66 v0 0) 5) 1) < 900) (zG (0 ≤ (wadd (wmul (h 66 v0 0) 5) 2) ∧ (wadd (wmul (h 66 v0 0) 5) 2) < 900) (zG (0 ≤ (wadd (wmul (h 66 v0 0) 5) 3) ∧ (wadd (wmul (h 66 v0 0) 5) 3) < 900) (zG (0 ≤ (wadd (wmul (h 66 v0 0) 5) 4) ∧ (wadd (wmul (h 66 v0 0) 5) 4) < 900) (some (hset (hset (hset (hset (hset (hset h 71 v0 (wadd (wmul (h 66 v0 0) 5) 0) v1) 71 v0 (wadd (wmul (h 66 v0 0) 5) 1) v2) 71 v0 (wadd (wmul (h 66 v0 0) 5) 2) (h 64 v0 0)) 71 v0 (wadd (wmul (h 66 v0 0) 5) 3) v3) 71 v0 (wadd (wmul (h 66 v0 0) 5) 4) v4) 66 v0 0 (wadd (h 66 v0 0) 1))))))) else some h
set_option maxRecDepth 100000 in
theorem S94 {spec : zRn zH2} {hm : zHM} {o : Int → Int} {d : Nat} (hd : 1 ≤ d) (v0 : Int) (v1 : Int) (v2 : Int) (v3 : Int) (v4 : Int) (h : zHC) (v : zHC) (e : F94 v0 v1 v2 v3 v4 h = some v) : zRu2 spec d 94 [(11, v0), (0, v1), (0, v2), (0, v3), (0, v4)] (h, hm, o) none (v, hm, o) := by
  refine zF_in (D := 0) (mx := 6) (L := [some (11, v0), some (0, v1), some (0, v2), some (0, v3), some (0, v4), none]) (by decide +kernel) rfl rfl hd (fun d hd => ?_)
  unfold F94 at e
  rcases zI_s e with ⟨q1, e⟩ | ⟨q1, e⟩
  · refine zF_blk (m := []) (d := 1) (b := B94_1) (gs := [(h 66 v0 0) < 180]) (c' := (11, [some (11, v0), some (0, v1), some (0, v2), some (0, v3), some (0, v4), none], [], (h, hm, o))) K94_1 rfl ⟨q1, trivial⟩ ?_
    obtain ⟨q2, e⟩ := zG_s e
    obtain ⟨q3, e⟩ := zG_s e
    obtain ⟨q4, e⟩ := zG_s e
    obtain ⟨q5, e⟩ := zG_s e
    obtain ⟨q6, e⟩ := zG_s e
    refine zF_blk (m := []) (d := 0) (b := B94_0) (gs := [0 ≤ (wadd (wmul (h 66 v0 0) 5) 0) ∧ (wadd (wmul (h 66 v0 0) 5) 0) < 900, 0 ≤ (wadd (wmul (h 66 v0 0) 5) 1) ∧ (wadd (wmul (h 66 v0 0) 5) 1) < 900, 0 ≤ (wadd (wmul (h 66 v0 0) 5) 2) ∧ (wadd (wmul (h 66 v0 0) 5) 2) < 900, 0 ≤ (wadd (wmul (h 66 v0 0) 5) 3) ∧ (wadd (wmul (h 66 v0 0) 5) 3) < 900, 0 ≤ (wadd (wmul (h 66 v0 0) 5) 4) ∧ (wadd (wmul (h 66 v0 0) 5) 4) < 900]) (c' := (83, [some (11, v0), some (0, v1), some (0, v2), some (0, v3), some (0, v4), some (0, (wmul (h 66 v0 0) 5))], [], ((hset (hset (hset (hset (hset (hset h 71 v0 (wadd (wmul (h 66 v0 0) 5) 0) v1) 71 v0 (wadd (wmul (h 66 v0 0) 5) 1) v2) 71 v0 (wadd (wmul (h 66 v0 0) 5) 2) (h 64 v0 0)) 71 v0 (wadd (wmul (h 66 v0 0) 5) 3) v3) 71 v0 (wadd (wmul (h 66 v0 0) 5) 4) v4) 66 v0 0 (wadd (h 66 v0 0) 1)), hm, o))) K94_0 rfl ⟨q2, q3, q4, q5, q6, trivial⟩ ?_
    obtain rfl := Option.some.inj e
    exact zF_rv (by decide +kernel)
  · refine zF_blk (m := []) (d := 0) (b := B94_1) (gs := [¬ ((h 66 v0 0) < 180)]) (c' := (10, [some (11, v0), some (0, v1), some (0, v2), some (0, v3), some (0, v4), none], [], (h, hm, o))) K94_1 rfl ⟨q1, trivial⟩ ?_
    obtain rfl := Option.some.inj e
    exact zF_rv (by decide +kernel)
def B95_0 : List zRow := [(0, .aload_n 0, 1, (0, 0, 0)), (1, .getfield 15, 3, (9, 8, 5242906)), (4, .iload_n 1, 1, (0, 0, 0)), (5, .iaload, 1, (0, 0, 0)), (6, .aload_n 0, 1, (0, 0, 0)), (7, .getfield 15, 3, (9, 8, 5242906)), (10, .iload_n 2, 1, (0, 0, 0)), (11, .iaload, 1, (0, 0, 0))]
theorem K95_0 : zRk 95 B95_0 = true := by decide +kernel
def B95_1 : List zRow := [(38, .iconst 0, 1, (0, 0, 0))]
theorem K95_1 : zRk 95 B95_1 = true := by decide +kernel
def B95_2 : List zRow := [(23, .iconst 0, 1, (0, 0, 0)), (24, .iload_n 3, 1, (0, 0, 0)), (25, .iconst 1, 1, (0, 0, 0)), (26, .isub, 1, (0, 0, 0)), (27, .iload 4, 2, (0, 0, 0)), (29, .iconst 2, 1, (0, 0, 0)), (30, .idiv, 1, (0, 0, 0)), (31, .isub, 1, (0, 0, 0)), (32, .invokestatic 97, 3, (5004, 0, 0)), (35, .goto 4, 3, (0, 0, 0))]
theorem K95_2 : zRk 95 B95_2 = true := by decide +kernel
def B95_3 : List zRow := [(15, .istore 4, 2, (0, 0, 0)), (17, .iload 4, 2, (0, 0, 0)), (19, .iload_n 3, 1, (0, 0, 0)), (20, .if_icmp .gt 18, 3, (0, 0, 0))]
theorem K95_3 : zRk 95 B95_3 = true := by decide +kernel
/-- EchoVale$Valley.onward(III)I -/
def F95 (v0 : Int) (v1 : Int) (v2 : Int) (v3 : Int) (h : zHC) : Option Int := zG (0 ≤ v1 ∧ v1 < 6) (zG (0 ≤ v2 ∧ v2 < 6) ((F83 (h 584 v0 v1) (h 584 v0 v2)).bind fun r1 => if v3 < r1 then some 0 else some (if 0 < (wsub (wsub v3 1) (wdiv r1 2)) then (wsub (wsub v3 1) (wdiv r1 2)) else 0)))
set_option maxRecDepth 100000 in
theorem S95 {spec : zRn zH2} {hm : zHM} {o : Int → Int} {d : Nat} (hd : 2 ≤ d) (v0 : Int) (v1 : Int) (v2 : Int) (v3 : Int) (h : zHC) (v : Int) (e : F95 v0 v1 v2 v3 h = some v) : zRu2 spec d 95 [(19, v0), (0, v1), (0, v2), (0, v3)] (h, hm, o) (some (0, v)) (h, hm, o) := by
  refine zF_in (D := 1) (mx := 5) (L := [some (19, v0), some (0, v1), some (0, v2), some (0, v3), none]) (by decide +kernel) rfl rfl hd (fun d hd => ?_)
  unfold F95 at e
  obtain ⟨q1, e⟩ := zG_s e
  obtain ⟨q2, e⟩ := zG_s e
  obtain ⟨r1, q3, e⟩ := zB_s e
  refine zF_blk (m := []) (d := 0) (b := B95_0) (gs := [0 ≤ v1 ∧ v1 < 6, 0 ≤ v2 ∧ v2 < 6]) (c' := (12, [some (19, v0), some (0, v1), some (0, v2), some (0, v3), none], [(0, (h 584 v0 v2)), (0, (h 584 v0 v1))], (h, hm, o))) K95_0 rfl ⟨q1, q2, trivial⟩ ?_
  refine zF_call (k := 83) (cl := 9) (n := 2) (i := .invokestatic 101) (args := [(0, (h 584 v0 v1)), (0, (h 584 v0 v2))]) (rest := []) (g1 := (h, hm, o)) (r1 := some (0, r1)) (by decide +kernel) rfl rfl rfl (st' := [(0, r1)]) rfl (S83 (Nat.le_trans (by decide) hd) (h 584 v0 v1) (h 584 v0 v2) h _ q3) ?_
  rcases zI_s e with ⟨q4, e⟩ | ⟨q4, e⟩
  · refine zF_blk (m := []) (d := 1) (b := B95_3) (gs := [v3 < r1]) (c' := (38, [some (19, v0), some (0, v1), some (0, v2), some (0, v3), some (0, r1)], [], (h, hm, o))) K95_3 rfl ⟨q4, trivial⟩ ?_
    refine zF_blk (m := []) (d := 0) (b := B95_1) (gs := []) (c' := (39, [some (19, v0), some (0, v1), some (0, v2), some (0, v3), some (0, r1)], [(0, 0)], (h, hm, o))) K95_1 rfl trivial ?_
    obtain rfl := Option.some.inj e
    exact zF_ri (by decide +kernel)
  · refine zF_blk (m := []) (d := 0) (b := B95_3) (gs := [¬ (v3 < r1)]) (c' := (23, [some (19, v0), some (0, v1), some (0, v2), some (0, v3), some (0, r1)], [], (h, hm, o))) K95_3 rfl ⟨q4, trivial⟩ ?_
    refine zF_blk (m := []) (d := 0) (b := B95_2) (gs := [¬ 2 = 0]) (c' := (39, [some (19, v0), some (0, v1), some (0, v2), some (0, v3), some (0, r1)], [(0, (if 0 < (wsub (wsub v3 1) (wdiv r1 2)) then (wsub (wsub v3 1) (wdiv r1 2)) else 0))], (h, hm, o))) K95_2 rfl ⟨by decide, trivial⟩ ?_
    obtain rfl := Option.some.inj e
    exact zF_ri (by decide +kernel)
def B92_0 : List zRow := [(7, .aload_n 1, 1, (0, 0, 0)), (8, .iload_n 3, 1, (0, 0, 0)), (9, .iload 4, 2, (0, 0, 0)), (11, .aload_n 0, 1, (0, 0, 0)), (12, .getfield 9, 3, (1, 3, 5242906))]
theorem K92_0 : zRk 92 B92_0 = true := by decide +kernel
def B92_1 : List zRow := [(31, .aload_n 0, 1, (0, 0, 0)), (32, .getfield 21, 3, (1, 6, 5243842)), (35, .iload 6, 2, (0, 0, 0)), (37, .iconst 5, 1, (0, 0, 0)), (38, .iadd, 1, (0, 0, 0)), (39, .iload 5, 2, (0, 0, 0)), (41, .iastore, 1, (0, 0, 0))]
theorem K92_1 : zRk 92 B92_1 = true := by decide +kernel
def B92_2 : List zRow := [(18, .istore 5, 2, (0, 0, 0)), (20, .iload_n 2, 1, (0, 0, 0)), (21, .bipush 8, 2, (0, 0, 0)), (23, .imul, 1, (0, 0, 0)), (24, .istore 6, 2, (0, 0, 0)), (26, .iload 5, 2, (0, 0, 0)), (28, .ifCond .eq 14, 3, (0, 0, 0))]
theorem K92_2 : zRk 92 B92_2 = true := by decide +kernel
def B92_3 : List zRow := [(0, .iload 4, 2, (0, 0, 0)), (2, .iconst 1, 1, (0, 0, 0)), (3, .if_icmp .ge 4, 3, (0, 0, 0))]
theorem K92_3 : zRk 92 B92_3 = true := by decide +kernel
def B92_4 : List zRow := [(42, .aload_n 0, 1, (0, 0, 0)), (43, .getfield 21, 3, (1, 6, 5243842)), (46, .iload 6, 2, (0, 0, 0)), (48, .bipush 6, 2, (0, 0, 0)), (50, .iadd, 1, (0, 0, 0)), (51, .dup2, 1, (0, 0, 0)), (52, .iaload, 1, (0, 0, 0)), (53, .iconst 1, 1, (0, 0, 0)), (54, .iadd, 1, (0, 0, 0)), (55, .iastore, 1, (0, 0, 0)), (56, .aload_n 0, 1, (0, 0, 0)), (57, .getfield 21, 3, (1, 6, 5243842)), (60, .iload 6, 2, (0, 0, 0)), (62, .bipush 7, 2, (0, 0, 0)), (64, .iadd, 1, (0, 0, 0)), (65, .dup2, 1, (0, 0, 0)), (66, .iaload, 1, (0, 0, 0)), (67, .iload 5, 2, (0, 0, 0)), (69, .ior, 1, (0, 0, 0)), (70, .iastore, 1, (0, 0, 0)), (71, .aload_n 0, 1, (0, 0, 0)), (72, .iload_n 2, 1, (0, 0, 0)), (73, .iload_n 3, 1, (0, 0, 0)), (74, .iload 4, 2, (0, 0, 0)), (76, .iload 5, 2, (0, 0, 0))]
theorem K92_4 : zRk 92 B92_4 = true := by decide +kernel
def B92_5 : List zRow := [(81, .iconst 0, 1, (0, 0, 0)), (82, .istore 7, 2, (0, 0, 0))]
theorem K92_5 : zRk 92 B92_5 = true := by decide +kernel
def B92_6 : List zRow := [(99, .aload_n 0, 1, (0, 0, 0)), (100, .aload_n 1, 1, (0, 0, 0)), (101, .iload_n 2, 1, (0, 0, 0)), (102, .iload 7, 2, (0, 0, 0)), (104, .aload_n 1, 1, (0, 0, 0)), (105, .iload_n 3, 1, (0, 0, 0)), (106, .iload 7, 2, (0, 0, 0)), (108, .iload 4, 2, (0, 0, 0))]
theorem K92_6 : zRk 92 B92_6 = true := by decide +kernel
def B92_7 : List zRow := [(93, .iload 7, 2, (0, 0, 0)), (95, .iload_n 3, 1, (0, 0, 0)), (96, .if_icmp .eq 20, 3, (0, 0, 0))]
theorem K92_7 : zRk 92 B92_7 = true := by decide +kernel
def B92_8 : List zRow := [(84, .iload 7, 2, (0, 0, 0)), (86, .aload_n 1, 1, (0, 0, 0)), (87, .getfield 69, 3, (9, 2, 0)), (90, .if_icmp .ge 32, 3, (0, 0, 0))]
theorem K92_8 : zRk 92 B92_8 = true := by decide +kernel
def B92_9 : List zRow := [(116, .iinc 7 1, 3, (0, 0, 0)), (119, .goto (-35), 3, (0, 0, 0))]
theorem K92_9 : zRk 92 B92_9 = true := by decide +kernel
def F92_2 (k0 : Int → Int → Int → Int → Int → Int → zHC → Option zHC) (v0 : Int) (v1 : Int) (v2 : Int) (v3 : Int) (v4 : Int) (v7 : Int) (h : zHC) : Option zHC := k0 v0 v1 v2 v3 v4 (wadd v7 1) h
set_option maxRecDepth 100000 in
theorem T92_2 {spec : zRn zH2} {hm : zHM} {o : Int → Int} {d : Nat} (hd : 2 ≤ d) (k0 : Int → Int → Int → Int → Int → Int → zHC → Option zHC) (hk0 : ∀ (v0 : Int) (v1 : Int) (v2 : Int) (v3 : Int) (v4 : Int) (v7 : Int) (h : zHC) (v : zHC), k0 v0 v1 v2 v3 v4 v7 h = some v → zFin 0 (fun _ => 0) (zRu2 spec d) 92 none (v, hm, o) (84, [some (11, v0), some (19, v1), some (0, v2), some (0, v3), some (0, v4), none, none, some (0, v7)], [], (h, hm, o))) (v0 : Int) (v1 : Int) (v2 : Int) (v3 : Int) (v4 : Int) (v7 : Int) (h : zHC) (v : zHC) (e : F92_2 k0 v0 v1 v2 v3 v4 v7 h = some v) : zFin 0 (fun _ => 0) (zRu2 spec d) 92 none (v, hm, o) (116, [some (11, v0), some (19, v1), some (0, v2), some (0, v3), some (0, v4), none, none, some (0, v7)], [], (h, hm, o)) := by
  unfold F92_2 at e
  refine zF_blk (m := []) (d := 0) (b := B92_9) (gs := []) (c' := (84, [some (11, v0), some (19, v1), some (0, v2), some (0, v3), some (0, v4), none, none, some (0, (wadd v7 1))], [], (h, hm, o))) K92_9 rfl trivial ?_
  exact hk0 v0 v1 v2 v3 v4 (wadd v7 1) h _ e
def F92_1 : Nat → Int → Int → Int → Int → Int → Int → zHC → Option zHC
  | 0, _, _, _, _, _, _, _ => none
  | n + 1, v0, v1, v2, v3, v4, v7, h => if (h 578 v1 0) ≤ v7 then some h else if v7 = v3 then F92_2 (F92_1 n) v0 v1 v2 v3 v4 v7 h else (F95 v1 v3 v7 v4 h).bind fun r1 => (F85 v0 v1 v2 v7 r1 h).bind fun r2 => F92_2 (F92_1 n) v0 v1 v2 v3 v4 v7 r2
set_option maxRecDepth 100000 in
theorem T92_1 {spec : zRn zH2} {hm : zHM} {o : Int → Int} {d : Nat} (hd : 2 ≤ d) : ∀ (n : Nat) (v0 : Int) (v1 : Int) (v2 : Int) (v3 : Int) (v4 : Int) (v7 : Int) (h : zHC) (v : zHC), F92_1 n v0 v1 v2 v3 v4 v7 h = some v → zFin 0 (fun _ => 0) (zRu2 spec d) 92 none (v, hm, o) (84, [some (11, v0), some (19, v1), some (0, v2), some (0, v3), some (0, v4), none, none, some (0, v7)], [], (h, hm, o)) := by
  intro n
  induction n with
  | zero => intro v0 v1 v2 v3 v4 v7 h v e; unfold F92_1 at e; cases e
  | succ n hk0 =>
    intro v0 v1 v2 v3 v4 v7 h v e
    unfold F92_1 at e
    rcases zI_s e with ⟨q1, e⟩ | ⟨q1, e⟩
    · refine zF_blk (m := []) (d := 1) (b := B92_8) (gs := [(h 578 v1 0) ≤ v7]) (c' := (122, [some (11, v0), some (19, v1), some (0, v2), some (0, v3), some (0, v4), none, none, some (0, v7)], [], (h, hm, o))) K92_8 rfl ⟨q1, trivial⟩ ?_
      obtain rfl := Option.some.inj e
      exact zF_rv (by decide +kernel)
    · refine zF_blk (m := []) (d := 0) (b := B92_8) (gs := [¬ ((h 578 v1 0) ≤ v7)]) (c' := (93, [some (11, v0), some (19, v1), some (0, v2), some (0, v3), some (0, v4), none, none, some (0, v7)], [], (h, hm, o))) K92_8 rfl ⟨q1, trivial⟩ ?_
      rcases zI_s e with ⟨q2, e⟩ | ⟨q2, e⟩
      · refine zF_blk (m := []) (d := 1) (b := B92_7) (gs := [v7 = v3]) (c' := (116, [some (11, v0), some (19, v1), some (0, v2), some (0, v3), some (0, v4), none, none, some (0, v7)], [], (h, hm, o))) K92_7 rfl ⟨q2, trivial⟩ ?_
        exact T92_2 hd (F92_1 n) hk0 v0 v1 v2 v3 v4 v7 h _ e
      · refine zF_blk (m := []) (d := 0) (b := B92_7) (gs := [¬ (v7 = v3)]) (c' := (99, [some (11, v0), some (19, v1), some (0, v2), some (0, v3), some (0, v4), none, none, some (0, v7)], [], (h, hm, o))) K92_7 rfl ⟨q2, trivial⟩ ?_
        obtain ⟨r1, q3, e⟩ := zB_s e
        refine zF_blk (m := []) (d := 0) (b := B92_6) (gs := []) (c' := (110, [some (11, v0), some (19, v1), some (0, v2), some (0, v3), some (0, v4), none, none, some (0, v7)], [(0, v4), (0, v7), (0, v3), (19, v1), (0, v7), (0, v2), (19, v1), (11, v0)], (h, hm, o))) K92_6 rfl trivial ?_
        refine zF_call (k := 95) (cl := 9) (n := 4) (i := .invokevirtual 135) (args := [(19, v1), (0, v3), (0, v7), (0, v4)]) (rest := [(0, v7), (0, v2), (19, v1), (11, v0)]) (g1 := (h, hm, o)) (r1 := some (0, r1)) (by decide +kernel) rfl rfl rfl (st' := [(0, r1), (0, v7), (0, v2), (19, v1), (11, v0)]) rfl (S95 (Nat.le_trans (by decide) hd) v1 v3 v7 v4 h _ q3) ?_
        obtain ⟨r2, q4, e⟩ := zB_s e
        refine zF_call (k := 85) (cl := 1) (n := 5) (i := .invokevirtual 76) (args := [(11, v0), (19, v1), (0, v2), (0, v7), (0, r1)]) (rest := []) (g1 := (r2, hm, o)) (r1 := none) (by decide +kernel) rfl rfl rfl (st' := []) rfl (S85 (Nat.le_trans (by decide) hd) v0 v1 v2 v7 r1 h _ q4) ?_
        exact T92_2 hd (F92_1 n) hk0 v0 v1 v2 v3 v4 v7 r2 _ e
def F92_0 (v0 : Int) (v1 : Int) (v2 : Int) (v3 : Int) (v4 : Int) (v5 : Int) (v6 : Int) (h : zHC) : Option zHC := zG (0 ≤ (wadd v6 6) ∧ (wadd v6 6) < 240) (zG (0 ≤ (wadd v6 6) ∧ (wadd v6 6) < 240) (zG (0 ≤ (wadd v6 7) ∧ (wadd v6 7) < 240) (zG (0 ≤ (wadd v6 7) ∧ (wadd v6 7) < 240) ((F94 v0 v2 v3 v4 v5 (hset (hset h 70 v0 (wadd v6 6) (wadd (h 70 v0 (wadd v6 6)) 1)) 70 v0 (wadd v6 7) (wor ((hset h 70 v0 (wadd v6 6) (wadd (h 70 v0 (wadd v6 6)) 1)) 70 v0 (wadd v6 7)) v5))).bind fun r1 => F92_1 zFu v0 v1 v2 v3 v4 0 r1))))
set_option maxRecDepth 100000 in
theorem T92_0 {spec : zRn zH2} {hm : zHM} {o : Int → Int} {d : Nat} (hd : 2 ≤ d) (v0 : Int) (v1 : Int) (v2 : Int) (v3 : Int) (v4 : Int) (v5 : Int) (v6 : Int) (h : zHC) (v : zHC) (e : F92_0 v0 v1 v2 v3 v4 v5 v6 h = some v) : zFin 0 (fun _ => 0) (zRu2 spec d) 92 none (v, hm, o) (42, [some (11, v0), some (19, v1), some (0, v2), some (0, v3), some (0, v4), some (0, v5), some (0, v6), none], [], (h, hm, o)) := by
  unfold F92_0 at e
  obtain ⟨q1, e⟩ := zG_s e
  obtain ⟨q1, e⟩ := zG_s e
  obtain ⟨q2, e⟩ := zG_s e
  obtain ⟨q2, e⟩ := zG_s e
  obtain ⟨r1, q3, e⟩ := zB_s e
  refine zF_blk (m := []) (d := 0) (b := B92_4) (gs := [0 ≤ (wadd v6 6) ∧ (wadd v6 6) < 240, 0 ≤ (wadd v6 6) ∧ (wadd v6 6) < 240, 0 ≤ (wadd v6 7) ∧ (wadd v6 7) < 240, 0 ≤ (wadd v6 7) ∧ (wadd v6 7) < 240]) (c' := (78, [some (11, v0), some (19, v1), some (0, v2), some (0, v3), some (0, v4), some (0, v5), some (0, v6), none], [(0, v5), (0, v4), (0, v3), (0, v2), (11, v0)], ((hset (hset h 70 v0 (wadd v6 6) (wadd (h 70 v0 (wadd v6 6)) 1)) 70 v0 (wadd v6 7) (wor ((hset h 70 v0 (wadd v6 6) (wadd (h 70 v0 (wadd v6 6)) 1)) 70 v0 (wadd v6 7)) v5)), hm, o))) K92_4 rfl ⟨q1, q1, q2, q2, trivial⟩ ?_
  refine zF_call (k := 94) (cl := 1) (n := 5) (i := .invokevirtual 131) (args := [(11, v0), (0, v2), (0, v3), (0, v4), (0, v5)]) (rest := []) (g1 := (r1, hm, o)) (r1 := none) (by decide +kernel) rfl rfl rfl (st' := []) rfl (S94 (Nat.le_trans (by decide) hd) v0 v2 v3 v4 v5 (hset (hset h 70 v0 (wadd v6 6) (wadd (h 70 v0 (wadd v6 6)) 1)) 70 v0 (wadd v6 7) (wor ((hset h 70 v0 (wadd v6 6) (wadd (h 70 v0 (wadd v6 6)) 1)) 70 v0 (wadd v6 7)) v5)) _ q3) ?_
  refine zF_blk (m := []) (d := 0) (b := B92_5) (gs := []) (c' := (84, [some (11, v0), some (19, v1), some (0, v2), some (0, v3), some (0, v4), some (0, v5), some (0, v6), some (0, 0)], [], (r1, hm, o))) K92_5 rfl trivial ?_
  refine zF_blk (m := [true, true, true, true, true, false, false, true]) (d := 0) (b := []) (gs := []) (c' := (84, [some (11, v0), some (19, v1), some (0, v2), some (0, v3), some (0, v4), none, none, some (0, 0)], [], (r1, hm, o))) rfl rfl trivial ?_
  exact T92_1 hd zFu v0 v1 v2 v3 v4 0 r1 _ e
/-- EchoVale$Course.sound(LEchoVale$Valley;III)V -/
def F92 (v0 : Int) (v1 : Int) (v2 : Int) (v3 : Int) (v4 : Int) (h : zHC) : Option zHC := if 1 ≤ v4 then (F93 v1 v3 v4 v0 h).bind fun r1 => if r1 = 0 then F92_0 v0 v1 v2 v3 v4 r1 (wmul v2 8) h else zG (0 ≤ (wadd (wmul v2 8) 5) ∧ (wadd (wmul v2 8) 5) < 240) (F92_0 v0 v1 v2 v3 v4 r1 (wmul v2 8) (hset h 70 v0 (wadd (wmul v2 8) 5) r1)) else some h
set_option maxRecDepth 100000 in
theorem S92 {spec : zRn zH2} {hm : zHM} {o : Int → Int} {d : Nat} (hd : 3 ≤ d) (v0 : Int) (v1 : Int) (v2 : Int) (v3 : Int) (v4 : Int) (h : zHC) (v : zHC) (e : F92 v0 v1 v2 v3 v4 h = some v) : zRu2 spec d 92 [(11, v0), (19, v1), (0, v2), (0, v3), (0, v4)] (h, hm, o) none (v, hm, o) := by
  refine zF_in (D := 2) (mx := 8) (L := [some (11, v0), some (19, v1), some (0, v2), some (0, v3), some (0, v4), none, none, none]) (by decide +kernel) rfl rfl hd (fun d hd => ?_)
  unfold F92 at e
  rcases zI_s e with ⟨q1, e⟩ | ⟨q1, e⟩
  · refine zF_blk (m := []) (d := 1) (b := B92_3) (gs := [1 ≤ v4]) (c' := (7, [some (11, v0), some (19, v1), some (0, v2), some (0, v3), some (0, v4), none, none, none], [], (h, hm, o))) K92_3 rfl ⟨q1, trivial⟩ ?_
    obtain ⟨r1, q2, e⟩ := zB_s e
    refine zF_blk (m := []) (d := 0) (b := B92_0) (gs := []) (c' := (15, [some (11, v0), some (19, v1), some (0, v2), some (0, v3), some (0, v4), none, none, none], [(1342184491, v0), (0, v4), (0, v3), (19, v1)], (h, hm, o))) K92_0 rfl trivial ?_
    refine zF_call (k := 93) (cl := 9) (n := 4) (i := .invokevirtual 127) (args := [(19, v1), (0, v3), (0, v4), (1342184491, v0)]) (rest := []) (g1 := (h, hm, o)) (r1 := some (0, r1)) (by decide +kernel) rfl rfl rfl (st' := [(0, r1)]) rfl (S93 (Nat.le_trans (by decide) hd) v1 v3 v4 v0 h _ q2) ?_
    rcases zI_s e with ⟨q3, e⟩ | ⟨q3, e⟩
    · refine zF_blk (m := []) (d := 1) (b := B92_2) (gs := [r1 = 0]) (c' := (42, [some (11, v0), some (19, v1), some (0, v2), some (0, v3), some (0, v4), some (0, r1), some (0, (wmul v2 8)), none], [], (h, hm, o))) K92_2 rfl ⟨q3, trivial⟩ ?_
      exact T92_0 hd v0 v1 v2 v3 v4 r1 (wmul v2 8) h _ e
    · refine zF_blk (m := []) (d := 0) (b := B92_2) (gs := [¬ (r1 = 0)]) (c' := (31, [some (11, v0), some (19, v1), some (0, v2), some (0, v3), some (0, v4), some (0, r1), some (0, (wmul v2 8)), none], [], (h, hm, o))) K92_2 rfl ⟨q3, trivial⟩ ?_
      obtain ⟨q4, e⟩ := zG_s e
      refine zF_blk (m := []) (d := 0) (b := B92_1) (gs := [0 ≤ (wadd (wmul v2 8) 5) ∧ (wadd (wmul v2 8) 5) < 240]) (c' := (42, [some (11, v0), some (19, v1), some (0, v2), some (0, v3), some (0, v4), some (0, r1), some (0, (wmul v2 8)), none], [], ((hset h 70 v0 (wadd (wmul v2 8) 5) r1), hm, o))) K92_1 rfl ⟨q4, trivial⟩ ?_
      exact T92_0 hd v0 v1 v2 v3 v4 r1 (wmul v2 8) (hset h 70 v0 (wadd (wmul v2 8) 5) r1) _ e
  · refine zF_blk (m := []) (d := 0) (b := B92_3) (gs := [¬ (1 ≤ v4)]) (c' := (6, [some (11, v0), some (19, v1), some (0, v2), some (0, v3), some (0, v4), none, none, none], [], (h, hm, o))) K92_3 rfl ⟨q1, trivial⟩ ?_
    obtain rfl := Option.some.inj e
    exact zF_rv (by decide +kernel)
