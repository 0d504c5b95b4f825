/-! Functions of the methods, by wip/gen/lift.py. -/
def B156_0 : List zRow := [(15, .iconst (-1), 1, (0, 0, 0))]
theorem K156_0 : zRk 156 B156_0 = true := by decide +kernel
def B156_1 : List zRow := [(17, .iconst 0, 1, (0, 0, 0)), (18, .istore_n 2, 1, (0, 0, 0)), (19, .iconst 0, 1, (0, 0, 0)), (20, .istore_n 3, 1, (0, 0, 0))]
theorem K156_1 : zRk 156 B156_1 = true := by decide +kernel
def B156_2 : List zRow := [(10, .iload_n 1, 1, (0, 0, 0)), (11, .iconst (-1), 1, (0, 0, 0)), (12, .if_icmp .ge 5, 3, (0, 0, 0))]
theorem K156_2 : zRk 156 B156_2 = true := by decide +kernel
def B156_3 : List zRow := [(0, .aload_n 0, 1, (0, 0, 0)), (1, .getfield 42, 3, (11, 4, 27)), (4, .getfield 351, 3, (6, 0, 0)), (7, .ifCond .eq 8, 3, (0, 0, 0))]
theorem K156_3 : zRk 156 B156_3 = true := by decide +kernel
def B156_4 : List zRow := [(72, .iconst (-1), 1, (0, 0, 0))]
theorem K156_4 : zRk 156 B156_4 = true := by decide +kernel
def B156_5 : List zRow := [(68, .iload_n 2, 1, (0, 0, 0)), (69, .goto 4, 3, (0, 0, 0))]
theorem K156_5 : zRk 156 B156_5 = true := by decide +kernel
def B156_6 : List zRow := [(63, .iload_n 1, 1, (0, 0, 0)), (64, .iconst (-1), 1, (0, 0, 0)), (65, .if_icmp .ne 7, 3, (0, 0, 0))]
theorem K156_6 : zRk 156 B156_6 = true := by decide +kernel
def B156_7 : List zRow := [(32, .aload_n 0, 1, (0, 0, 0)), (33, .getfield 42, 3, (11, 4, 27)), (36, .aload_n 0, 1, (0, 0, 0)), (37, .getfield 56, 3, (11, 6, 7)), (40, .iload_n 3, 1, (0, 0, 0))]
theorem K156_7 : zRk 156 B156_7 = true := by decide +kernel
def B156_8 : List zRow := [(54, .iinc 2 1, 3, (0, 0, 0))]
theorem K156_8 : zRk 156 B156_8 = true := by decide +kernel
def B156_9 : List zRow := [(52, .iload_n 3, 1, (0, 0, 0))]
theorem K156_9 : zRk 156 B156_9 = true := by decide +kernel
def B156_10 : List zRow := [(47, .iload_n 2, 1, (0, 0, 0)), (48, .iload_n 1, 1, (0, 0, 0)), (49, .if_icmp .ne 5, 3, (0, 0, 0))]
theorem K156_10 : zRk 156 B156_10 = true := by decide +kernel
def B156_11 : List zRow := [(44, .ifCond .eq 13, 3, (0, 0, 0))]
theorem K156_11 : zRk 156 B156_11 = true := by decide +kernel
def B156_12 : List zRow := [(21, .iload_n 3, 1, (0, 0, 0)), (22, .aload_n 0, 1, (0, 0, 0)), (23, .getfield 56, 3, (11, 6, 7)), (26, .getfield 354, 3, (1, 1, 0)), (29, .if_icmp .ge 34, 3, (0, 0, 0))]
theorem K156_12 : zRk 156 B156_12 = true := by decide +kernel
def B156_13 : List zRow := [(57, .iinc 3 1, 3, (0, 0, 0)), (60, .goto (-39), 3, (0, 0, 0))]
theorem K156_13 : zRk 156 B156_13 = true := by decide +kernel
def F156_1 (k0 : Int → Int → Int → zHC → Option (Int × zHC)) (v1 : Int) (v2 : Int) (v3 : Int) (h : zHC) : Option (Int × zHC) := k0 v1 v2 (wadd v3 1) h
set_option maxRecDepth 100000 in
theorem T156_1 {spec : zRn zH2} {hm : zHM} {o : Int → Int} {d : Nat} (hd : 3 ≤ d) (k0 : Int → Int → Int → zHC → Option (Int × zHC)) (hk0 : ∀ (v1 : Int) (v2 : Int) (v3 : Int) (h : zHC) (v : (Int × zHC)), k0 v1 v2 v3 h = some v → zFin 0 (fun _ => 0) (zRu2 spec d) 156 (some (0, v.1)) (v.2, hm, o) (21, [some (21, 0), some (0, v1), some (0, v2), some (0, v3)], [], (h, hm, o))) (v1 : Int) (v2 : Int) (v3 : Int) (h : zHC) (v : (Int × zHC)) (e : F156_1 k0 v1 v2 v3 h = some v) : zFin 0 (fun _ => 0) (zRu2 spec d) 156 (some (0, v.1)) (v.2, hm, o) (57, [some (21, 0), some (0, v1), some (0, v2), some (0, v3)], [], (h, hm, o)) := by
  unfold F156_1 at e
  refine zF_blk (m := []) (d := 0) (b := B156_13) (gs := []) (c' := (21, [some (21, 0), some (0, v1), some (0, v2), some (0, (wadd v3 1))], [], (h, hm, o))) K156_13 rfl trivial ?_
  exact hk0 v1 v2 (wadd v3 1) h _ e
def F156_0 : Nat → Int → Int → Int → zHC → Option (Int × zHC)
  | 0, _, _, _, _ => none
  | n + 1, v1, v2, v3, h => if (h 65 0 0) ≤ v3 then if ¬ v1 = (-1) then some ((-1), h) else some (v2, h) else (F157 0 0 v3 h).bind fun r1 => if r1.1 = 0 then F156_1 (F156_0 n) v1 v2 v3 r1.2 else if ¬ v2 = v1 then F156_1 (F156_0 n) v1 (wadd v2 1) v3 r1.2 else some (v3, r1.2)
set_option maxRecDepth 100000 in
theorem T156_0 {spec : zRn zH2} {hm : zHM} {o : Int → Int} {d : Nat} (hd : 3 ≤ d) : ∀ (n : Nat) (v1 : Int) (v2 : Int) (v3 : Int) (h : zHC) (v : (Int × zHC)), F156_0 n v1 v2 v3 h = some v → zFin 0 (fun _ => 0) (zRu2 spec d) 156 (some (0, v.1)) (v.2, hm, o) (21, [some (21, 0), some (0, v1), some (0, v2), some (0, v3)], [], (h, hm, o)) := by
  intro n
  induction n with
  | zero => intro v1 v2 v3 h v e; unfold F156_0 at e; cases e
  | succ n hk0 =>
    intro v1 v2 v3 h v e
    unfold F156_0 at e
    rcases zI_s e with ⟨q1, e⟩ | ⟨q1, e⟩
    · refine zF_blk (m := []) (d := 1) (b := B156_12) (gs := [(h 65 0 0) ≤ v3]) (c' := (63, [some (21, 0), some (0, v1), some (0, v2), some (0, v3)], [], (h, hm, o))) K156_12 rfl ⟨q1, trivial⟩ ?_
      rcases zI_s e with ⟨q2, e⟩ | ⟨q2, e⟩
      · refine zF_blk (m := []) (d := 1) (b := B156_6) (gs := [¬ v1 = (-1)]) (c' := (72, [some (21, 0), some (0, v1), some (0, v2), some (0, v3)], [], (h, hm, o))) K156_6 rfl ⟨q2, trivial⟩ ?_
        refine zF_blk (m := []) (d := 0) (b := B156_4) (gs := []) (c' := (73, [some (21, 0), some (0, v1), some (0, v2), some (0, v3)], [(0, (-1))], (h, hm, o))) K156_4 rfl trivial ?_
        exact zF_riC (by decide +kernel) e
      · refine zF_blk (m := []) (d := 0) (b := B156_6) (gs := [¬ (¬ v1 = (-1))]) (c' := (68, [some (21, 0), some (0, v1), some (0, v2), some (0, v3)], [], (h, hm, o))) K156_6 rfl ⟨q2, trivial⟩ ?_
        refine zF_blk (m := []) (d := 0) (b := B156_5) (gs := []) (c' := (73, [some (21, 0), some (0, v1), some (0, v2), some (0, v3)], [(0, v2)], (h, hm, o))) K156_5 rfl trivial ?_
        exact zF_riC (by decide +kernel) e
    · refine zF_blk (m := []) (d := 0) (b := B156_12) (gs := [¬ ((h 65 0 0) ≤ v3)]) (c' := (32, [some (21, 0), some (0, v1), some (0, v2), some (0, v3)], [], (h, hm, o))) K156_12 rfl ⟨q1, trivial⟩ ?_
      obtain ⟨r1, q3, e⟩ := zB_s e
      refine zF_blk (m := []) (d := 0) (b := B156_7) (gs := []) (c' := (41, [some (21, 0), some (0, v1), some (0, v2), some (0, v3)], [(0, v3), (11, 0), (16, 0)], (h, hm, o))) K156_7 rfl trivial ?_
      refine zF_call (k := 157) (cl := 6) (n := 3) (i := .invokevirtual 355) (args := [(16, 0), (11, 0), (0, v3)]) (rest := []) (g1 := (r1.2, hm, o)) (r1 := some (0, r1.1)) (by decide +kernel) rfl rfl rfl (st' := [(0, r1.1)]) rfl (S157 (Nat.le_trans (by decide) hd) 0 0 v3 h _ q3) ?_
      rcases zI_s e with ⟨q4, e⟩ | ⟨q4, e⟩
      · refine zF_blk (m := []) (d := 1) (b := B156_11) (gs := [r1.1 = 0]) (c' := (57, [some (21, 0), some (0, v1), some (0, v2), some (0, v3)], [], (r1.2, hm, o))) K156_11 rfl ⟨q4, trivial⟩ ?_
        exact T156_1 hd (F156_0 n) hk0 v1 v2 v3 r1.2 _ e
      · refine zF_blk (m := []) (d := 0) (b := B156_11) (gs := [¬ (r1.1 = 0)]) (c' := (47, [some (21, 0), some (0, v1), some (0, v2), some (0, v3)], [], (r1.2, hm, o))) K156_11 rfl ⟨q4, trivial⟩ ?_
        rcases zI_s e with ⟨q5, e⟩ | ⟨q5, e⟩
        · refine zF_blk (m := []) (d := 1) (b := B156_10) (gs := [¬ v2 = v1]) (c' := (54, [some (21, 0), some (0, v1), some (0, v2), some (0, v3)], [], (r1.2, hm, o))) K156_10 rfl ⟨q5, trivial⟩ ?_
          refine zF_blk (m := []) (d := 0) (b := B156_8) (gs := []) (c' := (57, [some (21, 0), some (0, v1), some (0, (wadd v2 1)), some (0, v3)], [], (r1.2, hm, o))) K156_8 rfl trivial ?_
          exact T156_1 hd (F156_0 n) hk0 v1 (wadd v2 1) v3 r1.2 _ e
        · refine zF_blk (m := []) (d := 0) (b := B156_10) (gs := [¬ (¬ v2 = v1)]) (c' := (52, [some (21, 0), some (0, v1), some (0, v2), some (0, v3)], [], (r1.2, hm, o))) K156_10 rfl ⟨q5, trivial⟩ ?_
          refine zF_blk (m := []) (d := 0) (b := B156_9) (gs := []) (c' := (53, [some (21, 0), some (0, v1), some (0, v2), some (0, v3)], [(0, v3)], (r1.2, hm, o))) K156_9 rfl trivial ?_
          exact zF_riC (by decide +kernel) e
/-- EchoVale.said(I)I -/
def F156 (v1 : Int) (h : zHC) : Option (Int × zHC) := if (h 384 0 0) = 0 then some ((-1), h) else if (-1) ≤ v1 then F156_0 zFu v1 0 0 h else some ((-1), h)
set_option maxRecDepth 100000 in
theorem S156 {spec : zRn zH2} {hm : zHM} {o : Int → Int} {d : Nat} (hd : 4 ≤ d) (v1 : Int) (h : zHC) (v : (Int × zHC)) (e : F156 v1 h = some v) : zRu2 spec d 156 [(21, 0), (0, v1)] (h, hm, o) (some (0, v.1)) (v.2, hm, o) := by
  refine zF_in (D := 3) (mx := 4) (L := [some (21, 0), some (0, v1), none, none]) (by decide +kernel) rfl rfl hd (fun d hd => ?_)
  unfold F156 at e
  rcases zI_s e with ⟨q1, e⟩ | ⟨q1, e⟩
  · refine zF_blk (m := []) (d := 1) (b := B156_3) (gs := [(h 384 0 0) = 0]) (c' := (15, [some (21, 0), some (0, v1), none, none], [], (h, hm, o))) K156_3 rfl ⟨q1, trivial⟩ ?_
    refine zF_blk (m := []) (d := 0) (b := B156_0) (gs := []) (c' := (16, [some (21, 0), some (0, v1), none, none], [(0, (-1))], (h, hm, o))) K156_0 rfl trivial ?_
    exact zF_riC (by decide +kernel) e
  · refine zF_blk (m := []) (d := 0) (b := B156_3) (gs := [¬ ((h 384 0 0) = 0)]) (c' := (10, [some (21, 0), some (0, v1), none, none], [], (h, hm, o))) K156_3 rfl ⟨q1, trivial⟩ ?_
    rcases zI_s e with ⟨q2, e⟩ | ⟨q2, e⟩
    · refine zF_blk (m := []) (d := 1) (b := B156_2) (gs := [(-1) ≤ v1]) (c' := (17, [some (21, 0), some (0, v1), none, none], [], (h, hm, o))) K156_2 rfl ⟨q2, trivial⟩ ?_
      refine zF_blk (m := []) (d := 0) (b := B156_1) (gs := []) (c' := (21, [some (21, 0), some (0, v1), some (0, 0), some (0, 0)], [], (h, hm, o))) K156_1 rfl trivial ?_
      exact T156_0 hd zFu v1 0 0 h _ e
    · refine zF_blk (m := []) (d := 0) (b := B156_2) (gs := [¬ ((-1) ≤ v1)]) (c' := (15, [some (21, 0), some (0, v1), none, none], [], (h, hm, o))) K156_2 rfl ⟨q2, trivial⟩ ?_
      refine zF_blk (m := []) (d := 0) (b := B156_0) (gs := []) (c' := (16, [some (21, 0), some (0, v1), none, none], [(0, (-1))], (h, hm, o))) K156_0 rfl trivial ?_
      exact zF_riC (by decide +kernel) e
def B291_0 : List zRow := [(0, .aload_n 0, 1, (0, 0, 0)), (1, .iload_n 1, 1, (0, 0, 0)), (2, .bipush 6, 2, (0, 0, 0))]
theorem K291_0 : zRk 291 B291_0 = true := by decide +kernel
def B291_1 : List zRow := [(12, .iconst 0, 1, (0, 0, 0)), (13, .istore_n 2, 1, (0, 0, 0))]
theorem K291_1 : zRk 291 B291_1 = true := by decide +kernel
def B291_2 : List zRow := [(10, .iconst 0, 1, (0, 0, 0))]
theorem K291_2 : zRk 291 B291_2 = true := by decide +kernel
def B291_3 : List zRow := [(7, .ifCond .le 5, 3, (0, 0, 0))]
theorem K291_3 : zRk 291 B291_3 = true := by decide +kernel
def B291_4 : List zRow := [(52, .iconst 1, 1, (0, 0, 0))]
theorem K291_4 : zRk 291 B291_4 = true := by decide +kernel
def B291_5 : List zRow := [(24, .aload_n 0, 1, (0, 0, 0)), (25, .iload_n 1, 1, (0, 0, 0)), (26, .iload_n 2, 1, (0, 0, 0)), (27, .iconst 0, 1, (0, 0, 0))]
theorem K291_5 : zRk 291 B291_5 = true := by decide +kernel
def B291_6 : List zRow := [(34, .aload_n 0, 1, (0, 0, 0)), (35, .iload_n 1, 1, (0, 0, 0)), (36, .iload_n 2, 1, (0, 0, 0)), (37, .iconst 2, 1, (0, 0, 0))]
theorem K291_6 : zRk 291 B291_6 = true := by decide +kernel
def B291_7 : List zRow := [(44, .iconst 0, 1, (0, 0, 0))]
theorem K291_7 : zRk 291 B291_7 = true := by decide +kernel
def B291_8 : List zRow := [(41, .ifCond .ne 5, 3, (0, 0, 0))]
theorem K291_8 : zRk 291 B291_8 = true := by decide +kernel
def B291_9 : List zRow := [(31, .ifCond .le 15, 3, (0, 0, 0))]
theorem K291_9 : zRk 291 B291_9 = true := by decide +kernel
def B291_10 : List zRow := [(14, .iload_n 2, 1, (0, 0, 0)), (15, .aload_n 0, 1, (0, 0, 0)), (16, .getfield 13, 3, (12, 14, 5251442)), (19, .iconst 2, 1, (0, 0, 0)), (20, .iaload, 1, (0, 0, 0)), (21, .if_icmp .ge 31, 3, (0, 0, 0))]
theorem K291_10 : zRk 291 B291_10 = true := by decide +kernel
def B291_11 : List zRow := [(46, .iinc 2 1, 3, (0, 0, 0)), (49, .goto (-35), 3, (0, 0, 0))]
theorem K291_11 : zRk 291 B291_11 = true := by decide +kernel
def F291_1 (k0 : Int → Int → Option Int) (h : zHM) (v1 : Int) (v2 : Int) : Option Int := k0 v1 (wadd v2 1)
set_option maxRecDepth 100000 in
theorem T291_1 {spec : zRn zH2} {hc : zHC} {o : Int → Int} {d : Nat} (hd : 1 ≤ d) (h : zHM) (k0 : Int → Int → Option Int) (hk0 : ∀ (v1 : Int) (v2 : Int) (v : Int), k0 v1 v2 = some v → zFin 0 (fun _ => 0) (zRu2 spec d) 291 (some (0, v)) (hc, h, o) (14, [some (22, 0), some (0, v1), some (0, v2)], [], (hc, h, o))) (v1 : Int) (v2 : Int) (v : Int) (e : F291_1 k0 h v1 v2 = some v) : zFin 0 (fun _ => 0) (zRu2 spec d) 291 (some (0, v)) (hc, h, o) (46, [some (22, 0), some (0, v1), some (0, v2)], [], (hc, h, o)) := by
  unfold F291_1 at e
  refine zF_blk (m := []) (d := 0) (b := B291_11) (gs := []) (c' := (14, [some (22, 0), some (0, v1), some (0, (wadd v2 1))], [], (hc, h, o))) K291_11 rfl trivial ?_
  exact hk0 v1 (wadd v2 1) _ e
def F291_0 (h : zHM) : Nat → Int → Int → Option Int
  | 0, _, _ => none
  | n + 1, v1, v2 => if (h 14 2) ≤ v2 then some 1 else (F219 v1 v2 0 h).bind fun r1 => if r1 ≤ 0 then F291_1 (F291_0 h n) h v1 v2 else (F219 v1 v2 2 h).bind fun r2 => if ¬ r2 = 0 then F291_1 (F291_0 h n) h v1 v2 else some 0
set_option maxRecDepth 100000 in
theorem T291_0 {spec : zRn zH2} {hc : zHC} {o : Int → Int} {d : Nat} (hd : 1 ≤ d) (h : zHM) : ∀ (n : Nat) (v1 : Int) (v2 : Int) (v : Int), F291_0 h n v1 v2 = some v → zFin 0 (fun _ => 0) (zRu2 spec d) 291 (some (0, v)) (hc, h, o) (14, [some (22, 0), some (0, v1), some (0, v2)], [], (hc, h, o)) := by
  intro n
  induction n with
  | zero => intro v1 v2 v e; unfold F291_0 at e; cases e
  | succ n hk0 =>
    intro v1 v2 v e
    unfold F291_0 at e
    rcases zI_s e with ⟨q1, e⟩ | ⟨q1, e⟩
    · refine zF_blk (m := []) (d := 1) (b := B291_10) (gs := [0 ≤ 2 ∧ 2 < 2140, (h 14 2) ≤ v2]) (c' := (52, [some (22, 0), some (0, v1), some (0, v2)], [], (hc, h, o))) K291_10 rfl ⟨by decide, q1, trivial⟩ ?_
      refine zF_blk (m := []) (d := 0) (b := B291_4) (gs := []) (c' := (53, [some (22, 0), some (0, v1), some (0, v2)], [(0, 1)], (hc, h, o))) K291_4 rfl trivial ?_
      obtain rfl := Option.some.inj e
      exact zF_rb (by decide +kernel) (Or.inr rfl)
    · refine zF_blk (m := []) (d := 0) (b := B291_10) (gs := [0 ≤ 2 ∧ 2 < 2140, ¬ ((h 14 2) ≤ v2)]) (c' := (24, [some (22, 0), some (0, v1), some (0, v2)], [], (hc, h, o))) K291_10 rfl ⟨by decide, q1, trivial⟩ ?_
      obtain ⟨r1, q2, e⟩ := zB_s e
      refine zF_blk (m := []) (d := 0) (b := B291_5) (gs := []) (c' := (28, [some (22, 0), some (0, v1), some (0, v2)], [(0, 0), (0, v2), (0, v1), (22, 0)], (hc, h, o))) K291_5 rfl trivial ?_
      refine zF_call (k := 219) (cl := 12) (n := 4) (i := .invokevirtual 269) (args := [(22, 0), (0, v1), (0, v2), (0, 0)]) (rest := []) (g1 := (hc, h, o)) (r1 := some (0, r1)) (by decide +kernel) rfl rfl rfl (st' := [(0, r1)]) rfl (S219 (Nat.le_trans (by decide) hd) v1 v2 0 h _ q2) ?_
      rcases zI_s e with ⟨q3, e⟩ | ⟨q3, e⟩
      · refine zF_blk (m := []) (d := 1) (b := B291_9) (gs := [r1 ≤ 0]) (c' := (46, [some (22, 0), some (0, v1), some (0, v2)], [], (hc, h, o))) K291_9 rfl ⟨q3, trivial⟩ ?_
        exact T291_1 hd h (F291_0 h n) hk0 v1 v2 _ e
      · refine zF_blk (m := []) (d := 0) (b := B291_9) (gs := [¬ (r1 ≤ 0)]) (c' := (34, [some (22, 0), some (0, v1), some (0, v2)], [], (hc, h, o))) K291_9 rfl ⟨q3, trivial⟩ ?_
        obtain ⟨r2, q4, e⟩ := zB_s e
        refine zF_blk (m := []) (d := 0) (b := B291_6) (gs := []) (c' := (38, [some (22, 0), some (0, v1), some (0, v2)], [(0, 2), (0, v2), (0, v1), (22, 0)], (hc, h, o))) K291_6 rfl trivial ?_
        refine zF_call (k := 219) (cl := 12) (n := 4) (i := .invokevirtual 269) (args := [(22, 0), (0, v1), (0, v2), (0, 2)]) (rest := []) (g1 := (hc, h, o)) (r1 := some (0, r2)) (by decide +kernel) rfl rfl rfl (st' := [(0, r2)]) rfl (S219 (Nat.le_trans (by decide) hd) v1 v2 2 h _ q4) ?_
        rcases zI_s e with ⟨q5, e⟩ | ⟨q5, e⟩
        · refine zF_blk (m := []) (d := 1) (b := B291_8) (gs := [¬ r2 = 0]) (c' := (46, [some (22, 0), some (0, v1), some (0, v2)], [], (hc, h, o))) K291_8 rfl ⟨q5, trivial⟩ ?_
          exact T291_1 hd h (F291_0 h n) hk0 v1 v2 _ e
        · refine zF_blk (m := []) (d := 0) (b := B291_8) (gs := [¬ (¬ r2 = 0)]) (c' := (44, [some (22, 0), some (0, v1), some (0, v2)], [], (hc, h, o))) K291_8 rfl ⟨q5, trivial⟩ ?_
          refine zF_blk (m := []) (d := 0) (b := B291_7) (gs := []) (c' := (45, [some (22, 0), some (0, v1), some (0, v2)], [(0, 0)], (hc, h, o))) K291_7 rfl trivial ?_
          obtain rfl := Option.some.inj e
          exact zF_rb (by decide +kernel) (Or.inl rfl)
/-- EchoValeModel.isLost(I)Z -/
def F291 (v1 : Int) (h : zHM) : Option Int := (F213 v1 6 h).bind fun r1 => if r1 ≤ 0 then F291_0 h zFu v1 0 else some 0
set_option maxRecDepth 100000 in
theorem S291 {spec : zRn zH2} {hc : zHC} {o : Int → Int} {d : Nat} (hd : 2 ≤ d) (v1 : Int) (h : zHM) (v : Int) (e : F291 v1 h = some v) : zRu2 spec d 291 [(22, 0), (0, v1)] (hc, h, o) (some (0, v)) (hc, h, o) := by
  refine zF_in (D := 1) (mx := 3) (L := [some (22, 0), some (0, v1), none]) (by decide +kernel) rfl rfl hd (fun d hd => ?_)
  unfold F291 at e
  obtain ⟨r1, q1, e⟩ := zB_s e
  refine zF_blk (m := []) (d := 0) (b := B291_0) (gs := []) (c' := (4, [some (22, 0), some (0, v1), none], [(0, 6), (0, v1), (22, 0)], (hc, h, o))) K291_0 rfl trivial ?_
  refine zF_call (k := 213) (cl := 12) (n := 3) (i := .invokevirtual 247) (args := [(22, 0), (0, v1), (0, 6)]) (rest := []) (g1 := (hc, h, o)) (r1 := some (0, r1)) (by decide +kernel) rfl rfl rfl (st' := [(0, r1)]) rfl (S213 (Nat.le_trans (by decide) hd) v1 6 h _ q1) ?_
  rcases zI_s e with ⟨q2, e⟩ | ⟨q2, e⟩
  · refine zF_blk (m := []) (d := 1) (b := B291_3) (gs := [r1 ≤ 0]) (c' := (12, [some (22, 0), some (0, v1), none], [], (hc, h, o))) K291_3 rfl ⟨q2, trivial⟩ ?_
    refine zF_blk (m := []) (d := 0) (b := B291_1) (gs := []) (c' := (14, [some (22, 0), some (0, v1), some (0, 0)], [], (hc, h, o))) K291_1 rfl trivial ?_
    exact T291_0 hd h zFu v1 0 _ e
  · refine zF_blk (m := []) (d := 0) (b := B291_3) (gs := [¬ (r1 ≤ 0)]) (c' := (10, [some (22, 0), some (0, v1), none], [], (hc, h, o))) K291_3 rfl ⟨q2, trivial⟩ ?_
    refine zF_blk (m := []) (d := 0) (b := B291_2) (gs := []) (c' := (11, [some (22, 0), some (0, v1), none], [(0, 0)], (hc, h, o))) K291_2 rfl trivial ?_
    obtain rfl := Option.some.inj e
    exact zF_rb (by decide +kernel) (Or.inl rfl)
def B290_0 : List zRow := [(0, .sipush 1900, 3, (0, 0, 0)), (3, .iconst 4, 1, (0, 0, 0)), (4, .iload_n 1, 1, (0, 0, 0))]
theorem K290_0 : zRk 290 B290_0 = true := by decide +kernel
def B290_1 : List zRow := [(5, .imul, 1, (0, 0, 0))]
theorem K290_1 : zRk 290 B290_1 = true := by decide +kernel
def B290_2 : List zRow := [(100, .aload_n 0, 1, (0, 0, 0)), (101, .iload 4, 2, (0, 0, 0)), (103, .iload_n 2, 1, (0, 0, 0))]
theorem K290_2 : zRk 290 B290_2 = true := by decide +kernel
def B290_3 : List zRow := [(114, .iconst 0, 1, (0, 0, 0))]
theorem K290_3 : zRk 290 B290_3 = true := by decide +kernel
def B290_4 : List zRow := [(110, .iconst 1, 1, (0, 0, 0)), (111, .goto 4, 3, (0, 0, 0))]
theorem K290_4 : zRk 290 B290_4 = true := by decide +kernel
def B290_5 : List zRow := [(107, .ifCond .ne 7, 3, (0, 0, 0))]
theorem K290_5 : zRk 290 B290_5 = true := by decide +kernel
def B290_6 : List zRow := [(6, .iadd, 1, (0, 0, 0)), (7, .istore_n 3, 1, (0, 0, 0)), (8, .aload_n 0, 1, (0, 0, 0)), (9, .getfield 13, 3, (12, 14, 5251442)), (12, .iload_n 3, 1, (0, 0, 0)), (13, .iconst 1, 1, (0, 0, 0)), (14, .iadd, 1, (0, 0, 0)), (15, .iaload, 1, (0, 0, 0)), (16, .istore 4, 2, (0, 0, 0)), (18, .aload_n 0, 1, (0, 0, 0)), (19, .getfield 13, 3, (12, 14, 5251442)), (22, .iload_n 3, 1, (0, 0, 0)), (23, .iconst 2, 1, (0, 0, 0)), (24, .iadd, 1, (0, 0, 0)), (25, .iaload, 1, (0, 0, 0)), (26, .istore 5, 2, (0, 0, 0)), (28, .aload_n 0, 1, (0, 0, 0)), (29, .getfield 13, 3, (12, 14, 5251442)), (32, .iload_n 3, 1, (0, 0, 0)), (33, .iaload, 1, (0, 0, 0)), (34, .lookupswitch 188 #[(1, 66), (2, 82), (3, 108), (63, 134), (64, 140), (65, 159), (66, 171)], 66, (0, 0, 0))]
theorem K290_6 : zRk 290 B290_6 = true := by decide +kernel
def B290_7 : List zRow := [(116, .aload_n 0, 1, (0, 0, 0)), (117, .iload 4, 2, (0, 0, 0)), (119, .iload_n 2, 1, (0, 0, 0))]
theorem K290_7 : zRk 290 B290_7 = true := by decide +kernel
def B290_8 : List zRow := [(140, .iconst 0, 1, (0, 0, 0))]
theorem K290_8 : zRk 290 B290_8 = true := by decide +kernel
def B290_9 : List zRow := [(126, .aload_n 0, 1, (0, 0, 0)), (127, .iload 5, 2, (0, 0, 0)), (129, .iload_n 2, 1, (0, 0, 0))]
theorem K290_9 : zRk 290 B290_9 = true := by decide +kernel
def B290_10 : List zRow := [(136, .iconst 1, 1, (0, 0, 0)), (137, .goto 4, 3, (0, 0, 0))]
theorem K290_10 : zRk 290 B290_10 = true := by decide +kernel
def B290_11 : List zRow := [(133, .ifCond .eq 7, 3, (0, 0, 0))]
theorem K290_11 : zRk 290 B290_11 = true := by decide +kernel
def B290_12 : List zRow := [(123, .ifCond .eq 17, 3, (0, 0, 0))]
theorem K290_12 : zRk 290 B290_12 = true := by decide +kernel
def B290_13 : List zRow := [(142, .aload_n 0, 1, (0, 0, 0)), (143, .iload 4, 2, (0, 0, 0)), (145, .iload_n 2, 1, (0, 0, 0))]
theorem K290_13 : zRk 290 B290_13 = true := by decide +kernel
def B290_14 : List zRow := [(152, .aload_n 0, 1, (0, 0, 0)), (153, .iload 5, 2, (0, 0, 0)), (155, .iload_n 2, 1, (0, 0, 0))]
theorem K290_14 : zRk 290 B290_14 = true := by decide +kernel
def B290_15 : List zRow := [(166, .iconst 0, 1, (0, 0, 0))]
theorem K290_15 : zRk 290 B290_15 = true := by decide +kernel
def B290_16 : List zRow := [(159, .ifCond .eq 7, 3, (0, 0, 0))]
theorem K290_16 : zRk 290 B290_16 = true := by decide +kernel
def B290_17 : List zRow := [(149, .ifCond .ne 13, 3, (0, 0, 0))]
theorem K290_17 : zRk 290 B290_17 = true := by decide +kernel
def B290_18 : List zRow := [(168, .aload_n 0, 1, (0, 0, 0)), (169, .iload_n 2, 1, (0, 0, 0))]
theorem K290_18 : zRk 290 B290_18 = true := by decide +kernel
def B290_19 : List zRow := [(174, .aload_n 0, 1, (0, 0, 0)), (175, .iload_n 2, 1, (0, 0, 0)), (176, .iconst 5, 1, (0, 0, 0))]
theorem K290_19 : zRk 290 B290_19 = true := by decide +kernel
def B290_20 : List zRow := [(191, .iconst 0, 1, (0, 0, 0))]
theorem K290_20 : zRk 290 B290_20 = true := by decide +kernel
def B290_21 : List zRow := [(187, .iconst 1, 1, (0, 0, 0)), (188, .goto 4, 3, (0, 0, 0))]
theorem K290_21 : zRk 290 B290_21 = true := by decide +kernel
def B290_22 : List zRow := [(183, .iconst 1, 1, (0, 0, 0)), (184, .if_icmp .le 7, 3, (0, 0, 0))]
theorem K290_22 : zRk 290 B290_22 = true := by decide +kernel
def B290_23 : List zRow := [(193, .aload_n 0, 1, (0, 0, 0)), (194, .iload_n 2, 1, (0, 0, 0)), (195, .iconst 5, 1, (0, 0, 0))]
theorem K290_23 : zRk 290 B290_23 = true := by decide +kernel
def B290_24 : List zRow := [(199, .iload 4, 2, (0, 0, 0))]
theorem K290_24 : zRk 290 B290_24 = true := by decide +kernel
def B290_25 : List zRow := [(205, .aload_n 0, 1, (0, 0, 0)), (206, .iload_n 2, 1, (0, 0, 0)), (207, .iconst 1, 1, (0, 0, 0))]
theorem K290_25 : zRk 290 B290_25 = true := by decide +kernel
def B290_26 : List zRow := [(220, .iconst 0, 1, (0, 0, 0))]
theorem K290_26 : zRk 290 B290_26 = true := by decide +kernel
def B290_27 : List zRow := [(216, .iconst 1, 1, (0, 0, 0)), (217, .goto 4, 3, (0, 0, 0))]
theorem K290_27 : zRk 290 B290_27 = true := by decide +kernel
def B290_28 : List zRow := [(211, .iload 4, 2, (0, 0, 0)), (213, .if_icmp .ne 7, 3, (0, 0, 0))]
theorem K290_28 : zRk 290 B290_28 = true := by decide +kernel
def B290_29 : List zRow := [(268, .bipush 6, 2, (0, 0, 0))]
theorem K290_29 : zRk 290 B290_29 = true := by decide +kernel
def B290_30 : List zRow := [(264, .iconst 2, 1, (0, 0, 0)), (265, .goto 5, 3, (0, 0, 0))]
theorem K290_30 : zRk 290 B290_30 = true := by decide +kernel
def B290_31 : List zRow := [(257, .iload 6, 2, (0, 0, 0)), (259, .bipush 19, 2, (0, 0, 0)), (261, .if_icmp .ne 7, 3, (0, 0, 0))]
theorem K290_31 : zRk 290 B290_31 = true := by decide +kernel
def B290_32 : List zRow := [(253, .iconst 4, 1, (0, 0, 0)), (254, .goto 16, 3, (0, 0, 0))]
theorem K290_32 : zRk 290 B290_32 = true := by decide +kernel
def B290_33 : List zRow := [(246, .iload 6, 2, (0, 0, 0)), (248, .bipush 18, 2, (0, 0, 0)), (250, .if_icmp .ne 7, 3, (0, 0, 0))]
theorem K290_33 : zRk 290 B290_33 = true := by decide +kernel
def B290_34 : List zRow := [(242, .iconst 0, 1, (0, 0, 0)), (243, .goto 27, 3, (0, 0, 0))]
theorem K290_34 : zRk 290 B290_34 = true := by decide +kernel
def B290_35 : List zRow := [(222, .aload_n 0, 1, (0, 0, 0)), (223, .getfield 13, 3, (12, 14, 5251442)), (226, .iload_n 3, 1, (0, 0, 0)), (227, .iaload, 1, (0, 0, 0)), (228, .bipush 50, 2, (0, 0, 0)), (230, .isub, 1, (0, 0, 0)), (231, .istore 6, 2, (0, 0, 0)), (233, .aload_n 0, 1, (0, 0, 0)), (234, .iload_n 2, 1, (0, 0, 0)), (235, .iload 6, 2, (0, 0, 0)), (237, .bipush 17, 2, (0, 0, 0)), (239, .if_icmp .ne 7, 3, (0, 0, 0))]
theorem K290_35 : zRk 290 B290_35 = true := by decide +kernel
def B290_36 : List zRow := [(342, .iconst 0, 1, (0, 0, 0))]
theorem K290_36 : zRk 290 B290_36 = true := by decide +kernel
def B290_37 : List zRow := [(338, .iconst 1, 1, (0, 0, 0)), (339, .goto 4, 3, (0, 0, 0))]
theorem K290_37 : zRk 290 B290_37 = true := by decide +kernel
def B290_38 : List zRow := [(331, .iload 7, 2, (0, 0, 0)), (333, .iload 5, 2, (0, 0, 0)), (335, .if_icmp .le 7, 3, (0, 0, 0))]
theorem K290_38 : zRk 290 B290_38 = true := by decide +kernel
def B290_39 : List zRow := [(327, .iconst 0, 1, (0, 0, 0)), (328, .goto 15, 3, (0, 0, 0))]
theorem K290_39 : zRk 290 B290_39 = true := by decide +kernel
def B290_40 : List zRow := [(323, .iconst 1, 1, (0, 0, 0)), (324, .goto 19, 3, (0, 0, 0))]
theorem K290_40 : zRk 290 B290_40 = true := by decide +kernel
def B290_41 : List zRow := [(316, .iload 7, 2, (0, 0, 0)), (318, .iload 5, 2, (0, 0, 0)), (320, .if_icmp .ne 7, 3, (0, 0, 0))]
theorem K290_41 : zRk 290 B290_41 = true := by decide +kernel
def B290_42 : List zRow := [(303, .aload_n 0, 1, (0, 0, 0)), (304, .getfield 13, 3, (12, 14, 5251442)), (307, .iload_n 3, 1, (0, 0, 0)), (308, .iconst 3, 1, (0, 0, 0)), (309, .iadd, 1, (0, 0, 0)), (310, .iaload, 1, (0, 0, 0)), (311, .bipush 61, 2, (0, 0, 0)), (313, .if_icmp .ne 18, 3, (0, 0, 0))]
theorem K290_42 : zRk 290 B290_42 = true := by decide +kernel
def B290_43 : List zRow := [(299, .iconst 0, 1, (0, 0, 0)), (300, .goto 43, 3, (0, 0, 0))]
theorem K290_43 : zRk 290 B290_43 = true := by decide +kernel
def B290_44 : List zRow := [(295, .iconst 1, 1, (0, 0, 0)), (296, .goto 47, 3, (0, 0, 0))]
theorem K290_44 : zRk 290 B290_44 = true := by decide +kernel
def B290_45 : List zRow := [(288, .iload 7, 2, (0, 0, 0)), (290, .iload 5, 2, (0, 0, 0)), (292, .if_icmp .ge 7, 3, (0, 0, 0))]
theorem K290_45 : zRk 290 B290_45 = true := by decide +kernel
def B290_46 : List zRow := [(273, .istore 7, 2, (0, 0, 0)), (275, .aload_n 0, 1, (0, 0, 0)), (276, .getfield 13, 3, (12, 14, 5251442)), (279, .iload_n 3, 1, (0, 0, 0)), (280, .iconst 3, 1, (0, 0, 0)), (281, .iadd, 1, (0, 0, 0)), (282, .iaload, 1, (0, 0, 0)), (283, .bipush 60, 2, (0, 0, 0)), (285, .if_icmp .ne 18, 3, (0, 0, 0))]
theorem K290_46 : zRk 290 B290_46 = true := by decide +kernel
def B290_47 : List zRow := [(162, .iconst 1, 1, (0, 0, 0)), (163, .goto 4, 3, (0, 0, 0))]
theorem K290_47 : zRk 290 B290_47 = true := by decide +kernel
def F290_1 (kR : Int → Int → zHM → Option Int) (h : zHM) (v3 : Int) (v5 : Int) (s0 : Int) (s1 : Int) : Option Int := (F213 s1 s0 h).bind fun r1 => zG (0 ≤ (wadd v3 3) ∧ (wadd v3 3) < 2140) (if ¬ (h 14 (wadd v3 3)) = 60 then zG (0 ≤ (wadd v3 3) ∧ (wadd v3 3) < 2140) (if ¬ (h 14 (wadd v3 3)) = 61 then if r1 ≤ v5 then some 0 else some 1 else if ¬ r1 = v5 then some 0 else some 1) else if v5 ≤ r1 then some 0 else some 1)
set_option maxRecDepth 100000 in
theorem T290_1 {spec : zRn zH2} {hc : zHC} {o : Int → Int} {d : Nat} {DR : Nat} (hd : DR + 2 ≤ d) (kR : Int → Int → zHM → Option Int) (hkR : ∀ (d' : Nat), DR ≤ d' → ∀ (v1 : Int) (v2 : Int) (h : zHM) (v : Int), kR v1 v2 h = some v → zRu2 spec d' 290 [(22, 0), (0, v1), (0, v2)] (hc, h, o) (some (0, v)) (hc, h, o)) (h : zHM) (v3 : Int) (v5 : Int) (s0 : Int) (s1 : Int) (v : Int) (e : F290_1 kR h v3 v5 s0 s1 = some v) : zFin 0 (fun _ => 0) (zRu2 spec d) 290 (some (0, v)) (hc, h, o) (270, [some (22, 0), none, none, some (0, v3), none, some (0, v5), none, none], [(0, s0), (0, s1), (22, 0)], (hc, h, o)) := by
  unfold F290_1 at e
  obtain ⟨r1, q1, e⟩ := zB_s e
  refine zF_call (k := 213) (cl := 12) (n := 3) (i := .invokevirtual 247) (args := [(22, 0), (0, s1), (0, s0)]) (rest := []) (g1 := (hc, h, o)) (r1 := some (0, r1)) (by decide +kernel) rfl rfl rfl (st' := [(0, r1)]) rfl (S213 (by omega) s1 s0 h _ q1) ?_
  obtain ⟨q2, e⟩ := zG_s e
  rcases zI_s e with ⟨q3, e⟩ | ⟨q3, e⟩
  · refine zF_blk (m := []) (d := 1) (b := B290_46) (gs := [0 ≤ (wadd v3 3) ∧ (wadd v3 3) < 2140, ¬ (h 14 (wadd v3 3)) = 60]) (c' := (303, [some (22, 0), none, none, some (0, v3), none, some (0, v5), none, some (0, r1)], [], (hc, h, o))) K290_46 rfl ⟨q2, q3, trivial⟩ ?_
    obtain ⟨q4, e⟩ := zG_s e
    rcases zI_s e with ⟨q5, e⟩ | ⟨q5, e⟩
    · refine zF_blk (m := []) (d := 1) (b := B290_42) (gs := [0 ≤ (wadd v3 3) ∧ (wadd v3 3) < 2140, ¬ (h 14 (wadd v3 3)) = 61]) (c' := (331, [some (22, 0), none, none, some (0, v3), none, some (0, v5), none, some (0, r1)], [], (hc, h, o))) K290_42 rfl ⟨q4, q5, trivial⟩ ?_
      rcases zI_s e with ⟨q6, e⟩ | ⟨q6, e⟩
      · refine zF_blk (m := []) (d := 1) (b := B290_38) (gs := [r1 ≤ v5]) (c' := (342, [some (22, 0), none, none, some (0, v3), none, some (0, v5), none, some (0, r1)], [], (hc, h, o))) K290_38 rfl ⟨q6, trivial⟩ ?_
        refine zF_blk (m := []) (d := 0) (b := B290_36) (gs := []) (c' := (343, [some (22, 0), none, none, some (0, v3), none, some (0, v5), none, some (0, r1)], [(0, 0)], (hc, h, o))) K290_36 rfl trivial ?_
        obtain rfl := Option.some.inj e
        exact zF_rb (by decide +kernel) (Or.inl rfl)
      · refine zF_blk (m := []) (d := 0) (b := B290_38) (gs := [¬ (r1 ≤ v5)]) (c' := (338, [some (22, 0), none, none, some (0, v3), none, some (0, v5), none, some (0, r1)], [], (hc, h, o))) K290_38 rfl ⟨q6, trivial⟩ ?_
        refine zF_blk (m := []) (d := 0) (b := B290_37) (gs := []) (c' := (343, [some (22, 0), none, none, some (0, v3), none, some (0, v5), none, some (0, r1)], [(0, 1)], (hc, h, o))) K290_37 rfl trivial ?_
        obtain rfl := Option.some.inj e
        exact zF_rb (by decide +kernel) (Or.inr rfl)
    · refine zF_blk (m := []) (d := 0) (b := B290_42) (gs := [0 ≤ (wadd v3 3) ∧ (wadd v3 3) < 2140, ¬ (¬ (h 14 (wadd v3 3)) = 61)]) (c' := (316, [some (22, 0), none, none, some (0, v3), none, some (0, v5), none, some (0, r1)], [], (hc, h, o))) K290_42 rfl ⟨q4, q5, trivial⟩ ?_
      rcases zI_s e with ⟨q7, e⟩ | ⟨q7, e⟩
      · refine zF_blk (m := []) (d := 1) (b := B290_41) (gs := [¬ r1 = v5]) (c' := (327, [some (22, 0), none, none, some (0, v3), none, some (0, v5), none, some (0, r1)], [], (hc, h, o))) K290_41 rfl ⟨q7, trivial⟩ ?_
        refine zF_blk (m := []) (d := 0) (b := B290_39) (gs := []) (c' := (343, [some (22, 0), none, none, some (0, v3), none, some (0, v5), none, some (0, r1)], [(0, 0)], (hc, h, o))) K290_39 rfl trivial ?_
        obtain rfl := Option.some.inj e
        exact zF_rb (by decide +kernel) (Or.inl rfl)
      · refine zF_blk (m := []) (d := 0) (b := B290_41) (gs := [¬ (¬ r1 = v5)]) (c' := (323, [some (22, 0), none, none, some (0, v3), none, some (0, v5), none, some (0, r1)], [], (hc, h, o))) K290_41 rfl ⟨q7, trivial⟩ ?_
        refine zF_blk (m := []) (d := 0) (b := B290_40) (gs := []) (c' := (343, [some (22, 0), none, none, some (0, v3), none, some (0, v5), none, some (0, r1)], [(0, 1)], (hc, h, o))) K290_40 rfl trivial ?_
        obtain rfl := Option.some.inj e
        exact zF_rb (by decide +kernel) (Or.inr rfl)
  · refine zF_blk (m := []) (d := 0) (b := B290_46) (gs := [0 ≤ (wadd v3 3) ∧ (wadd v3 3) < 2140, ¬ (¬ (h 14 (wadd v3 3)) = 60)]) (c' := (288, [some (22, 0), none, none, some (0, v3), none, some (0, v5), none, some (0, r1)], [], (hc, h, o))) K290_46 rfl ⟨q2, q3, trivial⟩ ?_
    rcases zI_s e with ⟨q8, e⟩ | ⟨q8, e⟩
    · refine zF_blk (m := []) (d := 1) (b := B290_45) (gs := [v5 ≤ r1]) (c' := (299, [some (22, 0), none, none, some (0, v3), none, some (0, v5), none, some (0, r1)], [], (hc, h, o))) K290_45 rfl ⟨q8, trivial⟩ ?_
      refine zF_blk (m := []) (d := 0) (b := B290_43) (gs := []) (c' := (343, [some (22, 0), none, none, some (0, v3), none, some (0, v5), none, some (0, r1)], [(0, 0)], (hc, h, o))) K290_43 rfl trivial ?_
      obtain rfl := Option.some.inj e
      exact zF_rb (by decide +kernel) (Or.inl rfl)
    · refine zF_blk (m := []) (d := 0) (b := B290_45) (gs := [¬ (v5 ≤ r1)]) (c' := (295, [some (22, 0), none, none, some (0, v3), none, some (0, v5), none, some (0, r1)], [], (hc, h, o))) K290_45 rfl ⟨q8, trivial⟩ ?_
      refine zF_blk (m := []) (d := 0) (b := B290_44) (gs := []) (c' := (343, [some (22, 0), none, none, some (0, v3), none, some (0, v5), none, some (0, r1)], [(0, 1)], (hc, h, o))) K290_44 rfl trivial ?_
      obtain rfl := Option.some.inj e
      exact zF_rb (by decide +kernel) (Or.inr rfl)
def F290_0 (kR : Int → Int → zHM → Option Int) (h : zHM) : Option Int := some 1
set_option maxRecDepth 100000 in
theorem T290_0 {spec : zRn zH2} {hc : zHC} {o : Int → Int} {d : Nat} {DR : Nat} (hd : DR + 2 ≤ d) (kR : Int → Int → zHM → Option Int) (hkR : ∀ (d' : Nat), DR ≤ d' → ∀ (v1 : Int) (v2 : Int) (h : zHM) (v : Int), kR v1 v2 h = some v → zRu2 spec d' 290 [(22, 0), (0, v1), (0, v2)] (hc, h, o) (some (0, v)) (hc, h, o)) (h : zHM) (v : Int) (e : F290_0 kR h = some v) : zFin 0 (fun _ => 0) (zRu2 spec d) 290 (some (0, v)) (hc, h, o) (162, [none, none, none, none, none, none, none, none], [], (hc, h, o)) := by
  unfold F290_0 at e
  refine zF_blk (m := []) (d := 0) (b := B290_47) (gs := []) (c' := (167, [none, none, none, none, none, none, none, none], [(0, 1)], (hc, h, o))) K290_47 rfl trivial ?_
  obtain rfl := Option.some.inj e
  exact zF_rb (by decide +kernel) (Or.inr rfl)
/-- EchoValeModel.holds(II)Z -/
def F290 (kR : Int → Int → zHM → Option Int) (v1 : Int) (v2 : Int) (h : zHM) : Option Int := zG (0 ≤ (wadd (wadd 1900 (wmul 4 v1)) 1) ∧ (wadd (wadd 1900 (wmul 4 v1)) 1) < 2140) (zG (0 ≤ (wadd (wadd 1900 (wmul 4 v1)) 2) ∧ (wadd (wadd 1900 (wmul 4 v1)) 2) < 2140) (zG (0 ≤ (wadd 1900 (wmul 4 v1)) ∧ (wadd 1900 (wmul 4 v1)) < 2140) (if (h 14 (wadd 1900 (wmul 4 v1))) = 1 then (kR (h 14 (wadd (wadd 1900 (wmul 4 v1)) 1)) v2 h).bind fun r1 => if ¬ r1 = 0 then some 0 else some 1 else if (h 14 (wadd 1900 (wmul 4 v1))) = 2 then (kR (h 14 (wadd (wadd 1900 (wmul 4 v1)) 1)) v2 h).bind fun r2 => if r2 = 0 then some 0 else (kR (h 14 (wadd (wadd 1900 (wmul 4 v1)) 2)) v2 h).bind fun r3 => if r3 = 0 then some 0 else some 1 else if (h 14 (wadd 1900 (wmul 4 v1))) = 3 then (kR (h 14 (wadd (wadd 1900 (wmul 4 v1)) 1)) v2 h).bind fun r4 => if ¬ r4 = 0 then F290_0 kR h else (kR (h 14 (wadd (wadd 1900 (wmul 4 v1)) 2)) v2 h).bind fun r5 => if r5 = 0 then some 0 else F290_0 kR h else if (h 14 (wadd 1900 (wmul 4 v1))) = 63 then (F291 v2 h).bind fun r6 => zG (r6 = 0 ∨ r6 = 1) (some r6) else if (h 14 (wadd 1900 (wmul 4 v1))) = 64 then (F213 v2 5 h).bind fun r7 => (F215 r7).bind fun r8 => if r8 ≤ 1 then some 0 else some 1 else if (h 14 (wadd 1900 (wmul 4 v1))) = 65 then (F213 v2 5 h).bind fun r9 => (F214 r9 (h 14 (wadd (wadd 1900 (wmul 4 v1)) 1))).bind fun r10 => zG (r10 = 0 ∨ r10 = 1) (some r10) else if (h 14 (wadd 1900 (wmul 4 v1))) = 66 then (F213 v2 1 h).bind fun r11 => if ¬ r11 = (h 14 (wadd (wadd 1900 (wmul 4 v1)) 1)) then some 0 else some 1 else zG (0 ≤ (wadd 1900 (wmul 4 v1)) ∧ (wadd 1900 (wmul 4 v1)) < 2140) (if ¬ (wsub (h 14 (wadd 1900 (wmul 4 v1))) 50) = 17 then if ¬ (wsub (h 14 (wadd 1900 (wmul 4 v1))) 50) = 18 then if ¬ (wsub (h 14 (wadd 1900 (wmul 4 v1))) 50) = 19 then F290_1 kR h (wadd 1900 (wmul 4 v1)) (h 14 (wadd (wadd 1900 (wmul 4 v1)) 2)) 6 v2 else F290_1 kR h (wadd 1900 (wmul 4 v1)) (h 14 (wadd (wadd 1900 (wmul 4 v1)) 2)) 2 v2 else F290_1 kR h (wadd 1900 (wmul 4 v1)) (h 14 (wadd (wadd 1900 (wmul 4 v1)) 2)) 4 v2 else F290_1 kR h (wadd 1900 (wmul 4 v1)) (h 14 (wadd (wadd 1900 (wmul 4 v1)) 2)) 0 v2))))
set_option maxRecDepth 100000 in
theorem S290 {spec : zRn zH2} {hc : zHC} {o : Int → Int} {d : Nat} {DR : Nat} (hd : DR + 3 ≤ d) (kR : Int → Int → zHM → Option Int) (hkR : ∀ (d' : Nat), DR ≤ d' → ∀ (v1 : Int) (v2 : Int) (h : zHM) (v : Int), kR v1 v2 h = some v → zRu2 spec d' 290 [(22, 0), (0, v1), (0, v2)] (hc, h, o) (some (0, v)) (hc, h, o)) (v1 : Int) (v2 : Int) (h : zHM) (v : Int) (e : F290 kR v1 v2 h = some v) : zRu2 spec d 290 [(22, 0), (0, v1), (0, v2)] (hc, h, o) (some (0, v)) (hc, h, o) := by
  refine zF_in (D := DR + 2) (mx := 8) (L := [some (22, 0), some (0, v1), some (0, v2), none, none, none, none, none]) (by decide +kernel) rfl rfl hd (fun d hd => ?_)
  unfold F290 at e
  obtain ⟨q1, e⟩ := zG_s e
  obtain ⟨q2, e⟩ := zG_s e
  obtain ⟨q3, e⟩ := zG_s e
  refine zF_blk (m := []) (d := 0) (b := B290_0) (gs := []) (c' := (5, [some (22, 0), some (0, v1), some (0, v2), none, none, none, none, none], [(0, v1), (0, 4), (0, 1900)], (hc, h, o))) K290_0 rfl trivial ?_
  refine zF_blk (m := []) (d := 0) (b := B290_1) (gs := []) (c' := (6, [some (22, 0), some (0, v1), some (0, v2), none, none, none, none, none], [(0, (wmul 4 v1)), (0, 1900)], (hc, h, o))) K290_1 rfl trivial ?_
  rcases zI_s e with ⟨q4, e⟩ | ⟨q4, e⟩
  · refine zF_blk (m := []) (d := 1) (b := B290_6) (gs := [0 ≤ (wadd (wadd 1900 (wmul 4 v1)) 1) ∧ (wadd (wadd 1900 (wmul 4 v1)) 1) < 2140, 0 ≤ (wadd (wadd 1900 (wmul 4 v1)) 2) ∧ (wadd (wadd 1900 (wmul 4 v1)) 2) < 2140, 0 ≤ (wadd 1900 (wmul 4 v1)) ∧ (wadd 1900 (wmul 4 v1)) < 2140, (h 14 (wadd 1900 (wmul 4 v1))) = 1]) (c' := (100, [some (22, 0), some (0, v1), some (0, v2), some (0, (wadd 1900 (wmul 4 v1))), some (0, (h 14 (wadd (wadd 1900 (wmul 4 v1)) 1))), some (0, (h 14 (wadd (wadd 1900 (wmul 4 v1)) 2))), none, none], [], (hc, h, o))) K290_6 rfl ⟨q1, q2, q3, q4, trivial⟩ ?_
    obtain ⟨r1, q5, e⟩ := zB_s e
    refine zF_blk (m := []) (d := 0) (b := B290_2) (gs := []) (c' := (104, [some (22, 0), some (0, v1), some (0, v2), some (0, (wadd 1900 (wmul 4 v1))), some (0, (h 14 (wadd (wadd 1900 (wmul 4 v1)) 1))), some (0, (h 14 (wadd (wadd 1900 (wmul 4 v1)) 2))), none, none], [(0, v2), (0, (h 14 (wadd (wadd 1900 (wmul 4 v1)) 1))), (22, 0)], (hc, h, o))) K290_2 rfl trivial ?_
    refine zF_call (k := 290) (cl := 12) (n := 3) (i := .invokevirtual 431) (args := [(22, 0), (0, (h 14 (wadd (wadd 1900 (wmul 4 v1)) 1))), (0, v2)]) (rest := []) (g1 := (hc, h, o)) (r1 := some (0, r1)) (by decide +kernel) rfl rfl rfl (st' := [(0, r1)]) rfl (hkR _ (by omega) (h 14 (wadd (wadd 1900 (wmul 4 v1)) 1)) v2 h _ q5) ?_
    rcases zI_s e with ⟨q6, e⟩ | ⟨q6, e⟩
    · refine zF_blk (m := []) (d := 1) (b := B290_5) (gs := [¬ r1 = 0]) (c' := (114, [some (22, 0), some (0, v1), some (0, v2), some (0, (wadd 1900 (wmul 4 v1))), some (0, (h 14 (wadd (wadd 1900 (wmul 4 v1)) 1))), some (0, (h 14 (wadd (wadd 1900 (wmul 4 v1)) 2))), none, none], [], (hc, h, o))) K290_5 rfl ⟨q6, trivial⟩ ?_
      refine zF_blk (m := []) (d := 0) (b := B290_3) (gs := []) (c' := (115, [some (22, 0), some (0, v1), some (0, v2), some (0, (wadd 1900 (wmul 4 v1))), some (0, (h 14 (wadd (wadd 1900 (wmul 4 v1)) 1))), some (0, (h 14 (wadd (wadd 1900 (wmul 4 v1)) 2))), none, none], [(0, 0)], (hc, h, o))) K290_3 rfl trivial ?_
      obtain rfl := Option.some.inj e
      exact zF_rb (by decide +kernel) (Or.inl rfl)
    · refine zF_blk (m := []) (d := 0) (b := B290_5) (gs := [¬ (¬ r1 = 0)]) (c' := (110, [some (22, 0), some (0, v1), some (0, v2), some (0, (wadd 1900 (wmul 4 v1))), some (0, (h 14 (wadd (wadd 1900 (wmul 4 v1)) 1))), some (0, (h 14 (wadd (wadd 1900 (wmul 4 v1)) 2))), none, none], [], (hc, h, o))) K290_5 rfl ⟨q6, trivial⟩ ?_
      refine zF_blk (m := []) (d := 0) (b := B290_4) (gs := []) (c' := (115, [some (22, 0), some (0, v1), some (0, v2), some (0, (wadd 1900 (wmul 4 v1))), some (0, (h 14 (wadd (wadd 1900 (wmul 4 v1)) 1))), some (0, (h 14 (wadd (wadd 1900 (wmul 4 v1)) 2))), none, none], [(0, 1)], (hc, h, o))) K290_4 rfl trivial ?_
      obtain rfl := Option.some.inj e
      exact zF_rb (by decide +kernel) (Or.inr rfl)
  rcases zI_s e with ⟨q7, e⟩ | ⟨q7, e⟩
  · refine zF_blk (m := []) (d := 2) (b := B290_6) (gs := [0 ≤ (wadd (wadd 1900 (wmul 4 v1)) 1) ∧ (wadd (wadd 1900 (wmul 4 v1)) 1) < 2140, 0 ≤ (wadd (wadd 1900 (wmul 4 v1)) 2) ∧ (wadd (wadd 1900 (wmul 4 v1)) 2) < 2140, 0 ≤ (wadd 1900 (wmul 4 v1)) ∧ (wadd 1900 (wmul 4 v1)) < 2140, (h 14 (wadd 1900 (wmul 4 v1))) = 2]) (c' := (116, [some (22, 0), some (0, v1), some (0, v2), some (0, (wadd 1900 (wmul 4 v1))), some (0, (h 14 (wadd (wadd 1900 (wmul 4 v1)) 1))), some (0, (h 14 (wadd (wadd 1900 (wmul 4 v1)) 2))), none, none], [], (hc, h, o))) K290_6 rfl ⟨q1, q2, q3, q7, trivial⟩ ?_
    obtain ⟨r2, q8, e⟩ := zB_s e
    refine zF_blk (m := []) (d := 0) (b := B290_7) (gs := []) (c' := (120, [some (22, 0), some (0, v1), some (0, v2), some (0, (wadd 1900 (wmul 4 v1))), some (0, (h 14 (wadd (wadd 1900 (wmul 4 v1)) 1))), some (0, (h 14 (wadd (wadd 1900 (wmul 4 v1)) 2))), none, none], [(0, v2), (0, (h 14 (wadd (wadd 1900 (wmul 4 v1)) 1))), (22, 0)], (hc, h, o))) K290_7 rfl trivial ?_
    refine zF_call (k := 290) (cl := 12) (n := 3) (i := .invokevirtual 431) (args := [(22, 0), (0, (h 14 (wadd (wadd 1900 (wmul 4 v1)) 1))), (0, v2)]) (rest := []) (g1 := (hc, h, o)) (r1 := some (0, r2)) (by decide +kernel) rfl rfl rfl (st' := [(0, r2)]) rfl (hkR _ (by omega) (h 14 (wadd (wadd 1900 (wmul 4 v1)) 1)) v2 h _ q8) ?_
    rcases zI_s e with ⟨q9, e⟩ | ⟨q9, e⟩
    · refine zF_blk (m := []) (d := 1) (b := B290_12) (gs := [r2 = 0]) (c' := (140, [some (22, 0), some (0, v1), some (0, v2), some (0, (wadd 1900 (wmul 4 v1))), some (0, (h 14 (wadd (wadd 1900 (wmul 4 v1)) 1))), some (0, (h 14 (wadd (wadd 1900 (wmul 4 v1)) 2))), none, none], [], (hc, h, o))) K290_12 rfl ⟨q9, trivial⟩ ?_
      refine zF_blk (m := []) (d := 0) (b := B290_8) (gs := []) (c' := (141, [some (22, 0), some (0, v1), some (0, v2), some (0, (wadd 1900 (wmul 4 v1))), some (0, (h 14 (wadd (wadd 1900 (wmul 4 v1)) 1))), some (0, (h 14 (wadd (wadd 1900 (wmul 4 v1)) 2))), none, none], [(0, 0)], (hc, h, o))) K290_8 rfl trivial ?_
      obtain rfl := Option.some.inj e
      exact zF_rb (by decide +kernel) (Or.inl rfl)
    · refine zF_blk (m := []) (d := 0) (b := B290_12) (gs := [¬ (r2 = 0)]) (c' := (126, [some (22, 0), some (0, v1), some (0, v2), some (0, (wadd 1900 (wmul 4 v1))), some (0, (h 14 (wadd (wadd 1900 (wmul 4 v1)) 1))), some (0, (h 14 (wadd (wadd 1900 (wmul 4 v1)) 2))), none, none], [], (hc, h, o))) K290_12 rfl ⟨q9, trivial⟩ ?_
      obtain ⟨r3, q10, e⟩ := zB_s e
      refine zF_blk (m := []) (d := 0) (b := B290_9) (gs := []) (c' := (130, [some (22, 0), some (0, v1), some (0, v2), some (0, (wadd 1900 (wmul 4 v1))), some (0, (h 14 (wadd (wadd 1900 (wmul 4 v1)) 1))), some (0, (h 14 (wadd (wadd 1900 (wmul 4 v1)) 2))), none, none], [(0, v2), (0, (h 14 (wadd (wadd 1900 (wmul 4 v1)) 2))), (22, 0)], (hc, h, o))) K290_9 rfl trivial ?_
      refine zF_call (k := 290) (cl := 12) (n := 3) (i := .invokevirtual 431) (args := [(22, 0), (0, (h 14 (wadd (wadd 1900 (wmul 4 v1)) 2))), (0, v2)]) (rest := []) (g1 := (hc, h, o)) (r1 := some (0, r3)) (by decide +kernel) rfl rfl rfl (st' := [(0, r3)]) rfl (hkR _ (by omega) (h 14 (wadd (wadd 1900 (wmul 4 v1)) 2)) v2 h _ q10) ?_
      rcases zI_s e with ⟨q11, e⟩ | ⟨q11, e⟩
      · refine zF_blk (m := []) (d := 1) (b := B290_11) (gs := [r3 = 0]) (c' := (140, [some (22, 0), some (0, v1), some (0, v2), some (0, (wadd 1900 (wmul 4 v1))), some (0, (h 14 (wadd (wadd 1900 (wmul 4 v1)) 1))), some (0, (h 14 (wadd (wadd 1900 (wmul 4 v1)) 2))), none, none], [], (hc, h, o))) K290_11 rfl ⟨q11, trivial⟩ ?_
        refine zF_blk (m := []) (d := 0) (b := B290_8) (gs := []) (c' := (141, [some (22, 0), some (0, v1), some (0, v2), some (0, (wadd 1900 (wmul 4 v1))), some (0, (h 14 (wadd (wadd 1900 (wmul 4 v1)) 1))), some (0, (h 14 (wadd (wadd 1900 (wmul 4 v1)) 2))), none, none], [(0, 0)], (hc, h, o))) K290_8 rfl trivial ?_
        obtain rfl := Option.some.inj e
        exact zF_rb (by decide +kernel) (Or.inl rfl)
      · refine zF_blk (m := []) (d := 0) (b := B290_11) (gs := [¬ (r3 = 0)]) (c' := (136, [some (22, 0), some (0, v1), some (0, v2), some (0, (wadd 1900 (wmul 4 v1))), some (0, (h 14 (wadd (wadd 1900 (wmul 4 v1)) 1))), some (0, (h 14 (wadd (wadd 1900 (wmul 4 v1)) 2))), none, none], [], (hc, h, o))) K290_11 rfl ⟨q11, trivial⟩ ?_
        refine zF_blk (m := []) (d := 0) (b := B290_10) (gs := []) (c' := (141, [some (22, 0), some (0, v1), some (0, v2), some (0, (wadd 1900 (wmul 4 v1))), some (0, (h 14 (wadd (wadd 1900 (wmul 4 v1)) 1))), some (0, (h 14 (wadd (wadd 1900 (wmul 4 v1)) 2))), none, none], [(0, 1)], (hc, h, o))) K290_10 rfl trivial ?_
        obtain rfl := Option.some.inj e
        exact zF_rb (by decide +kernel) (Or.inr rfl)
  rcases zI_s e with ⟨q12, e⟩ | ⟨q12, e⟩
  · refine zF_blk (m := []) (d := 3) (b := B290_6) (gs := [0 ≤ (wadd (wadd 1900 (wmul 4 v1)) 1) ∧ (wadd (wadd 1900 (wmul 4 v1)) 1) < 2140, 0 ≤ (wadd (wadd 1900 (wmul 4 v1)) 2) ∧ (wadd (wadd 1900 (wmul 4 v1)) 2) < 2140, 0 ≤ (wadd 1900 (wmul 4 v1)) ∧ (wadd 1900 (wmul 4 v1)) < 2140, (h 14 (wadd 1900 (wmul 4 v1))) = 3]) (c' := (142, [some (22, 0), some (0, v1), some (0, v2), some (0, (wadd 1900 (wmul 4 v1))), some (0, (h 14 (wadd (wadd 1900 (wmul 4 v1)) 1))), some (0, (h 14 (wadd (wadd 1900 (wmul 4 v1)) 2))), none, none], [], (hc, h, o))) K290_6 rfl ⟨q1, q2, q3, q12, trivial⟩ ?_
    obtain ⟨r4, q13, e⟩ := zB_s e
    refine zF_blk (m := []) (d := 0) (b := B290_13) (gs := []) (c' := (146, [some (22, 0), some (0, v1), some (0, v2), some (0, (wadd 1900 (wmul 4 v1))), some (0, (h 14 (wadd (wadd 1900 (wmul 4 v1)) 1))), some (0, (h 14 (wadd (wadd 1900 (wmul 4 v1)) 2))), none, none], [(0, v2), (0, (h 14 (wadd (wadd 1900 (wmul 4 v1)) 1))), (22, 0)], (hc, h, o))) K290_13 rfl trivial ?_
    refine zF_call (k := 290) (cl := 12) (n := 3) (i := .invokevirtual 431) (args := [(22, 0), (0, (h 14 (wadd (wadd 1900 (wmul 4 v1)) 1))), (0, v2)]) (rest := []) (g1 := (hc, h, o)) (r1 := some (0, r4)) (by decide +kernel) rfl rfl rfl (st' := [(0, r4)]) rfl (hkR _ (by omega) (h 14 (wadd (wadd 1900 (wmul 4 v1)) 1)) v2 h _ q13) ?_
    rcases zI_s e with ⟨q14, e⟩ | ⟨q14, e⟩
    · refine zF_blk (m := []) (d := 1) (b := B290_17) (gs := [¬ r4 = 0]) (c' := (162, [some (22, 0), some (0, v1), some (0, v2), some (0, (wadd 1900 (wmul 4 v1))), some (0, (h 14 (wadd (wadd 1900 (wmul 4 v1)) 1))), some (0, (h 14 (wadd (wadd 1900 (wmul 4 v1)) 2))), none, none], [], (hc, h, o))) K290_17 rfl ⟨q14, trivial⟩ ?_
      refine zF_blk (m := [false, false, false, false, false, false, false, false]) (d := 0) (b := []) (gs := []) (c' := (162, [none, none, none, none, none, none, none, none], [], (hc, h, o))) rfl rfl trivial ?_
      exact T290_0 hd kR hkR h _ e
    · refine zF_blk (m := []) (d := 0) (b := B290_17) (gs := [¬ (¬ r4 = 0)]) (c' := (152, [some (22, 0), some (0, v1), some (0, v2), some (0, (wadd 1900 (wmul 4 v1))), some (0, (h 14 (wadd (wadd 1900 (wmul 4 v1)) 1))), some (0, (h 14 (wadd (wadd 1900 (wmul 4 v1)) 2))), none, none], [], (hc, h, o))) K290_17 rfl ⟨q14, trivial⟩ ?_
      obtain ⟨r5, q15, e⟩ := zB_s e
      refine zF_blk (m := []) (d := 0) (b := B290_14) (gs := []) (c' := (156, [some (22, 0), some (0, v1), some (0, v2), some (0, (wadd 1900 (wmul 4 v1))), some (0, (h 14 (wadd (wadd 1900 (wmul 4 v1)) 1))), some (0, (h 14 (wadd (wadd 1900 (wmul 4 v1)) 2))), none, none], [(0, v2), (0, (h 14 (wadd (wadd 1900 (wmul 4 v1)) 2))), (22, 0)], (hc, h, o))) K290_14 rfl trivial ?_
      refine zF_call (k := 290) (cl := 12) (n := 3) (i := .invokevirtual 431) (args := [(22, 0), (0, (h 14 (wadd (wadd 1900 (wmul 4 v1)) 2))), (0, v2)]) (rest := []) (g1 := (hc, h, o)) (r1 := some (0, r5)) (by decide +kernel) rfl rfl rfl (st' := [(0, r5)]) rfl (hkR _ (by omega) (h 14 (wadd (wadd 1900 (wmul 4 v1)) 2)) v2 h _ q15) ?_
      rcases zI_s e with ⟨q16, e⟩ | ⟨q16, e⟩
      · refine zF_blk (m := []) (d := 1) (b := B290_16) (gs := [r5 = 0]) (c' := (166, [some (22, 0), some (0, v1), some (0, v2), some (0, (wadd 1900 (wmul 4 v1))), some (0, (h 14 (wadd (wadd 1900 (wmul 4 v1)) 1))), some (0, (h 14 (wadd (wadd 1900 (wmul 4 v1)) 2))), none, none], [], (hc, h, o))) K290_16 rfl ⟨q16, trivial⟩ ?_
        refine zF_blk (m := []) (d := 0) (b := B290_15) (gs := []) (c' := (167, [some (22, 0), some (0, v1), some (0, v2), some (0, (wadd 1900 (wmul 4 v1))), some (0, (h 14 (wadd (wadd 1900 (wmul 4 v1)) 1))), some (0, (h 14 (wadd (wadd 1900 (wmul 4 v1)) 2))), none, none], [(0, 0)], (hc, h, o))) K290_15 rfl trivial ?_
        obtain rfl := Option.some.inj e
        exact zF_rb (by decide +kernel) (Or.inl rfl)
      · refine zF_blk (m := []) (d := 0) (b := B290_16) (gs := [¬ (r5 = 0)]) (c' := (162, [some (22, 0), some (0, v1), some (0, v2), some (0, (wadd 1900 (wmul 4 v1))), some (0, (h 14 (wadd (wadd 1900 (wmul 4 v1)) 1))), some (0, (h 14 (wadd (wadd 1900 (wmul 4 v1)) 2))), none, none], [], (hc, h, o))) K290_16 rfl ⟨q16, trivial⟩ ?_
        refine zF_blk (m := [false, false, false, false, false, false, false, false]) (d := 0) (b := []) (gs := []) (c' := (162, [none, none, none, none, none, none, none, none], [], (hc, h, o))) rfl rfl trivial ?_
        exact T290_0 hd kR hkR h _ e
  rcases zI_s e with ⟨q17, e⟩ | ⟨q17, e⟩
  · refine zF_blk (m := []) (d := 63) (b := B290_6) (gs := [0 ≤ (wadd (wadd 1900 (wmul 4 v1)) 1) ∧ (wadd (wadd 1900 (wmul 4 v1)) 1) < 2140, 0 ≤ (wadd (wadd 1900 (wmul 4 v1)) 2) ∧ (wadd (wadd 1900 (wmul 4 v1)) 2) < 2140, 0 ≤ (wadd 1900 (wmul 4 v1)) ∧ (wadd 1900 (wmul 4 v1)) < 2140, (h 14 (wadd 1900 (wmul 4 v1))) = 63]) (c' := (168, [some (22, 0), some (0, v1), some (0, v2), some (0, (wadd 1900 (wmul 4 v1))), some (0, (h 14 (wadd (wadd 1900 (wmul 4 v1)) 1))), some (0, (h 14 (wadd (wadd 1900 (wmul 4 v1)) 2))), none, none], [], (hc, h, o))) K290_6 rfl ⟨q1, q2, q3, q17, trivial⟩ ?_
    obtain ⟨r6, q18, e⟩ := zB_s e
    refine zF_blk (m := []) (d := 0) (b := B290_18) (gs := []) (c' := (170, [some (22, 0), some (0, v1), some (0, v2), some (0, (wadd 1900 (wmul 4 v1))), some (0, (h 14 (wadd (wadd 1900 (wmul 4 v1)) 1))), some (0, (h 14 (wadd (wadd 1900 (wmul 4 v1)) 2))), none, none], [(0, v2), (22, 0)], (hc, h, o))) K290_18 rfl trivial ?_
    refine zF_call (k := 291) (cl := 12) (n := 2) (i := .invokevirtual 434) (args := [(22, 0), (0, v2)]) (rest := []) (g1 := (hc, h, o)) (r1 := some (0, r6)) (by decide +kernel) rfl rfl rfl (st' := [(0, r6)]) rfl (S291 (by omega) v2 h _ q18) ?_
    obtain ⟨q19, e⟩ := zG_s e
    obtain rfl := Option.some.inj e
    exact zF_rb (by decide +kernel) q19
  rcases zI_s e with ⟨q20, e⟩ | ⟨q20, e⟩
  · refine zF_blk (m := []) (d := 64) (b := B290_6) (gs := [0 ≤ (wadd (wadd 1900 (wmul 4 v1)) 1) ∧ (wadd (wadd 1900 (wmul 4 v1)) 1) < 2140, 0 ≤ (wadd (wadd 1900 (wmul 4 v1)) 2) ∧ (wadd (wadd 1900 (wmul 4 v1)) 2) < 2140, 0 ≤ (wadd 1900 (wmul 4 v1)) ∧ (wadd 1900 (wmul 4 v1)) < 2140, (h 14 (wadd 1900 (wmul 4 v1))) = 64]) (c' := (174, [some (22, 0), some (0, v1), some (0, v2), some (0, (wadd 1900 (wmul 4 v1))), some (0, (h 14 (wadd (wadd 1900 (wmul 4 v1)) 1))), some (0, (h 14 (wadd (wadd 1900 (wmul 4 v1)) 2))), none, none], [], (hc, h, o))) K290_6 rfl ⟨q1, q2, q3, q20, trivial⟩ ?_
    obtain ⟨r7, q21, e⟩ := zB_s e
    refine zF_blk (m := []) (d := 0) (b := B290_19) (gs := []) (c' := (177, [some (22, 0), some (0, v1), some (0, v2), some (0, (wadd 1900 (wmul 4 v1))), some (0, (h 14 (wadd (wadd 1900 (wmul 4 v1)) 1))), some (0, (h 14 (wadd (wadd 1900 (wmul 4 v1)) 2))), none, none], [(0, 5), (0, v2), (22, 0)], (hc, h, o))) K290_19 rfl trivial ?_
    refine zF_call (k := 213) (cl := 12) (n := 3) (i := .invokevirtual 247) (args := [(22, 0), (0, v2), (0, 5)]) (rest := []) (g1 := (hc, h, o)) (r1 := some (0, r7)) (by decide +kernel) rfl rfl rfl (st' := [(0, r7)]) rfl (S213 (by omega) v2 5 h _ q21) ?_
    obtain ⟨r8, q22, e⟩ := zB_s e
    refine zF_call (k := 215) (cl := 12) (n := 1) (i := .invokestatic 254) (args := [(0, r7)]) (rest := []) (g1 := (hc, h, o)) (r1 := some (0, r8)) (by decide +kernel) rfl rfl rfl (st' := [(0, r8)]) rfl (S215 (by omega) r7 h _ q22) ?_
    rcases zI_s e with ⟨q23, e⟩ | ⟨q23, e⟩
    · refine zF_blk (m := []) (d := 1) (b := B290_22) (gs := [r8 ≤ 1]) (c' := (191, [some (22, 0), some (0, v1), some (0, v2), some (0, (wadd 1900 (wmul 4 v1))), some (0, (h 14 (wadd (wadd 1900 (wmul 4 v1)) 1))), some (0, (h 14 (wadd (wadd 1900 (wmul 4 v1)) 2))), none, none], [], (hc, h, o))) K290_22 rfl ⟨q23, trivial⟩ ?_
      refine zF_blk (m := []) (d := 0) (b := B290_20) (gs := []) (c' := (192, [some (22, 0), some (0, v1), some (0, v2), some (0, (wadd 1900 (wmul 4 v1))), some (0, (h 14 (wadd (wadd 1900 (wmul 4 v1)) 1))), some (0, (h 14 (wadd (wadd 1900 (wmul 4 v1)) 2))), none, none], [(0, 0)], (hc, h, o))) K290_20 rfl trivial ?_
      obtain rfl := Option.some.inj e
      exact zF_rb (by decide +kernel) (Or.inl rfl)
    · refine zF_blk (m := []) (d := 0) (b := B290_22) (gs := [¬ (r8 ≤ 1)]) (c' := (187, [some (22, 0), some (0, v1), some (0, v2), some (0, (wadd 1900 (wmul 4 v1))), some (0, (h 14 (wadd (wadd 1900 (wmul 4 v1)) 1))), some (0, (h 14 (wadd (wadd 1900 (wmul 4 v1)) 2))), none, none], [], (hc, h, o))) K290_22 rfl ⟨q23, trivial⟩ ?_
      refine zF_blk (m := []) (d := 0) (b := B290_21) (gs := []) (c' := (192, [some (22, 0), some (0, v1), some (0, v2), some (0, (wadd 1900 (wmul 4 v1))), some (0, (h 14 (wadd (wadd 1900 (wmul 4 v1)) 1))), some (0, (h 14 (wadd (wadd 1900 (wmul 4 v1)) 2))), none, none], [(0, 1)], (hc, h, o))) K290_21 rfl trivial ?_
      obtain rfl := Option.some.inj e
      exact zF_rb (by decide +kernel) (Or.inr rfl)
  rcases zI_s e with ⟨q24, e⟩ | ⟨q24, e⟩
  · refine zF_blk (m := []) (d := 65) (b := B290_6) (gs := [0 ≤ (wadd (wadd 1900 (wmul 4 v1)) 1) ∧ (wadd (wadd 1900 (wmul 4 v1)) 1) < 2140, 0 ≤ (wadd (wadd 1900 (wmul 4 v1)) 2) ∧ (wadd (wadd 1900 (wmul 4 v1)) 2) < 2140, 0 ≤ (wadd 1900 (wmul 4 v1)) ∧ (wadd 1900 (wmul 4 v1)) < 2140, (h 14 (wadd 1900 (wmul 4 v1))) = 65]) (c' := (193, [some (22, 0), some (0, v1), some (0, v2), some (0, (wadd 1900 (wmul 4 v1))), some (0, (h 14 (wadd (wadd 1900 (wmul 4 v1)) 1))), some (0, (h 14 (wadd (wadd 1900 (wmul 4 v1)) 2))), none, none], [], (hc, h, o))) K290_6 rfl ⟨q1, q2, q3, q24, trivial⟩ ?_
    obtain ⟨r9, q25, e⟩ := zB_s e
    refine zF_blk (m := []) (d := 0) (b := B290_23) (gs := []) (c' := (196, [some (22, 0), some (0, v1), some (0, v2), some (0, (wadd 1900 (wmul 4 v1))), some (0, (h 14 (wadd (wadd 1900 (wmul 4 v1)) 1))), some (0, (h 14 (wadd (wadd 1900 (wmul 4 v1)) 2))), none, none], [(0, 5), (0, v2), (22, 0)], (hc, h, o))) K290_23 rfl trivial ?_
    refine zF_call (k := 213) (cl := 12) (n := 3) (i := .invokevirtual 247) (args := [(22, 0), (0, v2), (0, 5)]) (rest := []) (g1 := (hc, h, o)) (r1 := some (0, r9)) (by decide +kernel) rfl rfl rfl (st' := [(0, r9)]) rfl (S213 (by omega) v2 5 h _ q25) ?_
    obtain ⟨r10, q26, e⟩ := zB_s e
    refine zF_blk (m := []) (d := 0) (b := B290_24) (gs := []) (c' := (201, [some (22, 0), some (0, v1), some (0, v2), some (0, (wadd 1900 (wmul 4 v1))), some (0, (h 14 (wadd (wadd 1900 (wmul 4 v1)) 1))), some (0, (h 14 (wadd (wadd 1900 (wmul 4 v1)) 2))), none, none], [(0, (h 14 (wadd (wadd 1900 (wmul 4 v1)) 1))), (0, r9)], (hc, h, o))) K290_24 rfl trivial ?_
    refine zF_call (k := 214) (cl := 12) (n := 2) (i := .invokestatic 251) (args := [(0, r9), (0, (h 14 (wadd (wadd 1900 (wmul 4 v1)) 1)))]) (rest := []) (g1 := (hc, h, o)) (r1 := some (0, r10)) (by decide +kernel) rfl rfl rfl (st' := [(0, r10)]) rfl (S214 (by omega) r9 (h 14 (wadd (wadd 1900 (wmul 4 v1)) 1)) h _ q26) ?_
    obtain ⟨q27, e⟩ := zG_s e
    obtain rfl := Option.some.inj e
    exact zF_rb (by decide +kernel) q27
  rcases zI_s e with ⟨q28, e⟩ | ⟨q28, e⟩
  · refine zF_blk (m := []) (d := 66) (b := B290_6) (gs := [0 ≤ (wadd (wadd 1900 (wmul 4 v1)) 1) ∧ (wadd (wadd 1900 (wmul 4 v1)) 1) < 2140, 0 ≤ (wadd (wadd 1900 (wmul 4 v1)) 2) ∧ (wadd (wadd 1900 (wmul 4 v1)) 2) < 2140, 0 ≤ (wadd 1900 (wmul 4 v1)) ∧ (wadd 1900 (wmul 4 v1)) < 2140, (h 14 (wadd 1900 (wmul 4 v1))) = 66]) (c' := (205, [some (22, 0), some (0, v1), some (0, v2), some (0, (wadd 1900 (wmul 4 v1))), some (0, (h 14 (wadd (wadd 1900 (wmul 4 v1)) 1))), some (0, (h 14 (wadd (wadd 1900 (wmul 4 v1)) 2))), none, none], [], (hc, h, o))) K290_6 rfl ⟨q1, q2, q3, q28, trivial⟩ ?_
    obtain ⟨r11, q29, e⟩ := zB_s e
    refine zF_blk (m := []) (d := 0) (b := B290_25) (gs := []) (c' := (208, [some (22, 0), some (0, v1), some (0, v2), some (0, (wadd 1900 (wmul 4 v1))), some (0, (h 14 (wadd (wadd 1900 (wmul 4 v1)) 1))), some (0, (h 14 (wadd (wadd 1900 (wmul 4 v1)) 2))), none, none], [(0, 1), (0, v2), (22, 0)], (hc, h, o))) K290_25 rfl trivial ?_
    refine zF_call (k := 213) (cl := 12) (n := 3) (i := .invokevirtual 247) (args := [(22, 0), (0, v2), (0, 1)]) (rest := []) (g1 := (hc, h, o)) (r1 := some (0, r11)) (by decide +kernel) rfl rfl rfl (st' := [(0, r11)]) rfl (S213 (by omega) v2 1 h _ q29) ?_
    rcases zI_s e with ⟨q30, e⟩ | ⟨q30, e⟩
    · refine zF_blk (m := []) (d := 1) (b := B290_28) (gs := [¬ r11 = (h 14 (wadd (wadd 1900 (wmul 4 v1)) 1))]) (c' := (220, [some (22, 0), some (0, v1), some (0, v2), some (0, (wadd 1900 (wmul 4 v1))), some (0, (h 14 (wadd (wadd 1900 (wmul 4 v1)) 1))), some (0, (h 14 (wadd (wadd 1900 (wmul 4 v1)) 2))), none, none], [], (hc, h, o))) K290_28 rfl ⟨q30, trivial⟩ ?_
      refine zF_blk (m := []) (d := 0) (b := B290_26) (gs := []) (c' := (221, [some (22, 0), some (0, v1), some (0, v2), some (0, (wadd 1900 (wmul 4 v1))), some (0, (h 14 (wadd (wadd 1900 (wmul 4 v1)) 1))), some (0, (h 14 (wadd (wadd 1900 (wmul 4 v1)) 2))), none, none], [(0, 0)], (hc, h, o))) K290_26 rfl trivial ?_
      obtain rfl := Option.some.inj e
      exact zF_rb (by decide +kernel) (Or.inl rfl)
    · refine zF_blk (m := []) (d := 0) (b := B290_28) (gs := [¬ (¬ r11 = (h 14 (wadd (wadd 1900 (wmul 4 v1)) 1)))]) (c' := (216, [some (22, 0), some (0, v1), some (0, v2), some (0, (wadd 1900 (wmul 4 v1))), some (0, (h 14 (wadd (wadd 1900 (wmul 4 v1)) 1))), some (0, (h 14 (wadd (wadd 1900 (wmul 4 v1)) 2))), none, none], [], (hc, h, o))) K290_28 rfl ⟨q30, trivial⟩ ?_
      refine zF_blk (m := []) (d := 0) (b := B290_27) (gs := []) (c' := (221, [some (22, 0), some (0, v1), some (0, v2), some (0, (wadd 1900 (wmul 4 v1))), some (0, (h 14 (wadd (wadd 1900 (wmul 4 v1)) 1))), some (0, (h 14 (wadd (wadd 1900 (wmul 4 v1)) 2))), none, none], [(0, 1)], (hc, h, o))) K290_27 rfl trivial ?_
      obtain rfl := Option.some.inj e
      exact zF_rb (by decide +kernel) (Or.inr rfl)
  refine zF_blk (m := []) (d := 0) (b := B290_6) (gs := [0 ≤ (wadd (wadd 1900 (wmul 4 v1)) 1) ∧ (wadd (wadd 1900 (wmul 4 v1)) 1) < 2140, 0 ≤ (wadd (wadd 1900 (wmul 4 v1)) 2) ∧ (wadd (wadd 1900 (wmul 4 v1)) 2) < 2140, 0 ≤ (wadd 1900 (wmul 4 v1)) ∧ (wadd 1900 (wmul 4 v1)) < 2140, ¬ (h 14 (wadd 1900 (wmul 4 v1))) = 1, ¬ (h 14 (wadd 1900 (wmul 4 v1))) = 2, ¬ (h 14 (wadd 1900 (wmul 4 v1))) = 3, ¬ (h 14 (wadd 1900 (wmul 4 v1))) = 63, ¬ (h 14 (wadd 1900 (wmul 4 v1))) = 64, ¬ (h 14 (wadd 1900 (wmul 4 v1))) = 65, ¬ (h 14 (wadd 1900 (wmul 4 v1))) = 66]) (c' := (222, [some (22, 0), some (0, v1), some (0, v2), some (0, (wadd 1900 (wmul 4 v1))), some (0, (h 14 (wadd (wadd 1900 (wmul 4 v1)) 1))), some (0, (h 14 (wadd (wadd 1900 (wmul 4 v1)) 2))), none, none], [], (hc, h, o))) K290_6 rfl ⟨q1, q2, q3, q4, q7, q12, q17, q20, q24, q28, trivial⟩ ?_
  obtain ⟨q31, e⟩ := zG_s e
  rcases zI_s e with ⟨q32, e⟩ | ⟨q32, e⟩
  · refine zF_blk (m := []) (d := 1) (b := B290_35) (gs := [0 ≤ (wadd 1900 (wmul 4 v1)) ∧ (wadd 1900 (wmul 4 v1)) < 2140, ¬ (wsub (h 14 (wadd 1900 (wmul 4 v1))) 50) = 17]) (c' := (246, [some (22, 0), some (0, v1), some (0, v2), some (0, (wadd 1900 (wmul 4 v1))), some (0, (h 14 (wadd (wadd 1900 (wmul 4 v1)) 1))), some (0, (h 14 (wadd (wadd 1900 (wmul 4 v1)) 2))), some (0, (wsub (h 14 (wadd 1900 (wmul 4 v1))) 50)), none], [(0, v2), (22, 0)], (hc, h, o))) K290_35 rfl ⟨q31, q32, trivial⟩ ?_
    rcases zI_s e with ⟨q33, e⟩ | ⟨q33, e⟩
    · refine zF_blk (m := []) (d := 1) (b := B290_33) (gs := [¬ (wsub (h 14 (wadd 1900 (wmul 4 v1))) 50) = 18]) (c' := (257, [some (22, 0), some (0, v1), some (0, v2), some (0, (wadd 1900 (wmul 4 v1))), some (0, (h 14 (wadd (wadd 1900 (wmul 4 v1)) 1))), some (0, (h 14 (wadd (wadd 1900 (wmul 4 v1)) 2))), some (0, (wsub (h 14 (wadd 1900 (wmul 4 v1))) 50)), none], [(0, v2), (22, 0)], (hc, h, o))) K290_33 rfl ⟨q33, trivial⟩ ?_
      rcases zI_s e with ⟨q34, e⟩ | ⟨q34, e⟩
      · refine zF_blk (m := []) (d := 1) (b := B290_31) (gs := [¬ (wsub (h 14 (wadd 1900 (wmul 4 v1))) 50) = 19]) (c' := (268, [some (22, 0), some (0, v1), some (0, v2), some (0, (wadd 1900 (wmul 4 v1))), some (0, (h 14 (wadd (wadd 1900 (wmul 4 v1)) 1))), some (0, (h 14 (wadd (wadd 1900 (wmul 4 v1)) 2))), some (0, (wsub (h 14 (wadd 1900 (wmul 4 v1))) 50)), none], [(0, v2), (22, 0)], (hc, h, o))) K290_31 rfl ⟨q34, trivial⟩ ?_
        refine zF_blk (m := []) (d := 0) (b := B290_29) (gs := []) (c' := (270, [some (22, 0), some (0, v1), some (0, v2), some (0, (wadd 1900 (wmul 4 v1))), some (0, (h 14 (wadd (wadd 1900 (wmul 4 v1)) 1))), some (0, (h 14 (wadd (wadd 1900 (wmul 4 v1)) 2))), some (0, (wsub (h 14 (wadd 1900 (wmul 4 v1))) 50)), none], [(0, 6), (0, v2), (22, 0)], (hc, h, o))) K290_29 rfl trivial ?_
        refine zF_blk (m := [true, false, false, true, false, true, false, false]) (d := 0) (b := []) (gs := []) (c' := (270, [some (22, 0), none, none, some (0, (wadd 1900 (wmul 4 v1))), none, some (0, (h 14 (wadd (wadd 1900 (wmul 4 v1)) 2))), none, none], [(0, 6), (0, v2), (22, 0)], (hc, h, o))) rfl rfl trivial ?_
        exact T290_1 hd kR hkR h (wadd 1900 (wmul 4 v1)) (h 14 (wadd (wadd 1900 (wmul 4 v1)) 2)) 6 v2 _ e
      · refine zF_blk (m := []) (d := 0) (b := B290_31) (gs := [¬ (¬ (wsub (h 14 (wadd 1900 (wmul 4 v1))) 50) = 19)]) (c' := (264, [some (22, 0), some (0, v1), some (0, v2), some (0, (wadd 1900 (wmul 4 v1))), some (0, (h 14 (wadd (wadd 1900 (wmul 4 v1)) 1))), some (0, (h 14 (wadd (wadd 1900 (wmul 4 v1)) 2))), some (0, (wsub (h 14 (wadd 1900 (wmul 4 v1))) 50)), none], [(0, v2), (22, 0)], (hc, h, o))) K290_31 rfl ⟨q34, trivial⟩ ?_
        refine zF_blk (m := []) (d := 0) (b := B290_30) (gs := []) (c' := (270, [some (22, 0), some (0, v1), some (0, v2), some (0, (wadd 1900 (wmul 4 v1))), some (0, (h 14 (wadd (wadd 1900 (wmul 4 v1)) 1))), some (0, (h 14 (wadd (wadd 1900 (wmul 4 v1)) 2))), some (0, (wsub (h 14 (wadd 1900 (wmul 4 v1))) 50)), none], [(0, 2), (0, v2), (22, 0)], (hc, h, o))) K290_30 rfl trivial ?_
        refine zF_blk (m := [true, false, false, true, false, true, false, false]) (d := 0) (b := []) (gs := []) (c' := (270, [some (22, 0), none, none, some (0, (wadd 1900 (wmul 4 v1))), none, some (0, (h 14 (wadd (wadd 1900 (wmul 4 v1)) 2))), none, none], [(0, 2), (0, v2), (22, 0)], (hc, h, o))) rfl rfl trivial ?_
        exact T290_1 hd kR hkR h (wadd 1900 (wmul 4 v1)) (h 14 (wadd (wadd 1900 (wmul 4 v1)) 2)) 2 v2 _ e
    · refine zF_blk (m := []) (d := 0) (b := B290_33) (gs := [¬ (¬ (wsub (h 14 (wadd 1900 (wmul 4 v1))) 50) = 18)]) (c' := (253, [some (22, 0), some (0, v1), some (0, v2), some (0, (wadd 1900 (wmul 4 v1))), some (0, (h 14 (wadd (wadd 1900 (wmul 4 v1)) 1))), some (0, (h 14 (wadd (wadd 1900 (wmul 4 v1)) 2))), some (0, (wsub (h 14 (wadd 1900 (wmul 4 v1))) 50)), none], [(0, v2), (22, 0)], (hc, h, o))) K290_33 rfl ⟨q33, trivial⟩ ?_
      refine zF_blk (m := []) (d := 0) (b := B290_32) (gs := []) (c' := (270, [some (22, 0), some (0, v1), some (0, v2), some (0, (wadd 1900 (wmul 4 v1))), some (0, (h 14 (wadd (wadd 1900 (wmul 4 v1)) 1))), some (0, (h 14 (wadd (wadd 1900 (wmul 4 v1)) 2))), some (0, (wsub (h 14 (wadd 1900 (wmul 4 v1))) 50)), none], [(0, 4), (0, v2), (22, 0)], (hc, h, o))) K290_32 rfl trivial ?_
      refine zF_blk (m := [true, false, false, true, false, true, false, false]) (d := 0) (b := []) (gs := []) (c' := (270, [some (22, 0), none, none, some (0, (wadd 1900 (wmul 4 v1))), none, some (0, (h 14 (wadd (wadd 1900 (wmul 4 v1)) 2))), none, none], [(0, 4), (0, v2), (22, 0)], (hc, h, o))) rfl rfl trivial ?_
      exact T290_1 hd kR hkR h (wadd 1900 (wmul 4 v1)) (h 14 (wadd (wadd 1900 (wmul 4 v1)) 2)) 4 v2 _ e
  · refine zF_blk (m := []) (d := 0) (b := B290_35) (gs := [0 ≤ (wadd 1900 (wmul 4 v1)) ∧ (wadd 1900 (wmul 4 v1)) < 2140, ¬ (¬ (wsub (h 14 (wadd 1900 (wmul 4 v1))) 50) = 17)]) (c' := (242, [some (22, 0), some (0, v1), some (0, v2), some (0, (wadd 1900 (wmul 4 v1))), some (0, (h 14 (wadd (wadd 1900 (wmul 4 v1)) 1))), some (0, (h 14 (wadd (wadd 1900 (wmul 4 v1)) 2))), some (0, (wsub (h 14 (wadd 1900 (wmul 4 v1))) 50)), none], [(0, v2), (22, 0)], (hc, h, o))) K290_35 rfl ⟨q31, q32, trivial⟩ ?_
    refine zF_blk (m := []) (d := 0) (b := B290_34) (gs := []) (c' := (270, [some (22, 0), some (0, v1), some (0, v2), some (0, (wadd 1900 (wmul 4 v1))), some (0, (h 14 (wadd (wadd 1900 (wmul 4 v1)) 1))), some (0, (h 14 (wadd (wadd 1900 (wmul 4 v1)) 2))), some (0, (wsub (h 14 (wadd 1900 (wmul 4 v1))) 50)), none], [(0, 0), (0, v2), (22, 0)], (hc, h, o))) K290_34 rfl trivial ?_
    refine zF_blk (m := [true, false, false, true, false, true, false, false]) (d := 0) (b := []) (gs := []) (c' := (270, [some (22, 0), none, none, some (0, (wadd 1900 (wmul 4 v1))), none, some (0, (h 14 (wadd (wadd 1900 (wmul 4 v1)) 2))), none, none], [(0, 0), (0, v2), (22, 0)], (hc, h, o))) rfl rfl trivial ?_
    exact T290_1 hd kR hkR h (wadd 1900 (wmul 4 v1)) (h 14 (wadd (wadd 1900 (wmul 4 v1)) 2)) 0 v2 _ e
