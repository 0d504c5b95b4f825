/-! Functions of the methods, by wip/gen/lift.py. -/
def B156_0 : List zRow := [(15, .iconst (-1), 1, (0, 0, 0))]
theorem K156_0 : zRk 156 B156_0 = true := by decide +kernel
def B156_1 : List zRow := [(17, .iconst 0, 1, (0, 0, 0)), (18, .istore_n 2, 1, (0, 0, 0)), (19, .iconst 0, 1, (0, 0, 0)), (20, .istore_n 3, 1, (0, 0, 0))]
theorem K156_1 : zRk 156 B156_1 = true := by decide +kernel
def B156_2 : List zRow := [(10, .iload_n 1, 1, (0, 0, 0)), (11, .iconst (-1), 1, (0, 0, 0)), (12, .if_icmp .ge 5, 3, (0, 0, 0))]
theorem K156_2 : zRk 156 B156_2 = true := by decide +kernel
def B156_3 : List zRow := [(0, .aload_n 0, 1, (0, 0, 0)), (1, .getfield 42, 3, (11, 4, 27)), (4, .getfield 351, 3, (6, 0, 0)), (7, .ifCond .eq 8, 3, (0, 0, 0))]
theorem K156_3 : zRk 156 B156_3 = true := by decide +kernel
def B156_4 : List zRow := [(72, .iconst (-1), 1, (0, 0, 0))]
theorem K156_4 : zRk 156 B156_4 = true := by decide +kernel
def B156_5 : List zRow := [(68, .iload_n 2, 1, (0, 0, 0)), (69, .goto 4, 3, (0, 0, 0))]
theorem K156_5 : zRk 156 B156_5 = true := by decide +kernel
def B156_6 : List zRow := [(63, .iload_n 1, 1, (0, 0, 0)), (64, .iconst (-1), 1, (0, 0, 0)), (65, .if_icmp .ne 7, 3, (0, 0, 0))]
theorem K156_6 : zRk 156 B156_6 = true := by decide +kernel
def B156_7 : List zRow := [(32, .aload_n 0, 1, (0, 0, 0)), (33, .getfield 42, 3, (11, 4, 27)), (36, .aload_n 0, 1, (0, 0, 0)), (37, .getfield 56, 3, (11, 6, 7)), (40, .iload_n 3, 1, (0, 0, 0))]
theorem K156_7 : zRk 156 B156_7 = true := by decide +kernel
def B156_8 : List zRow := [(54, .iinc 2 1, 3, (0, 0, 0))]
theorem K156_8 : zRk 156 B156_8 = true := by decide +kernel
def B156_9 : List zRow := [(52, .iload_n 3, 1, (0, 0, 0))]
theorem K156_9 : zRk 156 B156_9 = true := by decide +kernel
def B156_10 : List zRow := [(47, .iload_n 2, 1, (0, 0, 0)), (48, .iload_n 1, 1, (0, 0, 0)), (49, .if_icmp .ne 5, 3, (0, 0, 0))]
theorem K156_10 : zRk 156 B156_10 = true := by decide +kernel
def B156_11 : List zRow := [(44, .ifCond .eq 13, 3, (0, 0, 0))]
theorem K156_11 : zRk 156 B156_11 = true := by decide +kernel
def B156_12 : List zRow := [(21, .iload_n 3, 1, (0, 0, 0)), (22, .aload_n 0, 1, (0, 0, 0)), (23, .getfield 56, 3, (11, 6, 7)), (26, .getfield 354, 3, (1, 1, 0)), (29, .if_icmp .ge 34, 3, (0, 0, 0))]
theorem K156_12 : zRk 156 B156_12 = true := by decide +kernel
def B156_13 : List zRow := [(57, .iinc 3 1, 3, (0, 0, 0)), (60, .goto (-39), 3, (0, 0, 0))]
theorem K156_13 : zRk 156 B156_13 = true := by decide +kernel
def F156_1 (k0 : Int → Int → Int → zHC → Option (Int × zHC)) (v1 : Int) (v2 : Int) (v3 : Int) (h : zHC) : Option (Int × zHC) := k0 v1 v2 (wadd v3 1) h
set_option maxRecDepth 100000 in
theorem T156_1 {spec : zRn zH2} {hm : zHM} {o : Int → Int} {d : Nat} (hd : 3 ≤ d) (k0 : Int → Int → Int → zHC → Option (Int × zHC)) (hk0 : ∀ (v1 : Int) (v2 : Int) (v3 : Int) (h : zHC) (v : (Int × zHC)), k0 v1 v2 v3 h = some v → zFin 0 (fun _ => 0) (zRu2 spec d) 156 (some (0, v.1)) (v.2, hm, o) (21, [some (21, 0), some (0, v1), some (0, v2), some (0, v3)], [], (h, hm, o))) (v1 : Int) (v2 : Int) (v3 : Int) (h : zHC) (v : (Int × zHC)) (e : F156_1 k0 v1 v2 v3 h = some v) : zFin 0 (fun _ => 0) (zRu2 spec d) 156 (some (0, v.1)) (v.2, hm, o) (57, [some (21, 0), some (0, v1), some (0, v2), some (0, v3)], [], (h, hm, o)) := by
  unfold F156_1 at e
  refine zF_blk (m := []) (d := 0) (b := B156_13) (gs := []) (c' := (21, [some (21, 0), some (0, v1), some (0, v2), some (0, (wadd v3 1))], [], (h, hm, o))) K156_13 rfl trivial ?_
  exact hk0 v1 v2 (wadd v3 1) h _ e
def F156_0 : Nat → Int → Int → Int → zHC → Option (Int × zHC)
  | 0, _, _, _, _ => none
  | n + 1, v1, v2, v3, h => if (h 65 0 0) ≤ v3 then if ¬ v1 = (-1) then some ((-1), h) else some (v2, h) else (F157 v3 h).bind fun r1 => if r1.1 = 0 then F156_1 (F156_0 n) v1 v2 v3 r1.2 else if ¬ v2 = v1 then F156_1 (F156_0 n) v1 (wadd v2 1) v3 r1.2 else some (v3, r1.2)
set_option maxRecDepth 100000 in
theorem T156_0 {spec : zRn zH2} {hm : zHM} {o : Int → Int} {d : Nat} (hd : 3 ≤ d) : ∀ (n : Nat) (v1 : Int) (v2 : Int) (v3 : Int) (h : zHC) (v : (Int × zHC)), F156_0 n v1 v2 v3 h = some v → zFin 0 (fun _ => 0) (zRu2 spec d) 156 (some (0, v.1)) (v.2, hm, o) (21, [some (21, 0), some (0, v1), some (0, v2), some (0, v3)], [], (h, hm, o)) := by
  intro n
  induction n with
  | zero => intro v1 v2 v3 h v e; unfold F156_0 at e; cases e
  | succ n hk0 =>
    intro v1 v2 v3 h v e
    unfold F156_0 at e
    rcases zI_s e with ⟨q1, e⟩ | ⟨q1, e⟩
    · refine zF_blk (m := []) (d := 1) (b := B156_12) (gs := [(h 65 0 0) ≤ v3]) (c' := (63, [some (21, 0), some (0, v1), some (0, v2), some (0, v3)], [], (h, hm, o))) K156_12 rfl ⟨q1, trivial⟩ ?_
      rcases zI_s e with ⟨q2, e⟩ | ⟨q2, e⟩
      · refine zF_blk (m := []) (d := 1) (b := B156_6) (gs := [¬ v1 = (-1)]) (c' := (72, [some (21, 0), some (0, v1), some (0, v2), some (0, v3)], [], (h, hm, o))) K156_6 rfl ⟨q2, trivial⟩ ?_
        refine zF_blk (m := []) (d := 0) (b := B156_4) (gs := []) (c' := (73, [some (21, 0), some (0, v1), some (0, v2), some (0, v3)], [(0, (-1))], (h, hm, o))) K156_4 rfl trivial ?_
        exact zF_riC (by decide +kernel) e
      · refine zF_blk (m := []) (d := 0) (b := B156_6) (gs := [¬ (¬ v1 = (-1))]) (c' := (68, [some (21, 0), some (0, v1), some (0, v2), some (0, v3)], [], (h, hm, o))) K156_6 rfl ⟨q2, trivial⟩ ?_
        refine zF_blk (m := []) (d := 0) (b := B156_5) (gs := []) (c' := (73, [some (21, 0), some (0, v1), some (0, v2), some (0, v3)], [(0, v2)], (h, hm, o))) K156_5 rfl trivial ?_
        exact zF_riC (by decide +kernel) e
    · refine zF_blk (m := []) (d := 0) (b := B156_12) (gs := [¬ ((h 65 0 0) ≤ v3)]) (c' := (32, [some (21, 0), some (0, v1), some (0, v2), some (0, v3)], [], (h, hm, o))) K156_12 rfl ⟨q1, trivial⟩ ?_
      obtain ⟨r1, q3, e⟩ := zB_s e
      refine zF_blk (m := []) (d := 0) (b := B156_7) (gs := []) (c' := (41, [some (21, 0), some (0, v1), some (0, v2), some (0, v3)], [(0, v3), (11, 0), (16, 0)], (h, hm, o))) K156_7 rfl trivial ?_
      refine zF_call (k := 157) (cl := 6) (n := 3) (i := .invokevirtual 355) (args := [(16, 0), (11, 0), (0, v3)]) (rest := []) (g1 := (r1.2, hm, o)) (r1 := some (0, r1.1)) (by decide +kernel) rfl rfl rfl (st' := [(0, r1.1)]) rfl (S157 (Nat.le_trans (by decide) hd) v3 h _ q3) ?_
      rcases zI_s e with ⟨q4, e⟩ | ⟨q4, e⟩
      · refine zF_blk (m := []) (d := 1) (b := B156_11) (gs := [r1.1 = 0]) (c' := (57, [some (21, 0), some (0, v1), some (0, v2), some (0, v3)], [], (r1.2, hm, o))) K156_11 rfl ⟨q4, trivial⟩ ?_
        exact T156_1 hd (F156_0 n) hk0 v1 v2 v3 r1.2 _ e
      · refine zF_blk (m := []) (d := 0) (b := B156_11) (gs := [¬ (r1.1 = 0)]) (c' := (47, [some (21, 0), some (0, v1), some (0, v2), some (0, v3)], [], (r1.2, hm, o))) K156_11 rfl ⟨q4, trivial⟩ ?_
        rcases zI_s e with ⟨q5, e⟩ | ⟨q5, e⟩
        · refine zF_blk (m := []) (d := 1) (b := B156_10) (gs := [¬ v2 = v1]) (c' := (54, [some (21, 0), some (0, v1), some (0, v2), some (0, v3)], [], (r1.2, hm, o))) K156_10 rfl ⟨q5, trivial⟩ ?_
          refine zF_blk (m := []) (d := 0) (b := B156_8) (gs := []) (c' := (57, [some (21, 0), some (0, v1), some (0, (wadd v2 1)), some (0, v3)], [], (r1.2, hm, o))) K156_8 rfl trivial ?_
          exact T156_1 hd (F156_0 n) hk0 v1 (wadd v2 1) v3 r1.2 _ e
        · refine zF_blk (m := []) (d := 0) (b := B156_10) (gs := [¬ (¬ v2 = v1)]) (c' := (52, [some (21, 0), some (0, v1), some (0, v2), some (0, v3)], [], (r1.2, hm, o))) K156_10 rfl ⟨q5, trivial⟩ ?_
          refine zF_blk (m := []) (d := 0) (b := B156_9) (gs := []) (c' := (53, [some (21, 0), some (0, v1), some (0, v2), some (0, v3)], [(0, v3)], (r1.2, hm, o))) K156_9 rfl trivial ?_
          exact zF_riC (by decide +kernel) e
/-- EchoVale.said(I)I -/
def F156 (v1 : Int) (h : zHC) : Option (Int × zHC) := if (h 384 0 0) = 0 then some ((-1), h) else if (-1) ≤ v1 then F156_0 zFu v1 0 0 h else some ((-1), h)
set_option maxRecDepth 100000 in
theorem S156 {spec : zRn zH2} {hm : zHM} {o : Int → Int} {d : Nat} (hd : 4 ≤ d) (v1 : Int) (h : zHC) (v : (Int × zHC)) (e : F156 v1 h = some v) : zRu2 spec d 156 [(21, 0), (0, v1)] (h, hm, o) (some (0, v.1)) (v.2, hm, o) := by
  refine zF_in (D := 3) (mx := 4) (L := [some (21, 0), some (0, v1), none, none]) (by decide +kernel) rfl rfl hd (fun d hd => ?_)
  unfold F156 at e
  rcases zI_s e with ⟨q1, e⟩ | ⟨q1, e⟩
  · refine zF_blk (m := []) (d := 1) (b := B156_3) (gs := [(h 384 0 0) = 0]) (c' := (15, [some (21, 0), some (0, v1), none, none], [], (h, hm, o))) K156_3 rfl ⟨q1, trivial⟩ ?_
    refine zF_blk (m := []) (d := 0) (b := B156_0) (gs := []) (c' := (16, [some (21, 0), some (0, v1), none, none], [(0, (-1))], (h, hm, o))) K156_0 rfl trivial ?_
    exact zF_riC (by decide +kernel) e
  · refine zF_blk (m := []) (d := 0) (b := B156_3) (gs := [¬ ((h 384 0 0) = 0)]) (c' := (10, [some (21, 0), some (0, v1), none, none], [], (h, hm, o))) K156_3 rfl ⟨q1, trivial⟩ ?_
    rcases zI_s e with ⟨q2, e⟩ | ⟨q2, e⟩
    · refine zF_blk (m := []) (d := 1) (b := B156_2) (gs := [(-1) ≤ v1]) (c' := (17, [some (21, 0), some (0, v1), none, none], [], (h, hm, o))) K156_2 rfl ⟨q2, trivial⟩ ?_
      refine zF_blk (m := []) (d := 0) (b := B156_1) (gs := []) (c' := (21, [some (21, 0), some (0, v1), some (0, 0), some (0, 0)], [], (h, hm, o))) K156_1 rfl trivial ?_
      exact T156_0 hd zFu v1 0 0 h _ e
    · refine zF_blk (m := []) (d := 0) (b := B156_2) (gs := [¬ ((-1) ≤ v1)]) (c' := (15, [some (21, 0), some (0, v1), none, none], [], (h, hm, o))) K156_2 rfl ⟨q2, trivial⟩ ?_
      refine zF_blk (m := []) (d := 0) (b := B156_0) (gs := []) (c' := (16, [some (21, 0), some (0, v1), none, none], [(0, (-1))], (h, hm, o))) K156_0 rfl trivial ?_
      exact zF_riC (by decide +kernel) e
def B291_0 : List zRow := [(0, .aload_n 0, 1, (0, 0, 0)), (1, .iload_n 1, 1, (0, 0, 0)), (2, .bipush 6, 2, (0, 0, 0))]
theorem K291_0 : zRk 291 B291_0 = true := by decide +kernel
def B291_1 : List zRow := [(12, .iconst 0, 1, (0, 0, 0)), (13, .istore_n 2, 1, (0, 0, 0))]
theorem K291_1 : zRk 291 B291_1 = true := by decide +kernel
def B291_2 : List zRow := [(10, .iconst 0, 1, (0, 0, 0))]
theorem K291_2 : zRk 291 B291_2 = true := by decide +kernel
def B291_3 : List zRow := [(7, .ifCond .le 5, 3, (0, 0, 0))]
theorem K291_3 : zRk 291 B291_3 = true := by decide +kernel
def B291_4 : List zRow := [(52, .iconst 1, 1, (0, 0, 0))]
theorem K291_4 : zRk 291 B291_4 = true := by decide +kernel
def B291_5 : List zRow := [(24, .aload_n 0, 1, (0, 0, 0)), (25, .iload_n 1, 1, (0, 0, 0)), (26, .iload_n 2, 1, (0, 0, 0)), (27, .iconst 0, 1, (0, 0, 0))]
theorem K291_5 : zRk 291 B291_5 = true := by decide +kernel
def B291_6 : List zRow := [(34, .aload_n 0, 1, (0, 0, 0)), (35, .iload_n 1, 1, (0, 0, 0)), (36, .iload_n 2, 1, (0, 0, 0)), (37, .iconst 2, 1, (0, 0, 0))]
theorem K291_6 : zRk 291 B291_6 = true := by decide +kernel
def B291_7 : List zRow := [(44, .iconst 0, 1, (0, 0, 0))]
theorem K291_7 : zRk 291 B291_7 = true := by decide +kernel
def B291_8 : List zRow := [(41, .ifCond .ne 5, 3, (0, 0, 0))]
theorem K291_8 : zRk 291 B291_8 = true := by decide +kernel
def B291_9 : List zRow := [(31, .ifCond .le 15, 3, (0, 0, 0))]
theorem K291_9 : zRk 291 B291_9 = true := by decide +kernel
def B291_10 : List zRow := [(14, .iload_n 2, 1, (0, 0, 0)), (15, .aload_n 0, 1, (0, 0, 0)), (16, .getfield 13, 3, (12, 14, 5251442)), (19, .iconst 2, 1, (0, 0, 0)), (20, .iaload, 1, (0, 0, 0)), (21, .if_icmp .ge 31, 3, (0, 0, 0))]
theorem K291_10 : zRk 291 B291_10 = true := by decide +kernel
def B291_11 : List zRow := [(46, .iinc 2 1, 3, (0, 0, 0)), (49, .goto (-35), 3, (0, 0, 0))]
theorem K291_11 : zRk 291 B291_11 = true := by decide +kernel
def F291_1 (k0 : Int → Int → Option Int) (h : zHM) (v1 : Int) (v2 : Int) : Option Int := k0 v1 (wadd v2 1)
set_option maxRecDepth 100000 in
theorem T291_1 {spec : zRn zH2} {hc : zHC} {o : Int → Int} {d : Nat} (hd : 1 ≤ d) (h : zHM) (k0 : Int → Int → Option Int) (hk0 : ∀ (v1 : Int) (v2 : Int) (v : Int), k0 v1 v2 = some v → zFin 0 (fun _ => 0) (zRu2 spec d) 291 (some (0, v)) (hc, h, o) (14, [some (22, 0), some (0, v1), some (0, v2)], [], (hc, h, o))) (v1 : Int) (v2 : Int) (v : Int) (e : F291_1 k0 h v1 v2 = some v) : zFin 0 (fun _ => 0) (zRu2 spec d) 291 (some (0, v)) (hc, h, o) (46, [some (22, 0), some (0, v1), some (0, v2)], [], (hc, h, o)) := by
  unfold F291_1 at e
  refine zF_blk (m := []) (d := 0) (b := B291_11) (gs := []) (c' := (14, [some (22, 0), some (0, v1), some (0, (wadd v2 1))], [], (hc, h, o))) K291_11 rfl trivial ?_
  exact hk0 v1 (wadd v2 1) _ e
def F291_0 (h : zHM) : Nat → Int → Int → Option Int
  | 0, _, _ => none
  | n + 1, v1, v2 => if (h 14 2) ≤ v2 then some 1 else (F219 v1 v2 0 h).bind fun r1 => if r1 ≤ 0 then F291_1 (F291_0 h n) h v1 v2 else (F219 v1 v2 2 h).bind fun r2 => if ¬ r2 = 0 then F291_1 (F291_0 h n) h v1 v2 else some 0
set_option maxRecDepth 100000 in
theorem T291_0 {spec : zRn zH2} {hc : zHC} {o : Int → Int} {d : Nat} (hd : 1 ≤ d) (h : zHM) : ∀ (n : Nat) (v1 : Int) (v2 : Int) (v : Int), F291_0 h n v1 v2 = some v → zFin 0 (fun _ => 0) (zRu2 spec d) 291 (some (0, v)) (hc, h, o) (14, [some (22, 0), some (0, v1), some (0, v2)], [], (hc, h, o)) := by
  intro n
  induction n with
  | zero => intro v1 v2 v e; unfold F291_0 at e; cases e
  | succ n hk0 =>
    intro v1 v2 v e
    unfold F291_0 at e
    rcases zI_s e with ⟨q1, e⟩ | ⟨q1, e⟩
    · refine zF_blk (m := []) (d := 1) (b := B291_10) (gs := [0 ≤ 2 ∧ 2 < 2140, (h 14 2) ≤ v2]) (c' := (52, [some (22, 0), some (0, v1), some (0, v2)], [], (hc, h, o))) K291_10 rfl ⟨by decide, q1, trivial⟩ ?_
      refine zF_blk (m := []) (d := 0) (b := B291_4) (gs := []) (c' := (53, [some (22, 0), some (0, v1), some (0, v2)], [(0, 1)], (hc, h, o))) K291_4 rfl trivial ?_
      obtain rfl := Option.some.inj e
      exact zF_rb (by decide +kernel) (Or.inr rfl)
    · refine zF_blk (m := []) (d := 0) (b := B291_10) (gs := [0 ≤ 2 ∧ 2 < 2140, ¬ ((h 14 2) ≤ v2)]) (c' := (24, [some (22, 0), some (0, v1), some (0, v2)], [], (hc, h, o))) K291_10 rfl ⟨by decide, q1, trivial⟩ ?_
      obtain ⟨r1, q2, e⟩ := zB_s e
      refine zF_blk (m := []) (d := 0) (b := B291_5) (gs := []) (c' := (28, [some (22, 0), some (0, v1), some (0, v2)], [(0, 0), (0, v2), (0, v1), (22, 0)], (hc, h, o))) K291_5 rfl trivial ?_
      refine zF_call (k := 219) (cl := 12) (n := 4) (i := .invokevirtual 269) (args := [(22, 0), (0, v1), (0, v2), (0, 0)]) (rest := []) (g1 := (hc, h, o)) (r1 := some (0, r1)) (by decide +kernel) rfl rfl rfl (st' := [(0, r1)]) rfl (S219 (Nat.le_trans (by decide) hd) v1 v2 0 h _ q2) ?_
      rcases zI_s e with ⟨q3, e⟩ | ⟨q3, e⟩
      · refine zF_blk (m := []) (d := 1) (b := B291_9) (gs := [r1 ≤ 0]) (c' := (46, [some (22, 0), some (0, v1), some (0, v2)], [], (hc, h, o))) K291_9 rfl ⟨q3, trivial⟩ ?_
        exact T291_1 hd h (F291_0 h n) hk0 v1 v2 _ e
      · refine zF_blk (m := []) (d := 0) (b := B291_9) (gs := [¬ (r1 ≤ 0)]) (c' := (34, [some (22, 0), some (0, v1), some (0, v2)], [], (hc, h, o))) K291_9 rfl ⟨q3, trivial⟩ ?_
        obtain ⟨r2, q4, e⟩ := zB_s e
        refine zF_blk (m := []) (d := 0) (b := B291_6) (gs := []) (c' := (38, [some (22, 0), some (0, v1), some (0, v2)], [(0, 2), (0, v2), (0, v1), (22, 0)], (hc, h, o))) K291_6 rfl trivial ?_
        refine zF_call (k := 219) (cl := 12) (n := 4) (i := .invokevirtual 269) (args := [(22, 0), (0, v1), (0, v2), (0, 2)]) (rest := []) (g1 := (hc, h, o)) (r1 := some (0, r2)) (by decide +kernel) rfl rfl rfl (st' := [(0, r2)]) rfl (S219 (Nat.le_trans (by decide) hd) v1 v2 2 h _ q4) ?_
        rcases zI_s e with ⟨q5, e⟩ | ⟨q5, e⟩
        · refine zF_blk (m := []) (d := 1) (b := B291_8) (gs := [¬ r2 = 0]) (c' := (46, [some (22, 0), some (0, v1), some (0, v2)], [], (hc, h, o))) K291_8 rfl ⟨q5, trivial⟩ ?_
          exact T291_1 hd h (F291_0 h n) hk0 v1 v2 _ e
        · refine zF_blk (m := []) (d := 0) (b := B291_8) (gs := [¬ (¬ r2 = 0)]) (c' := (44, [some (22, 0), some (0, v1), some (0, v2)], [], (hc, h, o))) K291_8 rfl ⟨q5, trivial⟩ ?_
          refine zF_blk (m := []) (d := 0) (b := B291_7) (gs := []) (c' := (45, [some (22, 0), some (0, v1), some (0, v2)], [(0, 0)], (hc, h, o))) K291_7 rfl trivial ?_
          obtain rfl := Option.some.inj e
          exact zF_rb (by decide +kernel) (Or.inl rfl)
/-- EchoValeModel.isLost(I)Z -/
def F291 (v1 : Int) (h : zHM) : Option Int := (F213 v1 6 h).bind fun r1 => if r1 ≤ 0 then F291_0 h zFu v1 0 else some 0
set_option maxRecDepth 100000 in
theorem S291 {spec : zRn zH2} {hc : zHC} {o : Int → Int} {d : Nat} (hd : 2 ≤ d) (v1 : Int) (h : zHM) (v : Int) (e : F291 v1 h = some v) : zRu2 spec d 291 [(22, 0), (0, v1)] (hc, h, o) (some (0, v)) (hc, h, o) := by
  refine zF_in (D := 1) (mx := 3) (L := [some (22, 0), some (0, v1), none]) (by decide +kernel) rfl rfl hd (fun d hd => ?_)
  unfold F291 at e
  obtain ⟨r1, q1, e⟩ := zB_s e
  refine zF_blk (m := []) (d := 0) (b := B291_0) (gs := []) (c' := (4, [some (22, 0), some (0, v1), none], [(0, 6), (0, v1), (22, 0)], (hc, h, o))) K291_0 rfl trivial ?_
  refine zF_call (k := 213) (cl := 12) (n := 3) (i := .invokevirtual 247) (args := [(22, 0), (0, v1), (0, 6)]) (rest := []) (g1 := (hc, h, o)) (r1 := some (0, r1)) (by decide +kernel) rfl rfl rfl (st' := [(0, r1)]) rfl (S213 (Nat.le_trans (by decide) hd) v1 6 h _ q1) ?_
  rcases zI_s e with ⟨q2, e⟩ | ⟨q2, e⟩
  · refine zF_blk (m := []) (d := 1) (b := B291_3) (gs := [r1 ≤ 0]) (c' := (12, [some (22, 0), some (0, v1), none], [], (hc, h, o))) K291_3 rfl ⟨q2, trivial⟩ ?_
    refine zF_blk (m := []) (d := 0) (b := B291_1) (gs := []) (c' := (14, [some (22, 0), some (0, v1), some (0, 0)], [], (hc, h, o))) K291_1 rfl trivial ?_
    exact T291_0 hd h zFu v1 0 _ e
  · refine zF_blk (m := []) (d := 0) (b := B291_3) (gs := [¬ (r1 ≤ 0)]) (c' := (10, [some (22, 0), some (0, v1), none], [], (hc, h, o))) K291_3 rfl ⟨q2, trivial⟩ ?_
    refine zF_blk (m := []) (d := 0) (b := B291_2) (gs := []) (c' := (11, [some (22, 0), some (0, v1), none], [(0, 0)], (hc, h, o))) K291_2 rfl trivial ?_
    obtain rfl := Option.some.inj e
    exact zF_rb (by decide +kernel) (Or.inl rfl)
def B290_0 : List zRow := [(0, .sipush 1900, 3, (0, 0, 0)), (3, .iconst 4, 1, (0, 0, 0)), (4, .iload_n 1, 1, (0, 0, 0))]
theorem K290_0 : zRk 290 B290_0 = true := by decide +kernel
def B290_1 : List zRow := [(5, .imul, 1, (0, 0, 0))]
theorem K290_1 : zRk 290 B290_1 = true := by decide +kernel
def B290_2 : List zRow := [(100, .aload_n 0, 1, (0, 0, 0)), (101, .iload 4, 2, (0, 0, 0)), (103, .iload_n 2, 1, (0, 0, 0))]
theorem K290_2 : zRk 290 B290_2 = true := by decide +kernel
def B290_3 : List zRow := [(114, .iconst 0, 1, (0, 0, 0))]
theorem K290_3 : zRk 290 B290_3 = true := by decide +kernel
def B290_4 : List zRow := [(110, .iconst 1, 1, (0, 0, 0)), (111, .goto 4, 3, (0, 0, 0))]
theorem K290_4 : zRk 290 B290_4 = true := by decide +kernel
def B290_5 : List zRow := [(107, .ifCond .ne 7, 3, (0, 0, 0))]
theorem K290_5 : zRk 290 B290_5 = true := by decide +kernel
def B290_6 : List zRow := [(6, .iadd, 1, (0, 0, 0)), (7, .istore_n 3, 1, (0, 0, 0)), (8, .aload_n 0, 1, (0, 0, 0)), (9, .getfield 13, 3, (12, 14, 5251442)), (12, .iload_n 3, 1, (0, 0, 0)), (13, .iconst 1, 1, (0, 0, 0)), (14, .iadd, 1, (0, 0, 0)), (15, .iaload, 1, (0, 0, 0)), (16, .istore 4, 2, (0, 0, 0)), (18, .aload_n 0, 1, (0, 0, 0)), (19, .getfield 13, 3, (12, 14, 5251442)), (22, .iload_n 3, 1, (0, 0, 0)), (23, .iconst 2, 1, (0, 0, 0)), (24, .iadd, 1, (0, 0, 0)), (25, .iaload, 1, (0, 0, 0)), (26, .istore 5, 2, (0, 0, 0)), (28, .aload_n 0, 1, (0, 0, 0)), (29, .getfield 13, 3, (12, 14, 5251442)), (32, .iload_n 3, 1, (0, 0, 0)), (33, .iaload, 1, (0, 0, 0)), (34, .lookupswitch 188 #[(1, 66), (2, 82), (3, 108), (63, 134), (64, 140), (65, 159), (66, 171)], 66, (0, 0, 0))]
theorem K290_6 : zRk 290 B290_6 = true := by decide +kernel
def B290_7 : List zRow := [(116, .aload_n 0, 1, (0, 0, 0)), (117, .iload 4, 2, (0, 0, 0)), (119, .iload_n 2, 1, (0, 0, 0))]
theorem K290_7 : zRk 290 B290_7 = true := by decide +kernel
def B290_8 : List zRow := [(140, .iconst 0, 1, (0, 0, 0))]
theorem K290_8 : zRk 290 B290_8 = true := by decide +kernel
def B290_9 : List zRow := [(126, .aload_n 0, 1, (0, 0, 0)), (127, .iload 5, 2, (0, 0, 0)), (129, .iload_n 2, 1, (0, 0, 0))]
theorem K290_9 : zRk 290 B290_9 = true := by decide +kernel
def B290_10 : List zRow := [(136, .iconst 1, 1, (0, 0, 0)), (137, .goto 4, 3, (0, 0, 0))]
theorem K290_10 : zRk 290 B290_10 = true := by decide +kernel
def B290_11 : List zRow := [(133, .ifCond .eq 7, 3, (0, 0, 0))]
theorem K290_11 : zRk 290 B290_11 = true := by decide +kernel
def B290_12 : List zRow := [(123, .ifCond .eq 17, 3, (0, 0, 0))]
theorem K290_12 : zRk 290 B290_12 = true := by decide +kernel
def B290_13 : List zRow := [(142, .aload_n 0, 1, (0, 0, 0)), (143, .iload 4, 2, (0, 0, 0)), (145, .iload_n 2, 1, (0, 0, 0))]
theorem K290_13 : zRk 290 B290_13 = true := by decide +kernel
def B290_14 : List zRow := [(152, .aload_n 0, 1, (0, 0, 0)), (153, .iload 5, 2, (0, 0, 0)), (155, .iload_n 2, 1, (0, 0, 0))]
theorem K290_14 : zRk 290 B290_14 = true := by decide +kernel
def B290_15 : List zRow := [(166, .iconst 0, 1, (0, 0, 0))]
theorem K290_15 : zRk 290 B290_15 = true := by decide +kernel
def B290_16 : List zRow := [(159, .ifCond .eq 7, 3, (0, 0, 0))]
theorem K290_16 : zRk 290 B290_16 = true := by decide +kernel
def B290_17 : List zRow := [(149, .ifCond .ne 13, 3, (0, 0, 0))]
theorem K290_17 : zRk 290 B290_17 = true := by decide +kernel
def B290_18 : List zRow := [(168, .aload_n 0, 1, (0, 0, 0)), (169, .iload_n 2, 1, (0, 0, 0))]
theorem K290_18 : zRk 290 B290_18 = true := by decide +kernel
def B290_19 : List zRow := [(174, .aload_n 0, 1, (0, 0, 0)), (175, .iload_n 2, 1, (0, 0, 0)), (176, .iconst 5, 1, (0, 0, 0))]
theorem K290_19 : zRk 290 B290_19 = true := by decide +kernel
def B290_20 : List zRow := [(191, .iconst 0, 1, (0, 0, 0))]
theorem K290_20 : zRk 290 B290_20 = true := by decide +kernel
def B290_21 : List zRow := [(187, .iconst 1, 1, (0, 0, 0)), (188, .goto 4, 3, (0, 0, 0))]
theorem K290_21 : zRk 290 B290_21 = true := by decide +kernel
def B290_22 : List zRow := [(183, .iconst 1, 1, (0, 0, 0)), (184, .if_icmp .le 7, 3, (0, 0, 0))]
theorem K290_22 : zRk 290 B290_22 = true := by decide +kernel
def B290_23 : List zRow := [(193, .aload_n 0, 1, (0, 0, 0)), (194, .iload_n 2, 1, (0, 0, 0)), (195, .iconst 5, 1, (0, 0, 0))]
theorem K290_23 : zRk 290 B290_23 = true := by decide +kernel
def B290_24 : List zRow := [(199, .iload 4, 2, (0, 0, 0))]
theorem K290_24 : zRk 290 B290_24 = true := by decide +kernel
def B290_25 : List zRow := [(205, .aload_n 0, 1, (0, 0, 0)), (206, .iload_n 2, 1, (0, 0, 0)), (207, .iconst 1, 1, (0, 0, 0))]
theorem K290_25 : zRk 290 B290_25 = true := by decide +kernel
def B290_26 : List zRow := [(220, .iconst 0, 1, (0, 0, 0))]
theorem K290_26 : zRk 290 B290_26 = true := by decide +kernel
def B290_27 : List zRow := [(216, .iconst 1, 1, (0, 0, 0)), (217, .goto 4, 3, (0, 0, 0))]
theorem K290_27 : zRk 290 B290_27 = true := by decide +kernel
def B290_28 : List zRow := [(211, .iload 4, 2, (0, 0, 0)), (213, .if_icmp .ne 7, 3, (0, 0, 0))]
theorem K290_28 : zRk 290 B290_28 = true := by decide +kernel
def B290_29 : List zRow := [(268, .bipush 6, 2, (0, 0, 0))]
theorem K290_29 : zRk 290 B290_29 = true := by decide +kernel
def B290_30 : List zRow := [(264, .iconst 2, 1, (0, 0, 0)), (265, .goto 5, 3, (0, 0, 0))]
theorem K290_30 : zRk 290 B290_30 = true := by decide +kernel
def B290_31 : List zRow := [(257, .iload 6, 2, (0, 0, 0)), (259, .bipush 19, 2, (0, 0, 0)), (261, .if_icmp .ne 7, 3, (0, 0, 0))]
theorem K290_31 : zRk 290 B290_31 = true := by decide +kernel
def B290_32 : List zRow := [(253, .iconst 4, 1, (0, 0, 0)), (254, .goto 16, 3, (0, 0, 0))]
theorem K290_32 : zRk 290 B290_32 = true := by decide +kernel
def B290_33 : List zRow := [(246, .iload 6, 2, (0, 0, 0)), (248, .bipush 18, 2, (0, 0, 0)), (250, .if_icmp .ne 7, 3, (0, 0, 0))]
theorem K290_33 : zRk 290 B290_33 = true := by decide +kernel
def B290_34 : List zRow := [(242, .iconst 0, 1, (0, 0, 0)), (243, .goto 27, 3, (0, 0, 0))]
theorem K290_34 : zRk 290 B290_34 = true := by decide +kernel
def B290_35 : List zRow := [(222, .aload_n 0, 1, (0, 0, 0)), (223, .getfield 13, 3, (12, 14, 5251442)), (226, .iload_n 3, 1, (0, 0, 0)), (227, .iaload, 1, (0, 0, 0)), (228, .bipush 50, 2, (0, 0, 0)), (230, .isub, 1, (0, 0, 0)), (231, .istore 6, 2, (0, 0, 0)), (233, .aload_n 0, 1, (0, 0, 0)), (234, .iload_n 2, 1, (0, 0, 0)), (235, .iload 6, 2, (0, 0, 0)), (237, .bipush 17, 2, (0, 0, 0)), (239, .if_icmp .ne 7, 3, (0, 0, 0))]
theorem K290_35 : zRk 290 B290_35 = true := by decide +kernel
def B290_36 : List zRow := [(342, .iconst 0, 1, (0, 0, 0))]
theorem K290_36 : zRk 290 B290_36 = true := by decide +kernel
def B290_37 : List zRow := [(338, .iconst 1, 1, (0, 0, 0)), (339, .goto 4, 3, (0, 0, 0))]
theorem K290_37 : zRk 290 B290_37 = true := by decide +kernel
def B290_38 : List zRow := [(331, .iload 7, 2, (0, 0, 0)), (333, .iload 5, 2, (0, 0, 0)), (335, .if_icmp .le 7, 3, (0, 0, 0))]
theorem K290_38 : zRk 290 B290_38 = true := by decide +kernel
def B290_39 : List zRow := [(327, .iconst 0, 1, (0, 0, 0)), (328, .goto 15, 3, (0, 0, 0))]
theorem K290_39 : zRk 290 B290_39 = true := by decide +kernel
def B290_40 : List zRow := [(323, .iconst 1, 1, (0, 0, 0)), (324, .goto 19, 3, (0, 0, 0))]
theorem K290_40 : zRk 290 B290_40 = true := by decide +kernel
def B290_41 : List zRow := [(316, .iload 7, 2, (0, 0, 0)), (318, .iload 5, 2, (0, 0, 0)), (320, .if_icmp .ne 7, 3, (0, 0, 0))]
theorem K290_41 : zRk 290 B290_41 = true := by decide +kernel
def B290_42 : List zRow := [(303, .aload_n 0, 1, (0, 0, 0)), (304, .getfield 13, 3, (12, 14, 5251442)), (307, .iload_n 3, 1, (0, 0, 0)), (308, .iconst 3, 1, (0, 0, 0)), (309, .iadd, 1, (0, 0, 0)), (310, .iaload, 1, (0, 0, 0)), (311, .bipush 61, 2, (0, 0, 0)), (313, .if_icmp .ne 18, 3, (0, 0, 0))]
theorem K290_42 : zRk 290 B290_42 = true := by decide +kernel
def B290_43 : List zRow := [(299, .iconst 0, 1, (0, 0, 0)), (300, .goto 43, 3, (0, 0, 0))]
theorem K290_43 : zRk 290 B290_43 = true := by decide +kernel
def B290_44 : List zRow := [(295, .iconst 1, 1, (0, 0, 0)), (296, .goto 47, 3, (0, 0, 0))]
theorem K290_44 : zRk 290 B290_44 = true := by decide +kernel
def B290_45 : List zRow := [(288, .iload 7, 2, (0, 0, 0)), (290, .iload 5, 2, (0, 0, 0)), (292, .if_icmp .ge 7, 3, (0, 0, 0))]
theorem K290_45 : zRk 290 B290_45 = true := by decide +kernel
def B290_46 : List zRow := [(273, .istore 7, 2, (0, 0, 0)), (275, .aload_n 0, 1, (0, 0, 0)), (276, .getfield 13, 3, (12, 14, 5251442)), (279, .iload_n 3, 1, (0, 0, 0)), (280, .iconst 3, 1, (0, 0, 0)), (281, .iadd, 1, (0, 0, 0)), (282, .iaload, 1, (0, 0, 0)), (283, .bipush 60, 2, (0, 0, 0)), (285, .if_icmp .ne 18, 3, (0, 0, 0))]
theorem K290_46 : zRk 290 B290_46 = true := by decide +kernel
def B290_47 : List zRow := [(162, .iconst 1, 1, (0, 0, 0)), (163, .goto 4, 3, (0, 0, 0))]
theorem K290_47 : zRk 290 B290_47 = true := by decide +kernel
def F290_1 (kR : Int → Int → zHM → Option Int) (h : zHM) (v3 : Int) (v5 : Int) (s0 : Int) (s1 : Int) : Option Int := (F213 s1 s0 h).bind fun r1 => zG (0 ≤ (wadd v3 3) ∧ (wadd v3 3) < 2140) (if ¬ (h 14 (wadd v3 3)) = 60 then zG (0 ≤ (wadd v3 3) ∧ (wadd v3 3) < 2140) (if ¬ (h 14 (wadd v3 3)) = 61 then if r1 ≤ v5 then some 0 else some 1 else if ¬ r1 = v5 then some 0 else some 1) else if v5 ≤ r1 then some 0 else some 1)
set_option maxRecDepth 100000 in
theorem T290_1 {spec : zRn zH2} {hc : zHC} {o : Int → Int} {d : Nat} {DR : Nat} (hd : DR + 2 ≤ d) (kR : Int → Int → zHM → Option Int) (hkR : ∀ (d' : Nat), DR ≤ d' → ∀ (v1 : Int) (v2 : Int) (h : zHM) (v : Int), kR v1 v2 h = some v → zRu2 spec d' 290 [(22, 0), (0, v1), (0, v2)] (hc, h, o) (some (0, v)) (hc, h, o)) (h : zHM) (v3 : Int) (v5 : Int) (s0 : Int) (s1 : Int) (v : Int) (e : F290_1 kR h v3 v5 s0 s1 = some v) : zFin 0 (fun _ => 0) (zRu2 spec d) 290 (some (0, v)) (hc, h, o) (270, [some (22, 0), none, none, some (0, v3), none, some (0, v5), none, none], [(0, s0), (0, s1), (22, 0)], (hc, h, o)) := by
  unfold F290_1 at e
  obtain ⟨r1, q1, e⟩ := zB_s e
  refine zF_call (k := 213) (cl := 12) (n := 3) (i := .invokevirtual 247) (args := [(22, 0), (0, s1), (0, s0)]) (rest := []) (g1 := (hc, h, o)) (r1 := some (0, r1)) (by decide +kernel) rfl rfl rfl (st' := [(0, r1)]) rfl (S213 (by omega) s1 s0 h _ q1) ?_
  obtain ⟨q2, e⟩ := zG_s e
  rcases zI_s e with ⟨q3, e⟩ | ⟨q3, e⟩
  · refine zF_blk (m := []) (d := 1) (b := B290_46) (gs := [0 ≤ (wadd v3 3) ∧ (wadd v3 3) < 2140, ¬ (h 14 (wadd v3 3)) = 60]) (c' := (303, [some (22, 0), none, none, some (0, v3), none, some (0, v5), none, some (0, r1)], [], (hc, h, o))) K290_46 rfl ⟨q2, q3, trivial⟩ ?_
    obtain ⟨q4, e⟩ := zG_s e
    rcases zI_s e with ⟨q5, e⟩ | ⟨q5, e⟩
    · refine zF_blk (m := []) (d := 1) (b := B290_42) (gs := [0 ≤ (wadd v3 3) ∧ (wadd v3 3) < 2140, ¬ (h 14 (wadd v3 3)) = 61]) (c' := (331, [some (22, 0), none, none, some (0, v3), none, some (0, v5), none, some (0, r1)], [], (hc, h, o))) K290_42 rfl ⟨q4, q5, trivial⟩ ?_
      rcases zI_s e with ⟨q6, e⟩ | ⟨q6, e⟩
      · refine zF_blk (m := []) (d := 1) (b := B290_38) (gs := [r1 ≤ v5]) (c' := (342, [some (22, 0), none, none, some (0, v3), none, some (0, v5), none, some (0, r1)], [], (hc, h, o))) K290_38 rfl ⟨q6, trivial⟩ ?_
        refine zF_blk (m := []) (d := 0) (b := B290_36) (gs := []) (c' := (343, [some (22, 0), none, none, some (0, v3), none, some (0, v5), none, some (0, r1)], [(0, 0)], (hc, h, o))) K290_36 rfl trivial ?_
        obtain rfl := Option.some.inj e
        exact zF_rb (by decide +kernel) (Or.inl rfl)
      · refine zF_blk (m := []) (d := 0) (b := B290_38) (gs := [¬ (r1 ≤ v5)]) (c' := (338, [some (22, 0), none, none, some (0, v3), none, some (0, v5), none, some (0, r1)], [], (hc, h, o))) K290_38 rfl ⟨q6, trivial⟩ ?_
        refine zF_blk (m := []) (d := 0) (b := B290_37) (gs := []) (c' := (343, [some (22, 0), none, none, some (0, v3), none, some (0, v5), none, some (0, r1)], [(0, 1)], (hc, h, o))) K290_37 rfl trivial ?_
        obtain rfl := Option.some.inj e
        exact zF_rb (by decide +kernel) (Or.inr rfl)
    · refine zF_blk (m := []) (d := 0) (b := B290_42) (gs := [0 ≤ (wadd v3 3) ∧ (wadd v3 3) < 2140, ¬ (¬ (h 14 (wadd v3 3)) = 61)]) (c' := (316, [some (22, 0), none, none, some (0, v3), none, some (0, v5), none, some (0, r1)], [], (hc, h, o))) K290_42 rfl ⟨q4, q5, trivial⟩ ?_
      rcases zI_s e with ⟨q7, e⟩ | ⟨q7, e⟩
      · refine zF_blk (m := []) (d := 1) (b := B290_41) (gs := [¬ r1 = v5]) (c' := (327, [some (22, 0), none, none, some (0, v3), none, some (0, v5), none, some (0, r1)], [], (hc, h, o))) K290_41 rfl ⟨q7, trivial⟩ ?_
        refine zF_blk (m := []) (d := 0) (b := B290_39) (gs := []) (c' := (343, [some (22, 0), none, none, some (0, v3), none, some (0, v5), none, some (0, r1)], [(0, 0)], (hc, h, o))) K290_39 rfl trivial ?_
        obtain rfl := Option.some.inj e
        exact zF_rb (by decide +kernel) (Or.inl rfl)
      · refine zF_blk (m := []) (d := 0) (b := B290_41) (gs := [¬ (¬ r1 = v5)]) (c' := (323, [some (22, 0), none, none, some (0, v3), none, some (0, v5), none, some (0, r1)], [], (hc, h, o))) K290_41 rfl ⟨q7, trivial⟩ ?_
        refine zF_blk (m := []) (d := 0) (b := B290_40) (gs := []) (c' := (343, [some (22, 0), none, none, some (0, v3), none, some (0, v5), none, some (0, r1)], [(0, 1)], (hc, h, o))) K290_40 rfl trivial ?_
        obtain rfl := Option.some.inj e
        exact zF_rb (by decide +kernel) (Or.inr rfl)
  · refine zF_blk (m := []) (d := 0) (b := B290_46) (gs := [0 ≤ (wadd v3 3) ∧ (wadd v3 3) < 2140, ¬ (¬ (h 14 (wadd v3 3)) = 60)]) (c' := (288, [some (22, 0), none, none, some (0, v3), none, some (0, v5), none, some (0, r1)], [], (hc, h, o))) K290_46 rfl ⟨q2, q3, trivial⟩ ?_
    rcases zI_s e with ⟨q8, e⟩ | ⟨q8, e⟩
    · refine zF_blk (m := []) (d := 1) (b := B290_45) (gs := [v5 ≤ r1]) (c' := (299, [some (22, 0), none, none, some (0, v3), none, some (0, v5), none, some (0, r1)], [], (hc, h, o))) K290_45 rfl ⟨q8, trivial⟩ ?_
      refine zF_blk (m := []) (d := 0) (b := B290_43) (gs := []) (c' := (343, [some (22, 0), none, none, some (0, v3), none, some (0, v5), none, some (0, r1)], [(0, 0)], (hc, h, o))) K290_43 rfl trivial ?_
      obtain rfl := Option.some.inj e
      exact zF_rb (by decide +kernel) (Or.inl rfl)
    · refine zF_blk (m := []) (d := 0) (b := B290_45) (gs := [¬ (v5 ≤ r1)]) (c' := (295, [some (22, 0), none, none, some (0, v3), none, some (0, v5), none, some (0, r1)], [], (hc, h, o))) K290_45 rfl ⟨q8, trivial⟩ ?_
      refine zF_blk (m := []) (d := 0) (b := B290_44) (gs := []) (c' := (343, [some (22, 0), none, none, some (0, v3), none, some (0, v5), none, some (0, r1)], [(0, 1)], (hc, h, o))) K290_44 rfl trivial ?_
      obtain rfl := Option.some.inj e
      exact zF_rb (by decide +kernel) (Or.inr rfl)
def F290_0 (kR : Int → Int → zHM → Option Int) (h : zHM) : Option Int := some 1
set_option maxRecDepth 100000 in
theorem T290_0 {spec : zRn zH2} {hc : zHC} {o : Int → Int} {d : Nat} {DR : Nat} (hd : DR + 2 ≤ d) (kR : Int → Int → zHM → Option Int) (hkR : ∀ (d' : Nat), DR ≤ d' → ∀ (v1 : Int) (v2 : Int) (h : zHM) (v : Int), kR v1 v2 h = some v → zRu2 spec d' 290 [(22, 0), (0, v1), (0, v2)] (hc, h, o) (some (0, v)) (hc, h, o)) (h : zHM) (v : Int) (e : F290_0 kR h = some v) : zFin 0 (fun _ => 0) (zRu2 spec d) 290 (some (0, v)) (hc, h, o) (162, [none, none, none, none, none, none, none, none], [], (hc, h, o)) := by
  unfold F290_0 at e
  refine zF_blk (m := []) (d := 0) (b := B290_47) (gs := []) (c' := (167, [none, none, none, none, none, none, none, none], [(0, 1)], (hc, h, o))) K290_47 rfl trivial ?_
  obtain rfl := Option.some.inj e
  exact zF_rb (by decide +kernel) (Or.inr rfl)
/-- EchoValeModel.holds(II)Z -/
def F290 (kR : Int → Int → zHM → Option Int) (v1 : Int) (v2 : Int) (h : zHM) : Option Int := zG (0 ≤ (wadd (wadd 1900 (wmul 4 v1)) 1) ∧ (wadd (wadd 1900 (wmul 4 v1)) 1) < 2140) (zG (0 ≤ (wadd (wadd 1900 (wmul 4 v1)) 2) ∧ (wadd (wadd 1900 (wmul 4 v1)) 2) < 2140) (zG (0 ≤ (wadd 1900 (wmul 4 v1)) ∧ (wadd 1900 (wmul 4 v1)) < 2140) (if (h 14 (wadd 1900 (wmul 4 v1))) = 1 then (kR (h 14 (wadd (wadd 1900 (wmul 4 v1)) 1)) v2 h).bind fun r1 => if ¬ r1 = 0 then some 0 else some 1 else if (h 14 (wadd 1900 (wmul 4 v1))) = 2 then (kR (h 14 (wadd (wadd 1900 (wmul 4 v1)) 1)) v2 h).bind fun r2 => if r2 = 0 then some 0 else (kR (h 14 (wadd (wadd 1900 (wmul 4 v1)) 2)) v2 h).bind fun r3 => if r3 = 0 then some 0 else some 1 else if (h 14 (wadd 1900 (wmul 4 v1))) = 3 then (kR (h 14 (wadd (wadd 1900 (wmul 4 v1)) 1)) v2 h).bind fun r4 => if ¬ r4 = 0 then F290_0 kR h else (kR (h 14 (wadd (wadd 1900 (wmul 4 v1)) 2)) v2 h).bind fun r5 => if r5 = 0 then some 0 else F290_0 kR h else if (h 14 (wadd 1900 (wmul 4 v1))) = 63 then (F291 v2 h).bind fun r6 => zG (r6 = 0 ∨ r6 = 1) (some r6) else if (h 14 (wadd 1900 (wmul 4 v1))) = 64 then (F213 v2 5 h).bind fun r7 => (F215 r7).bind fun r8 => if r8 ≤ 1 then some 0 else some 1 else if (h 14 (wadd 1900 (wmul 4 v1))) = 65 then (F213 v2 5 h).bind fun r9 => (F214 r9 (h 14 (wadd (wadd 1900 (wmul 4 v1)) 1))).bind fun r10 => zG (r10 = 0 ∨ r10 = 1) (some r10) else if (h 14 (wadd 1900 (wmul 4 v1))) = 66 then (F213 v2 1 h).bind fun r11 => if ¬ r11 = (h 14 (wadd (wadd 1900 (wmul 4 v1)) 1)) then some 0 else some 1 else zG (0 ≤ (wadd 1900 (wmul 4 v1)) ∧ (wadd 1900 (wmul 4 v1)) < 2140) (if ¬ (wsub (h 14 (wadd 1900 (wmul 4 v1))) 50) = 17 then if ¬ (wsub (h 14 (wadd 1900 (wmul 4 v1))) 50) = 18 then if ¬ (wsub (h 14 (wadd 1900 (wmul 4 v1))) 50) = 19 then F290_1 kR h (wadd 1900 (wmul 4 v1)) (h 14 (wadd (wadd 1900 (wmul 4 v1)) 2)) 6 v2 else F290_1 kR h (wadd 1900 (wmul 4 v1)) (h 14 (wadd (wadd 1900 (wmul 4 v1)) 2)) 2 v2 else F290_1 kR h (wadd 1900 (wmul 4 v1)) (h 14 (wadd (wadd 1900 (wmul 4 v1)) 2)) 4 v2 else F290_1 kR h (wadd 1900 (wmul 4 v1)) (h 14 (wadd (wadd 1900 (wmul 4 v1)) 2)) 0 v2))))
set_option maxRecDepth 100000 in
theorem S290 {spec : zRn zH2} {hc : zHC} {o : Int → Int} {d : Nat} {DR : Nat} (hd : DR + 3 ≤ d) (kR : Int → Int → zHM → Option Int) (hkR : ∀ (d' : Nat), DR ≤ d' → ∀ (v1 : Int) (v2 : Int) (h : zHM) (v : Int), kR v1 v2 h = some v → zRu2 spec d' 290 [(22, 0), (0, v1), (0, v2)] (hc, h, o) (some (0, v)) (hc, h, o)) (v1 : Int) (v2 : Int) (h : zHM) (v : Int) (e : F290 kR v1 v2 h = some v) : zRu2 spec d 290 [(22, 0), (0, v1), (0, v2)] (hc, h, o) (some (0, v)) (hc, h, o) := by
  refine zF_in (D := DR + 2) (mx := 8) (L := [some (22, 0), some (0, v1), some (0, v2), none, none, none, none, none]) (by decide +kernel) rfl rfl hd (fun d hd => ?_)
  unfold F290 at e
  obtain ⟨q1, e⟩ := zG_s e
  obtain ⟨q2, e⟩ := zG_s e
  obtain ⟨q3, e⟩ := zG_s e
  refine zF_blk (m := []) (d := 0) (b := B290_0) (gs := []) (c' := (5, [some (22, 0), some (0, v1), some (0, v2), none, none, none, none, none], [(0, v1), (0, 4), (0, 1900)], (hc, h, o))) K290_0 rfl trivial ?_
  refine zF_blk (m := []) (d := 0) (b := B290_1) (gs := []) (c' := (6, [some (22, 0), some (0, v1), some (0, v2), none, none, none, none, none], [(0, (wmul 4 v1)), (0, 1900)], (hc, h, o))) K290_1 rfl trivial ?_
  rcases zI_s e with ⟨q4, e⟩ | ⟨q4, e⟩
  · refine zF_blk (m := []) (d := 1) (b := B290_6) (gs := [0 ≤ (wadd (wadd 1900 (wmul 4 v1)) 1) ∧ (wadd (wadd 1900 (wmul 4 v1)) 1) < 2140, 0 ≤ (wadd (wadd 1900 (wmul 4 v1)) 2) ∧ (wadd (wadd 1900 (wmul 4 v1)) 2) < 2140, 0 ≤ (wadd 1900 (wmul 4 v1)) ∧ (wadd 1900 (wmul 4 v1)) < 2140, (h 14 (wadd 1900 (wmul 4 v1))) = 1]) (c' := (100, [some (22, 0), some (0, v1), some (0, v2), some (0, (wadd 1900 (wmul 4 v1))), some (0, (h 14 (wadd (wadd 1900 (wmul 4 v1)) 1))), some (0, (h 14 (wadd (wadd 1900 (wmul 4 v1)) 2))), none, none], [], (hc, h, o))) K290_6 rfl ⟨q1, q2, q3, q4, trivial⟩ ?_
    obtain ⟨r1, q5, e⟩ := zB_s e
    refine zF_blk (m := []) (d := 0) (b := B290_2) (gs := []) (c' := (104, [some (22, 0), some (0, v1), some (0, v2), some (0, (wadd 1900 (wmul 4 v1))), some (0, (h 14 (wadd (wadd 1900 (wmul 4 v1)) 1))), some (0, (h 14 (wadd (wadd 1900 (wmul 4 v1)) 2))), none, none], [(0, v2), (0, (h 14 (wadd (wadd 1900 (wmul 4 v1)) 1))), (22, 0)], (hc, h, o))) K290_2 rfl trivial ?_
    refine zF_call (k := 290) (cl := 12) (n := 3) (i := .invokevirtual 431) (args := [(22, 0), (0, (h 14 (wadd (wadd 1900 (wmul 4 v1)) 1))), (0, v2)]) (rest := []) (g1 := (hc, h, o)) (r1 := some (0, r1)) (by decide +kernel) rfl rfl rfl (st' := [(0, r1)]) rfl (hkR _ (by omega) (h 14 (wadd (wadd 1900 (wmul 4 v1)) 1)) v2 h _ q5) ?_
    rcases zI_s e with ⟨q6, e⟩ | ⟨q6, e⟩
    · refine zF_blk (m := []) (d := 1) (b := B290_5) (gs := [¬ r1 = 0]) (c' := (114, [some (22, 0), some (0, v1), some (0, v2), some (0, (wadd 1900 (wmul 4 v1))), some (0, (h 14 (wadd (wadd 1900 (wmul 4 v1)) 1))), some (0, (h 14 (wadd (wadd 1900 (wmul 4 v1)) 2))), none, none], [], (hc, h, o))) K290_5 rfl ⟨q6, trivial⟩ ?_
      refine zF_blk (m := []) (d := 0) (b := B290_3) (gs := []) (c' := (115, [some (22, 0), some (0, v1), some (0, v2), some (0, (wadd 1900 (wmul 4 v1))), some (0, (h 14 (wadd (wadd 1900 (wmul 4 v1)) 1))), some (0, (h 14 (wadd (wadd 1900 (wmul 4 v1)) 2))), none, none], [(0, 0)], (hc, h, o))) K290_3 rfl trivial ?_
      obtain rfl := Option.some.inj e
      exact zF_rb (by decide +kernel) (Or.inl rfl)
    · refine zF_blk (m := []) (d := 0) (b := B290_5) (gs := [¬ (¬ r1 = 0)]) (c' := (110, [some (22, 0), some (0, v1), some (0, v2), some (0, (wadd 1900 (wmul 4 v1))), some (0, (h 14 (wadd (wadd 1900 (wmul 4 v1)) 1))), some (0, (h 14 (wadd (wadd 1900 (wmul 4 v1)) 2))), none, none], [], (hc, h, o))) K290_5 rfl ⟨q6, trivial⟩ ?_
      refine zF_blk (m := []) (d := 0) (b := B290_4) (gs := []) (c' := (115, [some (22, 0), some (0, v1), some (0, v2), some (0, (wadd 1900 (wmul 4 v1))), some (0, (h 14 (wadd (wadd 1900 (wmul 4 v1)) 1))), some (0, (h 14 (wadd (wadd 1900 (wmul 4 v1)) 2))), none, none], [(0, 1)], (hc, h, o))) K290_4 rfl trivial ?_
      obtain rfl := Option.some.inj e
      exact zF_rb (by decide +kernel) (Or.inr rfl)
  rcases zI_s e with ⟨q7, e⟩ | ⟨q7, e⟩
  · refine zF_blk (m := []) (d := 2) (b := B290_6) (gs := [0 ≤ (wadd (wadd 1900 (wmul 4 v1)) 1) ∧ (wadd (wadd 1900 (wmul 4 v1)) 1) < 2140, 0 ≤ (wadd (wadd 1900 (wmul 4 v1)) 2) ∧ (wadd (wadd 1900 (wmul 4 v1)) 2) < 2140, 0 ≤ (wadd 1900 (wmul 4 v1)) ∧ (wadd 1900 (wmul 4 v1)) < 2140, (h 14 (wadd 1900 (wmul 4 v1))) = 2]) (c' := (116, [some (22, 0), some (0, v1), some (0, v2), some (0, (wadd 1900 (wmul 4 v1))), some (0, (h 14 (wadd (wadd 1900 (wmul 4 v1)) 1))), some (0, (h 14 (wadd (wadd 1900 (wmul 4 v1)) 2))), none, none], [], (hc, h, o))) K290_6 rfl ⟨q1, q2, q3, q7, trivial⟩ ?_
    obtain ⟨r2, q8, e⟩ := zB_s e
    refine zF_blk (m := []) (d := 0) (b := B290_7) (gs := []) (c' := (120, [some (22, 0), some (0, v1), some (0, v2), some (0, (wadd 1900 (wmul 4 v1))), some (0, (h 14 (wadd (wadd 1900 (wmul 4 v1)) 1))), some (0, (h 14 (wadd (wadd 1900 (wmul 4 v1)) 2))), none, none], [(0, v2), (0, (h 14 (wadd (wadd 1900 (wmul 4 v1)) 1))), (22, 0)], (hc, h, o))) K290_7 rfl trivial ?_
    refine zF_call (k := 290) (cl := 12) (n := 3) (i := .invokevirtual 431) (args := [(22, 0), (0, (h 14 (wadd (wadd 1900 (wmul 4 v1)) 1))), (0, v2)]) (rest := []) (g1 := (hc, h, o)) (r1 := some (0, r2)) (by decide +kernel) rfl rfl rfl (st' := [(0, r2)]) rfl (hkR _ (by omega) (h 14 (wadd (wadd 1900 (wmul 4 v1)) 1)) v2 h _ q8) ?_
    rcases zI_s e with ⟨q9, e⟩ | ⟨q9, e⟩
    · refine zF_blk (m := []) (d := 1) (b := B290_12) (gs := [r2 = 0]) (c' := (140, [some (22, 0), some (0, v1), some (0, v2), some (0, (wadd 1900 (wmul 4 v1))), some (0, (h 14 (wadd (wadd 1900 (wmul 4 v1)) 1))), some (0, (h 14 (wadd (wadd 1900 (wmul 4 v1)) 2))), none, none], [], (hc, h, o))) K290_12 rfl ⟨q9, trivial⟩ ?_
      refine zF_blk (m := []) (d := 0) (b := B290_8) (gs := []) (c' := (141, [some (22, 0), some (0, v1), some (0, v2), some (0, (wadd 1900 (wmul 4 v1))), some (0, (h 14 (wadd (wadd 1900 (wmul 4 v1)) 1))), some (0, (h 14 (wadd (wadd 1900 (wmul 4 v1)) 2))), none, none], [(0, 0)], (hc, h, o))) K290_8 rfl trivial ?_
      obtain rfl := Option.some.inj e
      exact zF_rb (by decide +kernel) (Or.inl rfl)
    · refine zF_blk (m := []) (d := 0) (b := B290_12) (gs := [¬ (r2 = 0)]) (c' := (126, [some (22, 0), some (0, v1), some (0, v2), some (0, (wadd 1900 (wmul 4 v1))), some (0, (h 14 (wadd (wadd 1900 (wmul 4 v1)) 1))), some (0, (h 14 (wadd (wadd 1900 (wmul 4 v1)) 2))), none, none], [], (hc, h, o))) K290_12 rfl ⟨q9, trivial⟩ ?_
      obtain ⟨r3, q10, e⟩ := zB_s e
      refine zF_blk (m := []) (d := 0) (b := B290_9) (gs := []) (c' := (130, [some (22, 0), some (0, v1), some (0, v2), some (0, (wadd 1900 (wmul 4 v1))), some (0, (h 14 (wadd (wadd 1900 (wmul 4 v1)) 1))), some (0, (h 14 (wadd (wadd 1900 (wmul 4 v1)) 2))), none, none], [(0, v2), (0, (h 14 (wadd (wadd 1900 (wmul 4 v1)) 2))), (22, 0)], (hc, h, o))) K290_9 rfl trivial ?_
      refine zF_call (k := 290) (cl := 12) (n := 3) (i := .invokevirtual 431) (args := [(22, 0), (0, (h 14 (wadd (wadd 1900 (wmul 4 v1)) 2))), (0, v2)]) (rest := []) (g1 := (hc, h, o)) (r1 := some (0, r3)) (by decide +kernel) rfl rfl rfl (st' := [(0, r3)]) rfl (hkR _ (by omega) (h 14 (wadd (wadd 1900 (wmul 4 v1)) 2)) v2 h _ q10) ?_
      rcases zI_s e with ⟨q11, e⟩ | ⟨q11, e⟩
      · refine zF_blk (m := []) (d := 1) (b := B290_11) (gs := [r3 = 0]) (c' := (140, [some (22, 0), some (0, v1), some (0, v2), some (0, (wadd 1900 (wmul 4 v1))), some (0, (h 14 (wadd (wadd 1900 (wmul 4 v1)) 1))), some (0, (h 14 (wadd (wadd 1900 (wmul 4 v1)) 2))), none, none], [], (hc, h, o))) K290_11 rfl ⟨q11, trivial⟩ ?_
        refine zF_blk (m := []) (d := 0) (b := B290_8) (gs := []) (c' := (141, [some (22, 0), some (0, v1), some (0, v2), some (0, (wadd 1900 (wmul 4 v1))), some (0, (h 14 (wadd (wadd 1900 (wmul 4 v1)) 1))), some (0, (h 14 (wadd (wadd 1900 (wmul 4 v1)) 2))), none, none], [(0, 0)], (hc, h, o))) K290_8 rfl trivial ?_
        obtain rfl := Option.some.inj e
        exact zF_rb (by decide +kernel) (Or.inl rfl)
      · refine zF_blk (m := []) (d := 0) (b := B290_11) (gs := [¬ (r3 = 0)]) (c' := (136, [some (22, 0), some (0, v1), some (0, v2), some (0, (wadd 1900 (wmul 4 v1))), some (0, (h 14 (wadd (wadd 1900 (wmul 4 v1)) 1))), some (0, (h 14 (wadd (wadd 1900 (wmul 4 v1)) 2))), none, none], [], (hc, h, o))) K290_11 rfl ⟨q11, trivial⟩ ?_
        refine zF_blk (m := []) (d := 0) (b := B290_10) (gs := []) (c' := (141, [some (22, 0), some (0, v1), some (0, v2), some (0, (wadd 1900 (wmul 4 v1))), some (0, (h 14 (wadd (wadd 1900 (wmul 4 v1)) 1))), some (0, (h 14 (wadd (wadd 1900 (wmul 4 v1)) 2))), none, none], [(0, 1)], (hc, h, o))) K290_10 rfl trivial ?_
        obtain rfl := Option.some.inj e
        exact zF_rb (by decide +kernel) (Or.inr rfl)
  rcases zI_s e with ⟨q12, e⟩ | ⟨q12, e⟩
  · refine zF_blk (m := []) (d := 3) (b := B290_6) (gs := [0 ≤ (wadd (wadd 1900 (wmul 4 v1)) 1) ∧ (wadd (wadd 1900 (wmul 4 v1)) 1) < 2140, 0 ≤ (wadd (wadd 1900 (wmul 4 v1)) 2) ∧ (wadd (wadd 1900 (wmul 4 v1)) 2) < 2140, 0 ≤ (wadd 1900 (wmul 4 v1)) ∧ (wadd 1900 (wmul 4 v1)) < 2140, (h 14 (wadd 1900 (wmul 4 v1))) = 3]) (c' := (142, [some (22, 0), some (0, v1), some (0, v2), some (0, (wadd 1900 (wmul 4 v1))), some (0, (h 14 (wadd (wadd 1900 (wmul 4 v1)) 1))), some (0, (h 14 (wadd (wadd 1900 (wmul 4 v1)) 2))), none, none], [], (hc, h, o))) K290_6 rfl ⟨q1, q2, q3, q12, trivial⟩ ?_
    obtain ⟨r4, q13, e⟩ := zB_s e
    refine zF_blk (m := []) (d := 0) (b := B290_13) (gs := []) (c' := (146, [some (22, 0), some (0, v1), some (0, v2), some (0, (wadd 1900 (wmul 4 v1))), some (0, (h 14 (wadd (wadd 1900 (wmul 4 v1)) 1))), some (0, (h 14 (wadd (wadd 1900 (wmul 4 v1)) 2))), none, none], [(0, v2), (0, (h 14 (wadd (wadd 1900 (wmul 4 v1)) 1))), (22, 0)], (hc, h, o))) K290_13 rfl trivial ?_
    refine zF_call (k := 290) (cl := 12) (n := 3) (i := .invokevirtual 431) (args := [(22, 0), (0, (h 14 (wadd (wadd 1900 (wmul 4 v1)) 1))), (0, v2)]) (rest := []) (g1 := (hc, h, o)) (r1 := some (0, r4)) (by decide +kernel) rfl rfl rfl (st' := [(0, r4)]) rfl (hkR _ (by omega) (h 14 (wadd (wadd 1900 (wmul 4 v1)) 1)) v2 h _ q13) ?_
    rcases zI_s e with ⟨q14, e⟩ | ⟨q14, e⟩
    · refine zF_blk (m := []) (d := 1) (b := B290_17) (gs := [¬ r4 = 0]) (c' := (162, [some (22, 0), some (0, v1), some (0, v2), some (0, (wadd 1900 (wmul 4 v1))), some (0, (h 14 (wadd (wadd 1900 (wmul 4 v1)) 1))), some (0, (h 14 (wadd (wadd 1900 (wmul 4 v1)) 2))), none, none], [], (hc, h, o))) K290_17 rfl ⟨q14, trivial⟩ ?_
      refine zF_blk (m := [false, false, false, false, false, false, false, false]) (d := 0) (b := []) (gs := []) (c' := (162, [none, none, none, none, none, none, none, none], [], (hc, h, o))) rfl rfl trivial ?_
      exact T290_0 hd kR hkR h _ e
    · refine zF_blk (m := []) (d := 0) (b := B290_17) (gs := [¬ (¬ r4 = 0)]) (c' := (152, [some (22, 0), some (0, v1), some (0, v2), some (0, (wadd 1900 (wmul 4 v1))), some (0, (h 14 (wadd (wadd 1900 (wmul 4 v1)) 1))), some (0, (h 14 (wadd (wadd 1900 (wmul 4 v1)) 2))), none, none], [], (hc, h, o))) K290_17 rfl ⟨q14, trivial⟩ ?_
      obtain ⟨r5, q15, e⟩ := zB_s e
      refine zF_blk (m := []) (d := 0) (b := B290_14) (gs := []) (c' := (156, [some (22, 0), some (0, v1), some (0, v2), some (0, (wadd 1900 (wmul 4 v1))), some (0, (h 14 (wadd (wadd 1900 (wmul 4 v1)) 1))), some (0, (h 14 (wadd (wadd 1900 (wmul 4 v1)) 2))), none, none], [(0, v2), (0, (h 14 (wadd (wadd 1900 (wmul 4 v1)) 2))), (22, 0)], (hc, h, o))) K290_14 rfl trivial ?_
      refine zF_call (k := 290) (cl := 12) (n := 3) (i := .invokevirtual 431) (args := [(22, 0), (0, (h 14 (wadd (wadd 1900 (wmul 4 v1)) 2))), (0, v2)]) (rest := []) (g1 := (hc, h, o)) (r1 := some (0, r5)) (by decide +kernel) rfl rfl rfl (st' := [(0, r5)]) rfl (hkR _ (by omega) (h 14 (wadd (wadd 1900 (wmul 4 v1)) 2)) v2 h _ q15) ?_
      rcases zI_s e with ⟨q16, e⟩ | ⟨q16, e⟩
      · refine zF_blk (m := []) (d := 1) (b := B290_16) (gs := [r5 = 0]) (c' := (166, [some (22, 0), some (0, v1), some (0, v2), some (0, (wadd 1900 (wmul 4 v1))), some (0, (h 14 (wadd (wadd 1900 (wmul 4 v1)) 1))), some (0, (h 14 (wadd (wadd 1900 (wmul 4 v1)) 2))), none, none], [], (hc, h, o))) K290_16 rfl ⟨q16, trivial⟩ ?_
        refine zF_blk (m := []) (d := 0) (b := B290_15) (gs := []) (c' := (167, [some (22, 0), some (0, v1), some (0, v2), some (0, (wadd 1900 (wmul 4 v1))), some (0, (h 14 (wadd (wadd 1900 (wmul 4 v1)) 1))), some (0, (h 14 (wadd (wadd 1900 (wmul 4 v1)) 2))), none, none], [(0, 0)], (hc, h, o))) K290_15 rfl trivial ?_
        obtain rfl := Option.some.inj e
        exact zF_rb (by decide +kernel) (Or.inl rfl)
      · refine zF_blk (m := []) (d := 0) (b := B290_16) (gs := [¬ (r5 = 0)]) (c' := (162, [some (22, 0), some (0, v1), some (0, v2), some (0, (wadd 1900 (wmul 4 v1))), some (0, (h 14 (wadd (wadd 1900 (wmul 4 v1)) 1))), some (0, (h 14 (wadd (wadd 1900 (wmul 4 v1)) 2))), none, none], [], (hc, h, o))) K290_16 rfl ⟨q16, trivial⟩ ?_
        refine zF_blk (m := [false, false, false, false, false, false, false, false]) (d := 0) (b := []) (gs := []) (c' := (162, [none, none, none, none, none, none, none, none], [], (hc, h, o))) rfl rfl trivial ?_
        exact T290_0 hd kR hkR h _ e
  rcases zI_s e with ⟨q17, e⟩ | ⟨q17, e⟩
  · refine zF_blk (m := []) (d := 63) (b := B290_6) (gs := [0 ≤ (wadd (wadd 1900 (wmul 4 v1)) 1) ∧ (wadd (wadd 1900 (wmul 4 v1)) 1) < 2140, 0 ≤ (wadd (wadd 1900 (wmul 4 v1)) 2) ∧ (wadd (wadd 1900 (wmul 4 v1)) 2) < 2140, 0 ≤ (wadd 1900 (wmul 4 v1)) ∧ (wadd 1900 (wmul 4 v1)) < 2140, (h 14 (wadd 1900 (wmul 4 v1))) = 63]) (c' := (168, [some (22, 0), some (0, v1), some (0, v2), some (0, (wadd 1900 (wmul 4 v1))), some (0, (h 14 (wadd (wadd 1900 (wmul 4 v1)) 1))), some (0, (h 14 (wadd (wadd 1900 (wmul 4 v1)) 2))), none, none], [], (hc, h, o))) K290_6 rfl ⟨q1, q2, q3, q17, trivial⟩ ?_
    obtain ⟨r6, q18, e⟩ := zB_s e
    refine zF_blk (m := []) (d := 0) (b := B290_18) (gs := []) (c' := (170, [some (22, 0), some (0, v1), some (0, v2), some (0, (wadd 1900 (wmul 4 v1))), some (0, (h 14 (wadd (wadd 1900 (wmul 4 v1)) 1))), some (0, (h 14 (wadd (wadd 1900 (wmul 4 v1)) 2))), none, none], [(0, v2), (22, 0)], (hc, h, o))) K290_18 rfl trivial ?_
    refine zF_call (k := 291) (cl := 12) (n := 2) (i := .invokevirtual 434) (args := [(22, 0), (0, v2)]) (rest := []) (g1 := (hc, h, o)) (r1 := some (0, r6)) (by decide +kernel) rfl rfl rfl (st' := [(0, r6)]) rfl (S291 (by omega) v2 h _ q18) ?_
    obtain ⟨q19, e⟩ := zG_s e
    obtain rfl := Option.some.inj e
    exact zF_rb (by decide +kernel) q19
  rcases zI_s e with ⟨q20, e⟩ | ⟨q20, e⟩
  · refine zF_blk (m := []) (d := 64) (b := B290_6) (gs := [0 ≤ (wadd (wadd 1900 (wmul 4 v1)) 1) ∧ (wadd (wadd 1900 (wmul 4 v1)) 1) < 2140, 0 ≤ (wadd (wadd 1900 (wmul 4 v1)) 2) ∧ (wadd (wadd 1900 (wmul 4 v1)) 2) < 2140, 0 ≤ (wadd 1900 (wmul 4 v1)) ∧ (wadd 1900 (wmul 4 v1)) < 2140, (h 14 (wadd 1900 (wmul 4 v1))) = 64]) (c' := (174, [some (22, 0), some (0, v1), some (0, v2), some (0, (wadd 1900 (wmul 4 v1))), some (0, (h 14 (wadd (wadd 1900 (wmul 4 v1)) 1))), some (0, (h 14 (wadd (wadd 1900 (wmul 4 v1)) 2))), none, none], [], (hc, h, o))) K290_6 rfl ⟨q1, q2, q3, q20, trivial⟩ ?_
    obtain ⟨r7, q21, e⟩ := zB_s e
    refine zF_blk (m := []) (d := 0) (b := B290_19) (gs := []) (c' := (177, [some (22, 0), some (0, v1), some (0, v2), some (0, (wadd 1900 (wmul 4 v1))), some (0, (h 14 (wadd (wadd 1900 (wmul 4 v1)) 1))), some (0, (h 14 (wadd (wadd 1900 (wmul 4 v1)) 2))), none, none], [(0, 5), (0, v2), (22, 0)], (hc, h, o))) K290_19 rfl trivial ?_
    refine zF_call (k := 213) (cl := 12) (n := 3) (i := .invokevirtual 247) (args := [(22, 0), (0, v2), (0, 5)]) (rest := []) (g1 := (hc, h, o)) (r1 := some (0, r7)) (by decide +kernel) rfl rfl rfl (st' := [(0, r7)]) rfl (S213 (by omega) v2 5 h _ q21) ?_
    obtain ⟨r8, q22, e⟩ := zB_s e
    refine zF_call (k := 215) (cl := 12) (n := 1) (i := .invokestatic 254) (args := [(0, r7)]) (rest := []) (g1 := (hc, h, o)) (r1 := some (0, r8)) (by decide +kernel) rfl rfl rfl (st' := [(0, r8)]) rfl (S215 (by omega) r7 h _ q22) ?_
    rcases zI_s e with ⟨q23, e⟩ | ⟨q23, e⟩
    · refine zF_blk (m := []) (d := 1) (b := B290_22) (gs := [r8 ≤ 1]) (c' := (191, [some (22, 0), some (0, v1), some (0, v2), some (0, (wadd 1900 (wmul 4 v1))), some (0, (h 14 (wadd (wadd 1900 (wmul 4 v1)) 1))), some (0, (h 14 (wadd (wadd 1900 (wmul 4 v1)) 2))), none, none], [], (hc, h, o))) K290_22 rfl ⟨q23, trivial⟩ ?_
      refine zF_blk (m := []) (d := 0) (b := B290_20) (gs := []) (c' := (192, [some (22, 0), some (0, v1), some (0, v2), some (0, (wadd 1900 (wmul 4 v1))), some (0, (h 14 (wadd (wadd 1900 (wmul 4 v1)) 1))), some (0, (h 14 (wadd (wadd 1900 (wmul 4 v1)) 2))), none, none], [(0, 0)], (hc, h, o))) K290_20 rfl trivial ?_
      obtain rfl := Option.some.inj e
      exact zF_rb (by decide +kernel) (Or.inl rfl)
    · refine zF_blk (m := []) (d := 0) (b := B290_22) (gs := [¬ (r8 ≤ 1)]) (c' := (187, [some (22, 0), some (0, v1), some (0, v2), some (0, (wadd 1900 (wmul 4 v1))), some (0, (h 14 (wadd (wadd 1900 (wmul 4 v1)) 1))), some (0, (h 14 (wadd (wadd 1900 (wmul 4 v1)) 2))), none, none], [], (hc, h, o))) K290_22 rfl ⟨q23, trivial⟩ ?_
      refine zF_blk (m := []) (d := 0) (b := B290_21) (gs := []) (c' := (192, [some (22, 0), some (0, v1), some (0, v2), some (0, (wadd 1900 (wmul 4 v1))), some (0, (h 14 (wadd (wadd 1900 (wmul 4 v1)) 1))), some (0, (h 14 (wadd (wadd 1900 (wmul 4 v1)) 2))), none, none], [(0, 1)], (hc, h, o))) K290_21 rfl trivial ?_
      obtain rfl := Option.some.inj e
      exact zF_rb (by decide +kernel) (Or.inr rfl)
  rcases zI_s e with ⟨q24, e⟩ | ⟨q24, e⟩
  · refine zF_blk (m := []) (d := 65) (b := B290_6) (gs := [0 ≤ (wadd (wadd 1900 (wmul 4 v1)) 1) ∧ (wadd (wadd 1900 (wmul 4 v1)) 1) < 2140, 0 ≤ (wadd (wadd 1900 (wmul 4 v1)) 2) ∧ (wadd (wadd 1900 (wmul 4 v1)) 2) < 2140, 0 ≤ (wadd 1900 (wmul 4 v1)) ∧ (wadd 1900 (wmul 4 v1)) < 2140, (h 14 (wadd 1900 (wmul 4 v1))) = 65]) (c' := (193, [some (22, 0), some (0, v1), some (0, v2), some (0, (wadd 1900 (wmul 4 v1))), some (0, (h 14 (wadd (wadd 1900 (wmul 4 v1)) 1))), some (0, (h 14 (wadd (wadd 1900 (wmul 4 v1)) 2))), none, none], [], (hc, h, o))) K290_6 rfl ⟨q1, q2, q3, q24, trivial⟩ ?_
    obtain ⟨r9, q25, e⟩ := zB_s e
    refine zF_blk (m := []) (d := 0) (b := B290_23) (gs := []) (c' := (196, [some (22, 0), some (0, v1), some (0, v2), some (0, (wadd 1900 (wmul 4 v1))), some (0, (h 14 (wadd (wadd 1900 (wmul 4 v1)) 1))), some (0, (h 14 (wadd (wadd 1900 (wmul 4 v1)) 2))), none, none], [(0, 5), (0, v2), (22, 0)], (hc, h, o))) K290_23 rfl trivial ?_
    refine zF_call (k := 213) (cl := 12) (n := 3) (i := .invokevirtual 247) (args := [(22, 0), (0, v2), (0, 5)]) (rest := []) (g1 := (hc, h, o)) (r1 := some (0, r9)) (by decide +kernel) rfl rfl rfl (st' := [(0, r9)]) rfl (S213 (by omega) v2 5 h _ q25) ?_
    obtain ⟨r10, q26, e⟩ := zB_s e
    refine zF_blk (m := []) (d := 0) (b := B290_24) (gs := []) (c' := (201, [some (22, 0), some (0, v1), some (0, v2), some (0, (wadd 1900 (wmul 4 v1))), some (0, (h 14 (wadd (wadd 1900 (wmul 4 v1)) 1))), some (0, (h 14 (wadd (wadd 1900 (wmul 4 v1)) 2))), none, none], [(0, (h 14 (wadd (wadd 1900 (wmul 4 v1)) 1))), (0, r9)], (hc, h, o))) K290_24 rfl trivial ?_
    refine zF_call (k := 214) (cl := 12) (n := 2) (i := .invokestatic 251) (args := [(0, r9), (0, (h 14 (wadd (wadd 1900 (wmul 4 v1)) 1)))]) (rest := []) (g1 := (hc, h, o)) (r1 := some (0, r10)) (by decide +kernel) rfl rfl rfl (st' := [(0, r10)]) rfl (S214 (by omega) r9 (h 14 (wadd (wadd 1900 (wmul 4 v1)) 1)) h _ q26) ?_
    obtain ⟨q27, e⟩ := zG_s e
    obtain rfl := Option.some.inj e
    exact zF_rb (by decide +kernel) q27
  rcases zI_s e with ⟨q28, e⟩ | ⟨q28, e⟩
  · refine zF_blk (m := []) (d := 66) (b := B290_6) (gs := [0 ≤ (wadd (wadd 1900 (wmul 4 v1)) 1) ∧ (wadd (wadd 1900 (wmul 4 v1)) 1) < 2140, 0 ≤ (wadd (wadd 1900 (wmul 4 v1)) 2) ∧ (wadd (wadd 1900 (wmul 4 v1)) 2) < 2140, 0 ≤ (wadd 1900 (wmul 4 v1)) ∧ (wadd 1900 (wmul 4 v1)) < 2140, (h 14 (wadd 1900 (wmul 4 v1))) = 66]) (c' := (205, [some (22, 0), some (0, v1), some (0, v2), some (0, (wadd 1900 (wmul 4 v1))), some (0, (h 14 (wadd (wadd 1900 (wmul 4 v1)) 1))), some (0, (h 14 (wadd (wadd 1900 (wmul 4 v1)) 2))), none, none], [], (hc, h, o))) K290_6 rfl ⟨q1, q2, q3, q28, trivial⟩ ?_
    obtain ⟨r11, q29, e⟩ := zB_s e
    refine zF_blk (m := []) (d := 0) (b := B290_25) (gs := []) (c' := (208, [some (22, 0), some (0, v1), some (0, v2), some (0, (wadd 1900 (wmul 4 v1))), some (0, (h 14 (wadd (wadd 1900 (wmul 4 v1)) 1))), some (0, (h 14 (wadd (wadd 1900 (wmul 4 v1)) 2))), none, none], [(0, 1), (0, v2), (22, 0)], (hc, h, o))) K290_25 rfl trivial ?_
    refine zF_call (k := 213) (cl := 12) (n := 3) (i := .invokevirtual 247) (args := [(22, 0), (0, v2), (0, 1)]) (rest := []) (g1 := (hc, h, o)) (r1 := some (0, r11)) (by decide +kernel) rfl rfl rfl (st' := [(0, r11)]) rfl (S213 (by omega) v2 1 h _ q29) ?_
    rcases zI_s e with ⟨q30, e⟩ | ⟨q30, e⟩
    · refine zF_blk (m := []) (d := 1) (b := B290_28) (gs := [¬ r11 = (h 14 (wadd (wadd 1900 (wmul 4 v1)) 1))]) (c' := (220, [some (22, 0), some (0, v1), some (0, v2), some (0, (wadd 1900 (wmul 4 v1))), some (0, (h 14 (wadd (wadd 1900 (wmul 4 v1)) 1))), some (0, (h 14 (wadd (wadd 1900 (wmul 4 v1)) 2))), none, none], [], (hc, h, o))) K290_28 rfl ⟨q30, trivial⟩ ?_
      refine zF_blk (m := []) (d := 0) (b := B290_26) (gs := []) (c' := (221, [some (22, 0), some (0, v1), some (0, v2), some (0, (wadd 1900 (wmul 4 v1))), some (0, (h 14 (wadd (wadd 1900 (wmul 4 v1)) 1))), some (0, (h 14 (wadd (wadd 1900 (wmul 4 v1)) 2))), none, none], [(0, 0)], (hc, h, o))) K290_26 rfl trivial ?_
      obtain rfl := Option.some.inj e
      exact zF_rb (by decide +kernel) (Or.inl rfl)
    · refine zF_blk (m := []) (d := 0) (b := B290_28) (gs := [¬ (¬ r11 = (h 14 (wadd (wadd 1900 (wmul 4 v1)) 1)))]) (c' := (216, [some (22, 0), some (0, v1), some (0, v2), some (0, (wadd 1900 (wmul 4 v1))), some (0, (h 14 (wadd (wadd 1900 (wmul 4 v1)) 1))), some (0, (h 14 (wadd (wadd 1900 (wmul 4 v1)) 2))), none, none], [], (hc, h, o))) K290_28 rfl ⟨q30, trivial⟩ ?_
      refine zF_blk (m := []) (d := 0) (b := B290_27) (gs := []) (c' := (221, [some (22, 0), some (0, v1), some (0, v2), some (0, (wadd 1900 (wmul 4 v1))), some (0, (h 14 (wadd (wadd 1900 (wmul 4 v1)) 1))), some (0, (h 14 (wadd (wadd 1900 (wmul 4 v1)) 2))), none, none], [(0, 1)], (hc, h, o))) K290_27 rfl trivial ?_
      obtain rfl := Option.some.inj e
      exact zF_rb (by decide +kernel) (Or.inr rfl)
  refine zF_blk (m := []) (d := 0) (b := B290_6) (gs := [0 ≤ (wadd (wadd 1900 (wmul 4 v1)) 1) ∧ (wadd (wadd 1900 (wmul 4 v1)) 1) < 2140, 0 ≤ (wadd (wadd 1900 (wmul 4 v1)) 2) ∧ (wadd (wadd 1900 (wmul 4 v1)) 2) < 2140, 0 ≤ (wadd 1900 (wmul 4 v1)) ∧ (wadd 1900 (wmul 4 v1)) < 2140, ¬ (h 14 (wadd 1900 (wmul 4 v1))) = 1, ¬ (h 14 (wadd 1900 (wmul 4 v1))) = 2, ¬ (h 14 (wadd 1900 (wmul 4 v1))) = 3, ¬ (h 14 (wadd 1900 (wmul 4 v1))) = 63, ¬ (h 14 (wadd 1900 (wmul 4 v1))) = 64, ¬ (h 14 (wadd 1900 (wmul 4 v1))) = 65, ¬ (h 14 (wadd 1900 (wmul 4 v1))) = 66]) (c' := (222, [some (22, 0), some (0, v1), some (0, v2), some (0, (wadd 1900 (wmul 4 v1))), some (0, (h 14 (wadd (wadd 1900 (wmul 4 v1)) 1))), some (0, (h 14 (wadd (wadd 1900 (wmul 4 v1)) 2))), none, none], [], (hc, h, o))) K290_6 rfl ⟨q1, q2, q3, q4, q7, q12, q17, q20, q24, q28, trivial⟩ ?_
  obtain ⟨q31, e⟩ := zG_s e
  rcases zI_s e with ⟨q32, e⟩ | ⟨q32, e⟩
  · refine zF_blk (m := []) (d := 1) (b := B290_35) (gs := [0 ≤ (wadd 1900 (wmul 4 v1)) ∧ (wadd 1900 (wmul 4 v1)) < 2140, ¬ (wsub (h 14 (wadd 1900 (wmul 4 v1))) 50) = 17]) (c' := (246, [some (22, 0), some (0, v1), some (0, v2), some (0, (wadd 1900 (wmul 4 v1))), some (0, (h 14 (wadd (wadd 1900 (wmul 4 v1)) 1))), some (0, (h 14 (wadd (wadd 1900 (wmul 4 v1)) 2))), some (0, (wsub (h 14 (wadd 1900 (wmul 4 v1))) 50)), none], [(0, v2), (22, 0)], (hc, h, o))) K290_35 rfl ⟨q31, q32, trivial⟩ ?_
    rcases zI_s e with ⟨q33, e⟩ | ⟨q33, e⟩
    · refine zF_blk (m := []) (d := 1) (b := B290_33) (gs := [¬ (wsub (h 14 (wadd 1900 (wmul 4 v1))) 50) = 18]) (c' := (257, [some (22, 0), some (0, v1), some (0, v2), some (0, (wadd 1900 (wmul 4 v1))), some (0, (h 14 (wadd (wadd 1900 (wmul 4 v1)) 1))), some (0, (h 14 (wadd (wadd 1900 (wmul 4 v1)) 2))), some (0, (wsub (h 14 (wadd 1900 (wmul 4 v1))) 50)), none], [(0, v2), (22, 0)], (hc, h, o))) K290_33 rfl ⟨q33, trivial⟩ ?_
      rcases zI_s e with ⟨q34, e⟩ | ⟨q34, e⟩
      · refine zF_blk (m := []) (d := 1) (b := B290_31) (gs := [¬ (wsub (h 14 (wadd 1900 (wmul 4 v1))) 50) = 19]) (c' := (268, [some (22, 0), some (0, v1), some (0, v2), some (0, (wadd 1900 (wmul 4 v1))), some (0, (h 14 (wadd (wadd 1900 (wmul 4 v1)) 1))), some (0, (h 14 (wadd (wadd 1900 (wmul 4 v1)) 2))), some (0, (wsub (h 14 (wadd 1900 (wmul 4 v1))) 50)), none], [(0, v2), (22, 0)], (hc, h, o))) K290_31 rfl ⟨q34, trivial⟩ ?_
        refine zF_blk (m := []) (d := 0) (b := B290_29) (gs := []) (c' := (270, [some (22, 0), some (0, v1), some (0, v2), some (0, (wadd 1900 (wmul 4 v1))), some (0, (h 14 (wadd (wadd 1900 (wmul 4 v1)) 1))), some (0, (h 14 (wadd (wadd 1900 (wmul 4 v1)) 2))), some (0, (wsub (h 14 (wadd 1900 (wmul 4 v1))) 50)), none], [(0, 6), (0, v2), (22, 0)], (hc, h, o))) K290_29 rfl trivial ?_
        refine zF_blk (m := [true, false, false, true, false, true, false, false]) (d := 0) (b := []) (gs := []) (c' := (270, [some (22, 0), none, none, some (0, (wadd 1900 (wmul 4 v1))), none, some (0, (h 14 (wadd (wadd 1900 (wmul 4 v1)) 2))), none, none], [(0, 6), (0, v2), (22, 0)], (hc, h, o))) rfl rfl trivial ?_
        exact T290_1 hd kR hkR h (wadd 1900 (wmul 4 v1)) (h 14 (wadd (wadd 1900 (wmul 4 v1)) 2)) 6 v2 _ e
      · refine zF_blk (m := []) (d := 0) (b := B290_31) (gs := [¬ (¬ (wsub (h 14 (wadd 1900 (wmul 4 v1))) 50) = 19)]) (c' := (264, [some (22, 0), some (0, v1), some (0, v2), some (0, (wadd 1900 (wmul 4 v1))), some (0, (h 14 (wadd (wadd 1900 (wmul 4 v1)) 1))), some (0, (h 14 (wadd (wadd 1900 (wmul 4 v1)) 2))), some (0, (wsub (h 14 (wadd 1900 (wmul 4 v1))) 50)), none], [(0, v2), (22, 0)], (hc, h, o))) K290_31 rfl ⟨q34, trivial⟩ ?_
        refine zF_blk (m := []) (d := 0) (b := B290_30) (gs := []) (c' := (270, [some (22, 0), some (0, v1), some (0, v2), some (0, (wadd 1900 (wmul 4 v1))), some (0, (h 14 (wadd (wadd 1900 (wmul 4 v1)) 1))), some (0, (h 14 (wadd (wadd 1900 (wmul 4 v1)) 2))), some (0, (wsub (h 14 (wadd 1900 (wmul 4 v1))) 50)), none], [(0, 2), (0, v2), (22, 0)], (hc, h, o))) K290_30 rfl trivial ?_
        refine zF_blk (m := [true, false, false, true, false, true, false, false]) (d := 0) (b := []) (gs := []) (c' := (270, [some (22, 0), none, none, some (0, (wadd 1900 (wmul 4 v1))), none, some (0, (h 14 (wadd (wadd 1900 (wmul 4 v1)) 2))), none, none], [(0, 2), (0, v2), (22, 0)], (hc, h, o))) rfl rfl trivial ?_
        exact T290_1 hd kR hkR h (wadd 1900 (wmul 4 v1)) (h 14 (wadd (wadd 1900 (wmul 4 v1)) 2)) 2 v2 _ e
    · refine zF_blk (m := []) (d := 0) (b := B290_33) (gs := [¬ (¬ (wsub (h 14 (wadd 1900 (wmul 4 v1))) 50) = 18)]) (c' := (253, [some (22, 0), some (0, v1), some (0, v2), some (0, (wadd 1900 (wmul 4 v1))), some (0, (h 14 (wadd (wadd 1900 (wmul 4 v1)) 1))), some (0, (h 14 (wadd (wadd 1900 (wmul 4 v1)) 2))), some (0, (wsub (h 14 (wadd 1900 (wmul 4 v1))) 50)), none], [(0, v2), (22, 0)], (hc, h, o))) K290_33 rfl ⟨q33, trivial⟩ ?_
      refine zF_blk (m := []) (d := 0) (b := B290_32) (gs := []) (c' := (270, [some (22, 0), some (0, v1), some (0, v2), some (0, (wadd 1900 (wmul 4 v1))), some (0, (h 14 (wadd (wadd 1900 (wmul 4 v1)) 1))), some (0, (h 14 (wadd (wadd 1900 (wmul 4 v1)) 2))), some (0, (wsub (h 14 (wadd 1900 (wmul 4 v1))) 50)), none], [(0, 4), (0, v2), (22, 0)], (hc, h, o))) K290_32 rfl trivial ?_
      refine zF_blk (m := [true, false, false, true, false, true, false, false]) (d := 0) (b := []) (gs := []) (c' := (270, [some (22, 0), none, none, some (0, (wadd 1900 (wmul 4 v1))), none, some (0, (h 14 (wadd (wadd 1900 (wmul 4 v1)) 2))), none, none], [(0, 4), (0, v2), (22, 0)], (hc, h, o))) rfl rfl trivial ?_
      exact T290_1 hd kR hkR h (wadd 1900 (wmul 4 v1)) (h 14 (wadd (wadd 1900 (wmul 4 v1)) 2)) 4 v2 _ e
  · refine zF_blk (m := []) (d := 0) (b := B290_35) (gs := [0 ≤ (wadd 1900 (wmul 4 v1)) ∧ (wadd 1900 (wmul 4 v1)) < 2140, ¬ (¬ (wsub (h 14 (wadd 1900 (wmul 4 v1))) 50) = 17)]) (c' := (242, [some (22, 0), some (0, v1), some (0, v2), some (0, (wadd 1900 (wmul 4 v1))), some (0, (h 14 (wadd (wadd 1900 (wmul 4 v1)) 1))), some (0, (h 14 (wadd (wadd 1900 (wmul 4 v1)) 2))), some (0, (wsub (h 14 (wadd 1900 (wmul 4 v1))) 50)), none], [(0, v2), (22, 0)], (hc, h, o))) K290_35 rfl ⟨q31, q32, trivial⟩ ?_
    refine zF_blk (m := []) (d := 0) (b := B290_34) (gs := []) (c' := (270, [some (22, 0), some (0, v1), some (0, v2), some (0, (wadd 1900 (wmul 4 v1))), some (0, (h 14 (wadd (wadd 1900 (wmul 4 v1)) 1))), some (0, (h 14 (wadd (wadd 1900 (wmul 4 v1)) 2))), some (0, (wsub (h 14 (wadd 1900 (wmul 4 v1))) 50)), none], [(0, 0), (0, v2), (22, 0)], (hc, h, o))) K290_34 rfl trivial ?_
    refine zF_blk (m := [true, false, false, true, false, true, false, false]) (d := 0) (b := []) (gs := []) (c' := (270, [some (22, 0), none, none, some (0, (wadd 1900 (wmul 4 v1))), none, some (0, (h 14 (wadd (wadd 1900 (wmul 4 v1)) 2))), none, none], [(0, 0), (0, v2), (22, 0)], (hc, h, o))) rfl rfl trivial ?_
    exact T290_1 hd kR hkR h (wadd 1900 (wmul 4 v1)) (h 14 (wadd (wadd 1900 (wmul 4 v1)) 2)) 0 v2 _ e
def F290r : Nat → Int → Int → zHM → Option Int
  | 0, _, _, _ => none
  | n + 1, v1, v2, h => F290 (F290r n) v1 v2 h
theorem S290r {spec : zRn zH2} {hc : zHC} {o : Int → Int} : ∀ (n : Nat) {d : Nat} (hd : 3 * n ≤ d) (v1 : Int) (v2 : Int) (h : zHM) (v : Int) (e : F290r n v1 v2 h = some v), zRu2 spec d 290 [(22, 0), (0, v1), (0, v2)] (hc, h, o) (some (0, v)) (hc, h, o) := by
  intro n
  induction n with
  | zero => intro d hd v1 v2 h v e; unfold F290r at e; cases e
  | succ n ih =>
    intro d hd v1 v2 h v e
    unfold F290r at e
    exact S290 (DR := 3 * n) (by omega) (F290r n) (fun d hd v1 v2 h v e => ih hd v1 v2 h v e) v1 v2 h v e
def B289_0 : List zRow := [(18, .iconst 0, 1, (0, 0, 0)), (19, .istore_n 2, 1, (0, 0, 0)), (20, .iconst 0, 1, (0, 0, 0)), (21, .istore_n 3, 1, (0, 0, 0))]
theorem K289_0 : zRk 289 B289_0 = true := by decide +kernel
def B289_1 : List zRow := [(16, .iconst (-1), 1, (0, 0, 0))]
theorem K289_1 : zRk 289 B289_1 = true := by decide +kernel
def B289_2 : List zRow := [(0, .aload_n 0, 1, (0, 0, 0)), (1, .iconst 0, 1, (0, 0, 0)), (2, .putfield 81, 3, (12, 0, 0)), (5, .aload_n 0, 1, (0, 0, 0)), (6, .getfield 13, 3, (12, 14, 5251442)), (9, .sipush 1898, 3, (0, 0, 0)), (12, .iaload, 1, (0, 0, 0)), (13, .ifCond .ne 5, 3, (0, 0, 0))]
theorem K289_2 : zRk 289 B289_2 = true := by decide +kernel
def B289_3 : List zRow := [(78, .iconst (-1), 1, (0, 0, 0))]
theorem K289_3 : zRk 289 B289_3 = true := by decide +kernel
def B289_4 : List zRow := [(74, .iload_n 2, 1, (0, 0, 0)), (75, .goto 4, 3, (0, 0, 0))]
theorem K289_4 : zRk 289 B289_4 = true := by decide +kernel
def B289_5 : List zRow := [(69, .iload_n 1, 1, (0, 0, 0)), (70, .iconst (-1), 1, (0, 0, 0)), (71, .if_icmp .ne 7, 3, (0, 0, 0))]
theorem K289_5 : zRk 289 B289_5 = true := by decide +kernel
def B289_6 : List zRow := [(34, .aload_n 0, 1, (0, 0, 0)), (35, .aload_n 0, 1, (0, 0, 0)), (36, .getfield 13, 3, (12, 14, 5251442)), (39, .sipush 1899, 3, (0, 0, 0)), (42, .iaload, 1, (0, 0, 0)), (43, .iload_n 3, 1, (0, 0, 0))]
theorem K289_6 : zRk 289 B289_6 = true := by decide +kernel
def B289_7 : List zRow := [(60, .iinc 2 1, 3, (0, 0, 0))]
theorem K289_7 : zRk 289 B289_7 = true := by decide +kernel
def B289_8 : List zRow := [(58, .iload_n 3, 1, (0, 0, 0))]
theorem K289_8 : zRk 289 B289_8 = true := by decide +kernel
def B289_9 : List zRow := [(53, .iload_n 2, 1, (0, 0, 0)), (54, .iload_n 1, 1, (0, 0, 0)), (55, .if_icmp .ne 5, 3, (0, 0, 0))]
theorem K289_9 : zRk 289 B289_9 = true := by decide +kernel
def B289_10 : List zRow := [(50, .goto 13, 3, (0, 0, 0))]
theorem K289_10 : zRk 289 B289_10 = true := by decide +kernel
def B289_11 : List zRow := [(47, .ifCond .ne 6, 3, (0, 0, 0))]
theorem K289_11 : zRk 289 B289_11 = true := by decide +kernel
def B289_12 : List zRow := [(22, .iload_n 3, 1, (0, 0, 0)), (23, .aload_n 0, 1, (0, 0, 0)), (24, .getfield 13, 3, (12, 14, 5251442)), (27, .sipush 216, 3, (0, 0, 0)), (30, .iaload, 1, (0, 0, 0)), (31, .if_icmp .ge 38, 3, (0, 0, 0))]
theorem K289_12 : zRk 289 B289_12 = true := by decide +kernel
def B289_13 : List zRow := [(63, .iinc 3 1, 3, (0, 0, 0)), (66, .goto (-44), 3, (0, 0, 0))]
theorem K289_13 : zRk 289 B289_13 = true := by decide +kernel
def F289_1 (k0 : Int → Int → Int → zHM → Option (Int × zHM)) (v1 : Int) (v2 : Int) (v3 : Int) (h : zHM) : Option (Int × zHM) := k0 v1 v2 (wadd v3 1) h
set_option maxRecDepth 100000 in
theorem T289_1 {spec : zRn zH2} {hc : zHC} {o : Int → Int} {d : Nat} (hd : 900 ≤ d) (k0 : Int → Int → Int → zHM → Option (Int × zHM)) (hk0 : ∀ (v1 : Int) (v2 : Int) (v3 : Int) (h : zHM) (v : (Int × zHM)), k0 v1 v2 v3 h = some v → zFin 0 (fun _ => 0) (zRu2 spec d) 289 (some (0, v.1)) (hc, v.2, o) (22, [some (22, 0), some (0, v1), some (0, v2), some (0, v3)], [], (hc, h, o))) (v1 : Int) (v2 : Int) (v3 : Int) (h : zHM) (v : (Int × zHM)) (e : F289_1 k0 v1 v2 v3 h = some v) : zFin 0 (fun _ => 0) (zRu2 spec d) 289 (some (0, v.1)) (hc, v.2, o) (63, [some (22, 0), some (0, v1), some (0, v2), some (0, v3)], [], (hc, h, o)) := by
  unfold F289_1 at e
  refine zF_blk (m := []) (d := 0) (b := B289_13) (gs := []) (c' := (22, [some (22, 0), some (0, v1), some (0, v2), some (0, (wadd v3 1))], [], (hc, h, o))) K289_13 rfl trivial ?_
  exact hk0 v1 v2 (wadd v3 1) h _ e
def F289_0 : Nat → Int → Int → Int → zHM → Option (Int × zHM)
  | 0, _, _, _, _ => none
  | n + 1, v1, v2, v3, h => if (h 14 216) ≤ v3 then if ¬ v1 = (-1) then some ((-1), h) else some (v2, h) else (F290r 300 (h 14 1899) v3 h).bind fun r1 => if ¬ r1 = 0 then if ¬ v2 = v1 then F289_1 (F289_0 n) v1 (wadd v2 1) v3 h else some (v3, h) else F289_1 (F289_0 n) v1 v2 v3 h
set_option maxRecDepth 100000 in
theorem T289_0 {spec : zRn zH2} {hc : zHC} {o : Int → Int} {d : Nat} (hd : 900 ≤ d) : ∀ (n : Nat) (v1 : Int) (v2 : Int) (v3 : Int) (h : zHM) (v : (Int × zHM)), F289_0 n v1 v2 v3 h = some v → zFin 0 (fun _ => 0) (zRu2 spec d) 289 (some (0, v.1)) (hc, v.2, o) (22, [some (22, 0), some (0, v1), some (0, v2), some (0, v3)], [], (hc, h, o)) := by
  intro n
  induction n with
  | zero => intro v1 v2 v3 h v e; unfold F289_0 at e; cases e
  | succ n hk0 =>
    intro v1 v2 v3 h v e
    unfold F289_0 at e
    rcases zI_s e with ⟨q1, e⟩ | ⟨q1, e⟩
    · refine zF_blk (m := []) (d := 1) (b := B289_12) (gs := [0 ≤ 216 ∧ 216 < 2140, (h 14 216) ≤ v3]) (c' := (69, [some (22, 0), some (0, v1), some (0, v2), some (0, v3)], [], (hc, h, o))) K289_12 rfl ⟨by decide, q1, trivial⟩ ?_
      rcases zI_s e with ⟨q2, e⟩ | ⟨q2, e⟩
      · refine zF_blk (m := []) (d := 1) (b := B289_5) (gs := [¬ v1 = (-1)]) (c' := (78, [some (22, 0), some (0, v1), some (0, v2), some (0, v3)], [], (hc, h, o))) K289_5 rfl ⟨q2, trivial⟩ ?_
        refine zF_blk (m := []) (d := 0) (b := B289_3) (gs := []) (c' := (79, [some (22, 0), some (0, v1), some (0, v2), some (0, v3)], [(0, (-1))], (hc, h, o))) K289_3 rfl trivial ?_
        exact zF_riM (by decide +kernel) e
      · refine zF_blk (m := []) (d := 0) (b := B289_5) (gs := [¬ (¬ v1 = (-1))]) (c' := (74, [some (22, 0), some (0, v1), some (0, v2), some (0, v3)], [], (hc, h, o))) K289_5 rfl ⟨q2, trivial⟩ ?_
        refine zF_blk (m := []) (d := 0) (b := B289_4) (gs := []) (c' := (79, [some (22, 0), some (0, v1), some (0, v2), some (0, v3)], [(0, v2)], (hc, h, o))) K289_4 rfl trivial ?_
        exact zF_riM (by decide +kernel) e
    · refine zF_blk (m := []) (d := 0) (b := B289_12) (gs := [0 ≤ 216 ∧ 216 < 2140, ¬ ((h 14 216) ≤ v3)]) (c' := (34, [some (22, 0), some (0, v1), some (0, v2), some (0, v3)], [], (hc, h, o))) K289_12 rfl ⟨by decide, q1, trivial⟩ ?_
      obtain ⟨r1, q3, e⟩ := zB_s e
      refine zF_blk (m := []) (d := 0) (b := B289_6) (gs := [0 ≤ 1899 ∧ 1899 < 2140]) (c' := (44, [some (22, 0), some (0, v1), some (0, v2), some (0, v3)], [(0, v3), (0, (h 14 1899)), (22, 0)], (hc, h, o))) K289_6 rfl ⟨by decide, trivial⟩ ?_
      refine zF_call (k := 290) (cl := 12) (n := 3) (i := .invokevirtual 431) (args := [(22, 0), (0, (h 14 1899)), (0, v3)]) (rest := []) (g1 := (hc, h, o)) (r1 := some (0, r1)) (by decide +kernel) rfl rfl rfl (st' := [(0, r1)]) rfl (S290r 300 (Nat.le_trans (by decide) hd) (h 14 1899) v3 h _ q3) ?_
      rcases zI_s e with ⟨q4, e⟩ | ⟨q4, e⟩
      · refine zF_blk (m := []) (d := 1) (b := B289_11) (gs := [¬ r1 = 0]) (c' := (53, [some (22, 0), some (0, v1), some (0, v2), some (0, v3)], [], (hc, h, o))) K289_11 rfl ⟨q4, trivial⟩ ?_
        rcases zI_s e with ⟨q5, e⟩ | ⟨q5, e⟩
        · refine zF_blk (m := []) (d := 1) (b := B289_9) (gs := [¬ v2 = v1]) (c' := (60, [some (22, 0), some (0, v1), some (0, v2), some (0, v3)], [], (hc, h, o))) K289_9 rfl ⟨q5, trivial⟩ ?_
          refine zF_blk (m := []) (d := 0) (b := B289_7) (gs := []) (c' := (63, [some (22, 0), some (0, v1), some (0, (wadd v2 1)), some (0, v3)], [], (hc, h, o))) K289_7 rfl trivial ?_
          exact T289_1 hd (F289_0 n) hk0 v1 (wadd v2 1) v3 h _ e
        · refine zF_blk (m := []) (d := 0) (b := B289_9) (gs := [¬ (¬ v2 = v1)]) (c' := (58, [some (22, 0), some (0, v1), some (0, v2), some (0, v3)], [], (hc, h, o))) K289_9 rfl ⟨q5, trivial⟩ ?_
          refine zF_blk (m := []) (d := 0) (b := B289_8) (gs := []) (c' := (59, [some (22, 0), some (0, v1), some (0, v2), some (0, v3)], [(0, v3)], (hc, h, o))) K289_8 rfl trivial ?_
          exact zF_riM (by decide +kernel) e
      · refine zF_blk (m := []) (d := 0) (b := B289_11) (gs := [¬ (¬ r1 = 0)]) (c' := (50, [some (22, 0), some (0, v1), some (0, v2), some (0, v3)], [], (hc, h, o))) K289_11 rfl ⟨q4, trivial⟩ ?_
        refine zF_blk (m := []) (d := 0) (b := B289_10) (gs := []) (c' := (63, [some (22, 0), some (0, v1), some (0, v2), some (0, v3)], [], (hc, h, o))) K289_10 rfl trivial ?_
        exact T289_1 hd (F289_0 n) hk0 v1 v2 v3 h _ e
/-- EchoValeModel.said(I)I -/
def F289 (v1 : Int) (h : zHM) : Option (Int × zHM) := if ¬ ((mset h 0 0 0) 14 1898) = 0 then F289_0 zFu v1 0 0 (mset h 0 0 0) else some ((-1), (mset h 0 0 0))
set_option maxRecDepth 100000 in
theorem S289 {spec : zRn zH2} {hc : zHC} {o : Int → Int} {d : Nat} (hd : 901 ≤ d) (v1 : Int) (h : zHM) (v : (Int × zHM)) (e : F289 v1 h = some v) : zRu2 spec d 289 [(22, 0), (0, v1)] (hc, h, o) (some (0, v.1)) (hc, v.2, o) := by
  refine zF_in (D := 900) (mx := 4) (L := [some (22, 0), some (0, v1), none, none]) (by decide +kernel) rfl rfl hd (fun d hd => ?_)
  unfold F289 at e
  rcases zI_s e with ⟨q1, e⟩ | ⟨q1, e⟩
  · refine zF_blk (m := []) (d := 1) (b := B289_2) (gs := [0 ≤ 1898 ∧ 1898 < 2140, ¬ ((mset h 0 0 0) 14 1898) = 0]) (c' := (18, [some (22, 0), some (0, v1), none, none], [], (hc, (mset h 0 0 0), o))) K289_2 rfl ⟨by decide, q1, trivial⟩ ?_
    refine zF_blk (m := []) (d := 0) (b := B289_0) (gs := []) (c' := (22, [some (22, 0), some (0, v1), some (0, 0), some (0, 0)], [], (hc, (mset h 0 0 0), o))) K289_0 rfl trivial ?_
    exact T289_0 hd zFu v1 0 0 (mset h 0 0 0) _ e
  · refine zF_blk (m := []) (d := 0) (b := B289_2) (gs := [0 ≤ 1898 ∧ 1898 < 2140, ¬ (¬ ((mset h 0 0 0) 14 1898) = 0)]) (c' := (16, [some (22, 0), some (0, v1), none, none], [], (hc, (mset h 0 0 0), o))) K289_2 rfl ⟨by decide, q1, trivial⟩ ?_
    refine zF_blk (m := []) (d := 0) (b := B289_1) (gs := []) (c' := (17, [some (22, 0), some (0, v1), none, none], [(0, (-1))], (hc, (mset h 0 0 0), o))) K289_1 rfl trivial ?_
    exact zF_riM (by decide +kernel) e
def B52b_0 : List zRow := [(0, .aload_n 0, 1, (0, 0, 0)), (1, .aload_n 1, 1, (0, 0, 0)), (2, .getfield 52, 3, (9, 0, 0)), (5, .putfield 52, 3, (9, 0, 0)), (8, .aload_n 0, 1, (0, 0, 0)), (9, .aload_n 1, 1, (0, 0, 0)), (10, .getfield 56, 3, (9, 1, 0)), (13, .putfield 56, 3, (9, 1, 0)), (16, .aload_n 0, 1, (0, 0, 0)), (17, .aload_n 1, 1, (0, 0, 0)), (18, .getfield 59, 3, (9, 2, 0)), (21, .putfield 59, 3, (9, 2, 0)), (24, .aload_n 0, 1, (0, 0, 0)), (25, .aload_n 1, 1, (0, 0, 0)), (26, .getfield 62, 3, (9, 3, 0)), (29, .putfield 62, 3, (9, 3, 0)), (32, .aload_n 0, 1, (0, 0, 0)), (33, .aload_n 1, 1, (0, 0, 0)), (34, .getfield 65, 3, (9, 4, 0)), (37, .putfield 65, 3, (9, 4, 0)), (40, .aload_n 0, 1, (0, 0, 0)), (41, .aload_n 1, 1, (0, 0, 0)), (42, .getfield 68, 3, (9, 5, 0)), (45, .putfield 68, 3, (9, 5, 0)), (48, .aload_n 0, 1, (0, 0, 0)), (49, .aload_n 1, 1, (0, 0, 0)), (50, .getfield 71, 3, (9, 6, 0)), (53, .putfield 71, 3, (9, 6, 0)), (56, .aload_n 1, 1, (0, 0, 0)), (57, .getfield 9, 3, (9, 7, 5505050)), (60, .iconst 0, 1, (0, 0, 0)), (61, .aload_n 0, 1, (0, 0, 0)), (62, .getfield 9, 3, (9, 7, 5505050)), (65, .iconst 0, 1, (0, 0, 0)), (66, .bipush 6, 2, (0, 0, 0)), (68, .invokestatic 74, 3, (5001, 0, 0)), (71, .aload_n 1, 1, (0, 0, 0)), (72, .getfield 15, 3, (9, 8, 5242906)), (75, .iconst 0, 1, (0, 0, 0)), (76, .aload_n 0, 1, (0, 0, 0)), (77, .getfield 15, 3, (9, 8, 5242906)), (80, .iconst 0, 1, (0, 0, 0)), (81, .bipush 6, 2, (0, 0, 0)), (83, .invokestatic 74, 3, (5001, 0, 0)), (86, .aload_n 1, 1, (0, 0, 0)), (87, .getfield 19, 3, (9, 9, 5242906)), (90, .iconst 0, 1, (0, 0, 0)), (91, .aload_n 0, 1, (0, 0, 0)), (92, .getfield 19, 3, (9, 9, 5242906)), (95, .iconst 0, 1, (0, 0, 0)), (96, .bipush 6, 2, (0, 0, 0)), (98, .invokestatic 74, 3, (5001, 0, 0)), (101, .aload_n 1, 1, (0, 0, 0)), (102, .getfield 22, 3, (9, 10, 5242906)), (105, .iconst 0, 1, (0, 0, 0)), (106, .aload_n 0, 1, (0, 0, 0)), (107, .getfield 22, 3, (9, 10, 5242906)), (110, .iconst 0, 1, (0, 0, 0)), (111, .bipush 6, 2, (0, 0, 0)), (113, .invokestatic 74, 3, (5001, 0, 0)), (116, .aload_n 1, 1, (0, 0, 0)), (117, .getfield 25, 3, (9, 11, 5505050)), (120, .iconst 0, 1, (0, 0, 0)), (121, .aload_n 0, 1, (0, 0, 0)), (122, .getfield 25, 3, (9, 11, 5505050)), (125, .iconst 0, 1, (0, 0, 0)), (126, .bipush 6, 2, (0, 0, 0)), (128, .invokestatic 74, 3, (5001, 0, 0)), (131, .aload_n 1, 1, (0, 0, 0)), (132, .getfield 28, 3, (9, 12, 5242906)), (135, .iconst 0, 1, (0, 0, 0)), (136, .aload_n 0, 1, (0, 0, 0)), (137, .getfield 28, 3, (9, 12, 5242906)), (140, .iconst 0, 1, (0, 0, 0)), (141, .bipush 6, 2, (0, 0, 0)), (143, .invokestatic 74, 3, (5001, 0, 0)), (146, .aload_n 1, 1, (0, 0, 0)), (147, .getfield 31, 3, (9, 13, 5242906)), (150, .iconst 0, 1, (0, 0, 0)), (151, .aload_n 0, 1, (0, 0, 0)), (152, .getfield 31, 3, (9, 13, 5242906)), (155, .iconst 0, 1, (0, 0, 0)), (156, .bipush 6, 2, (0, 0, 0)), (158, .invokestatic 74, 3, (5001, 0, 0)), (161, .aload_n 1, 1, (0, 0, 0)), (162, .getfield 34, 3, (9, 14, 5242962)), (165, .iconst 0, 1, (0, 0, 0)), (166, .aload_n 0, 1, (0, 0, 0)), (167, .getfield 34, 3, (9, 14, 5242962)), (170, .iconst 0, 1, (0, 0, 0)), (171, .bipush 20, 2, (0, 0, 0)), (173, .invokestatic 74, 3, (5001, 0, 0)), (176, .aload_n 1, 1, (0, 0, 0)), (177, .getfield 37, 3, (9, 15, 5242962)), (180, .iconst 0, 1, (0, 0, 0)), (181, .aload_n 0, 1, (0, 0, 0)), (182, .getfield 37, 3, (9, 15, 5242962)), (185, .iconst 0, 1, (0, 0, 0)), (186, .bipush 20, 2, (0, 0, 0)), (188, .invokestatic 74, 3, (5001, 0, 0)), (191, .aload_n 1, 1, (0, 0, 0)), (192, .getfield 40, 3, (9, 16, 5242962)), (195, .iconst 0, 1, (0, 0, 0)), (196, .aload_n 0, 1, (0, 0, 0)), (197, .getfield 40, 3, (9, 16, 5242962)), (200, .iconst 0, 1, (0, 0, 0)), (201, .bipush 20, 2, (0, 0, 0)), (203, .invokestatic 74, 3, (5001, 0, 0)), (206, .aload_n 1, 1, (0, 0, 0)), (207, .getfield 43, 3, (9, 17, 5242914)), (210, .iconst 0, 1, (0, 0, 0)), (211, .aload_n 0, 1, (0, 0, 0)), (212, .getfield 43, 3, (9, 17, 5242914)), (215, .iconst 0, 1, (0, 0, 0)), (216, .bipush 8, 2, (0, 0, 0)), (218, .invokestatic 74, 3, (5001, 0, 0)), (221, .aload_n 1, 1, (0, 0, 0)), (222, .getfield 46, 3, (9, 18, 5242906)), (225, .iconst 0, 1, (0, 0, 0)), (226, .aload_n 0, 1, (0, 0, 0)), (227, .getfield 46, 3, (9, 18, 5242906)), (230, .iconst 0, 1, (0, 0, 0)), (231, .bipush 6, 2, (0, 0, 0)), (233, .invokestatic 74, 3, (5001, 0, 0)), (236, .aload_n 1, 1, (0, 0, 0)), (237, .getfield 49, 3, (9, 19, 5242906)), (240, .iconst 0, 1, (0, 0, 0)), (241, .aload_n 0, 1, (0, 0, 0)), (242, .getfield 49, 3, (9, 19, 5242906)), (245, .iconst 0, 1, (0, 0, 0)), (246, .bipush 6, 2, (0, 0, 0)), (248, .invokestatic 74, 3, (5001, 0, 0))]
theorem K52b_0 : zRk 52 B52b_0 = true := by decide +kernel
/-- EchoVale$Valley.copyFrom(LEchoVale$Valley;)V -/
def F52b (v0 : Int) (h : zHC) : Option zHC := some (hcpy (hcpy (hcpy (hcpy (hcpy (hcpy (hcpy (hcpy (hcpy (hcpy (hcpy (hcpy (hcpy (hset (hset (hset (hset (hset (hset (hset h 576 v0 0 (h 576 0 0)) 577 v0 0 ((hset h 576 v0 0 (h 576 0 0)) 577 0 0)) 578 v0 0 ((hset (hset h 576 v0 0 (h 576 0 0)) 577 v0 0 ((hset h 576 v0 0 (h 576 0 0)) 577 0 0)) 578 0 0)) 579 v0 0 ((hset (hset (hset h 576 v0 0 (h 576 0 0)) 577 v0 0 ((hset h 576 v0 0 (h 576 0 0)) 577 0 0)) 578 v0 0 ((hset (hset h 576 v0 0 (h 576 0 0)) 577 v0 0 ((hset h 576 v0 0 (h 576 0 0)) 577 0 0)) 578 0 0)) 579 0 0)) 580 v0 0 ((hset (hset (hset (hset h 576 v0 0 (h 576 0 0)) 577 v0 0 ((hset h 576 v0 0 (h 576 0 0)) 577 0 0)) 578 v0 0 ((hset (hset h 576 v0 0 (h 576 0 0)) 577 v0 0 ((hset h 576 v0 0 (h 576 0 0)) 577 0 0)) 578 0 0)) 579 v0 0 ((hset (hset (hset h 576 v0 0 (h 576 0 0)) 577 v0 0 ((hset h 576 v0 0 (h 576 0 0)) 577 0 0)) 578 v0 0 ((hset (hset h 576 v0 0 (h 576 0 0)) 577 v0 0 ((hset h 576 v0 0 (h 576 0 0)) 577 0 0)) 578 0 0)) 579 0 0)) 580 0 0)) 581 v0 0 ((hset (hset (hset (hset (hset h 576 v0 0 (h 576 0 0)) 577 v0 0 ((hset h 576 v0 0 (h 576 0 0)) 577 0 0)) 578 v0 0 ((hset (hset h 576 v0 0 (h 576 0 0)) 577 v0 0 ((hset h 576 v0 0 (h 576 0 0)) 577 0 0)) 578 0 0)) 579 v0 0 ((hset (hset (hset h 576 v0 0 (h 576 0 0)) 577 v0 0 ((hset h 576 v0 0 (h 576 0 0)) 577 0 0)) 578 v0 0 ((hset (hset h 576 v0 0 (h 576 0 0)) 577 v0 0 ((hset h 576 v0 0 (h 576 0 0)) 577 0 0)) 578 0 0)) 579 0 0)) 580 v0 0 ((hset (hset (hset (hset h 576 v0 0 (h 576 0 0)) 577 v0 0 ((hset h 576 v0 0 (h 576 0 0)) 577 0 0)) 578 v0 0 ((hset (hset h 576 v0 0 (h 576 0 0)) 577 v0 0 ((hset h 576 v0 0 (h 576 0 0)) 577 0 0)) 578 0 0)) 579 v0 0 ((hset (hset (hset h 576 v0 0 (h 576 0 0)) 577 v0 0 ((hset h 576 v0 0 (h 576 0 0)) 577 0 0)) 578 v0 0 ((hset (hset h 576 v0 0 (h 576 0 0)) 577 v0 0 ((hset h 576 v0 0 (h 576 0 0)) 577 0 0)) 578 0 0)) 579 0 0)) 580 0 0)) 581 0 0)) 582 v0 0 ((hset (hset (hset (hset (hset (hset h 576 v0 0 (h 576 0 0)) 577 v0 0 ((hset h 576 v0 0 (h 576 0 0)) 577 0 0)) 578 v0 0 ((hset (hset h 576 v0 0 (h 576 0 0)) 577 v0 0 ((hset h 576 v0 0 (h 576 0 0)) 577 0 0)) 578 0 0)) 579 v0 0 ((hset (hset (hset h 576 v0 0 (h 576 0 0)) 577 v0 0 ((hset h 576 v0 0 (h 576 0 0)) 577 0 0)) 578 v0 0 ((hset (hset h 576 v0 0 (h 576 0 0)) 577 v0 0 ((hset h 576 v0 0 (h 576 0 0)) 577 0 0)) 578 0 0)) 579 0 0)) 580 v0 0 ((hset (hset (hset (hset h 576 v0 0 (h 576 0 0)) 577 v0 0 ((hset h 576 v0 0 (h 576 0 0)) 577 0 0)) 578 v0 0 ((hset (hset h 576 v0 0 (h 576 0 0)) 577 v0 0 ((hset h 576 v0 0 (h 576 0 0)) 577 0 0)) 578 0 0)) 579 v0 0 ((hset (hset (hset h 576 v0 0 (h 576 0 0)) 577 v0 0 ((hset h 576 v0 0 (h 576 0 0)) 577 0 0)) 578 v0 0 ((hset (hset h 576 v0 0 (h 576 0 0)) 577 v0 0 ((hset h 576 v0 0 (h 576 0 0)) 577 0 0)) 578 0 0)) 579 0 0)) 580 0 0)) 581 v0 0 ((hset (hset (hset (hset (hset h 576 v0 0 (h 576 0 0)) 577 v0 0 ((hset h 576 v0 0 (h 576 0 0)) 577 0 0)) 578 v0 0 ((hset (hset h 576 v0 0 (h 576 0 0)) 577 v0 0 ((hset h 576 v0 0 (h 576 0 0)) 577 0 0)) 578 0 0)) 579 v0 0 ((hset (hset (hset h 576 v0 0 (h 576 0 0)) 577 v0 0 ((hset h 576 v0 0 (h 576 0 0)) 577 0 0)) 578 v0 0 ((hset (hset h 576 v0 0 (h 576 0 0)) 577 v0 0 ((hset h 576 v0 0 (h 576 0 0)) 577 0 0)) 578 0 0)) 579 0 0)) 580 v0 0 ((hset (hset (hset (hset h 576 v0 0 (h 576 0 0)) 577 v0 0 ((hset h 576 v0 0 (h 576 0 0)) 577 0 0)) 578 v0 0 ((hset (hset h 576 v0 0 (h 576 0 0)) 577 v0 0 ((hset h 576 v0 0 (h 576 0 0)) 577 0 0)) 578 0 0)) 579 v0 0 ((hset (hset (hset h 576 v0 0 (h 576 0 0)) 577 v0 0 ((hset h 576 v0 0 (h 576 0 0)) 577 0 0)) 578 v0 0 ((hset (hset h 576 v0 0 (h 576 0 0)) 577 v0 0 ((hset h 576 v0 0 (h 576 0 0)) 577 0 0)) 578 0 0)) 579 0 0)) 580 0 0)) 581 0 0)) 582 0 0)) 583 v0 583 0 0 0 6) 584 v0 584 0 0 0 6) 585 v0 585 0 0 0 6) 586 v0 586 0 0 0 6) 587 v0 587 0 0 0 6) 588 v0 588 0 0 0 6) 589 v0 589 0 0 0 6) 590 v0 590 0 0 0 20) 591 v0 591 0 0 0 20) 592 v0 592 0 0 0 20) 593 v0 593 0 0 0 8) 594 v0 594 0 0 0 6) 595 v0 595 0 0 0 6)
set_option maxRecDepth 100000 in
theorem S52b {spec : zRn zH2} {hm : zHM} {o : Int → Int} {d : Nat} (hd : 1 ≤ d) (v0 : Int) (h : zHC) (v : zHC) (e : F52b v0 h = some v) : zRu2 spec d 52 [(19, v0), (19, 0)] (h, hm, o) none (v, hm, o) := by
  refine zF_in (D := 0) (mx := 2) (L := [some (19, v0), some (19, 0)]) (by decide +kernel) rfl rfl hd (fun d hd => ?_)
  unfold F52b at e
  refine zF_blk (m := []) (d := 0) (b := B52b_0) (gs := [0 ≤ 0, 0 ≤ 0, 0 ≤ 6, 0 + 6 ≤ 6, 0 + 6 ≤ 6, 0 ≤ 0, 0 ≤ 0, 0 ≤ 6, 0 + 6 ≤ 6, 0 + 6 ≤ 6, 0 ≤ 0, 0 ≤ 0, 0 ≤ 6, 0 + 6 ≤ 6, 0 + 6 ≤ 6, 0 ≤ 0, 0 ≤ 0, 0 ≤ 6, 0 + 6 ≤ 6, 0 + 6 ≤ 6, 0 ≤ 0, 0 ≤ 0, 0 ≤ 6, 0 + 6 ≤ 6, 0 + 6 ≤ 6, 0 ≤ 0, 0 ≤ 0, 0 ≤ 6, 0 + 6 ≤ 6, 0 + 6 ≤ 6, 0 ≤ 0, 0 ≤ 0, 0 ≤ 6, 0 + 6 ≤ 6, 0 + 6 ≤ 6, 0 ≤ 0, 0 ≤ 0, 0 ≤ 20, 0 + 20 ≤ 20, 0 + 20 ≤ 20, 0 ≤ 0, 0 ≤ 0, 0 ≤ 20, 0 + 20 ≤ 20, 0 + 20 ≤ 20, 0 ≤ 0, 0 ≤ 0, 0 ≤ 20, 0 + 20 ≤ 20, 0 + 20 ≤ 20, 0 ≤ 0, 0 ≤ 0, 0 ≤ 8, 0 + 8 ≤ 8, 0 + 8 ≤ 8, 0 ≤ 0, 0 ≤ 0, 0 ≤ 6, 0 + 6 ≤ 6, 0 + 6 ≤ 6, 0 ≤ 0, 0 ≤ 0, 0 ≤ 6, 0 + 6 ≤ 6, 0 + 6 ≤ 6]) (c' := (251, [some (19, v0), some (19, 0)], [], ((hcpy (hcpy (hcpy (hcpy (hcpy (hcpy (hcpy (hcpy (hcpy (hcpy (hcpy (hcpy (hcpy (hset (hset (hset (hset (hset (hset (hset h 576 v0 0 (h 576 0 0)) 577 v0 0 ((hset h 576 v0 0 (h 576 0 0)) 577 0 0)) 578 v0 0 ((hset (hset h 576 v0 0 (h 576 0 0)) 577 v0 0 ((hset h 576 v0 0 (h 576 0 0)) 577 0 0)) 578 0 0)) 579 v0 0 ((hset (hset (hset h 576 v0 0 (h 576 0 0)) 577 v0 0 ((hset h 576 v0 0 (h 576 0 0)) 577 0 0)) 578 v0 0 ((hset (hset h 576 v0 0 (h 576 0 0)) 577 v0 0 ((hset h 576 v0 0 (h 576 0 0)) 577 0 0)) 578 0 0)) 579 0 0)) 580 v0 0 ((hset (hset (hset (hset h 576 v0 0 (h 576 0 0)) 577 v0 0 ((hset h 576 v0 0 (h 576 0 0)) 577 0 0)) 578 v0 0 ((hset (hset h 576 v0 0 (h 576 0 0)) 577 v0 0 ((hset h 576 v0 0 (h 576 0 0)) 577 0 0)) 578 0 0)) 579 v0 0 ((hset (hset (hset h 576 v0 0 (h 576 0 0)) 577 v0 0 ((hset h 576 v0 0 (h 576 0 0)) 577 0 0)) 578 v0 0 ((hset (hset h 576 v0 0 (h 576 0 0)) 577 v0 0 ((hset h 576 v0 0 (h 576 0 0)) 577 0 0)) 578 0 0)) 579 0 0)) 580 0 0)) 581 v0 0 ((hset (hset (hset (hset (hset h 576 v0 0 (h 576 0 0)) 577 v0 0 ((hset h 576 v0 0 (h 576 0 0)) 577 0 0)) 578 v0 0 ((hset (hset h 576 v0 0 (h 576 0 0)) 577 v0 0 ((hset h 576 v0 0 (h 576 0 0)) 577 0 0)) 578 0 0)) 579 v0 0 ((hset (hset (hset h 576 v0 0 (h 576 0 0)) 577 v0 0 ((hset h 576 v0 0 (h 576 0 0)) 577 0 0)) 578 v0 0 ((hset (hset h 576 v0 0 (h 576 0 0)) 577 v0 0 ((hset h 576 v0 0 (h 576 0 0)) 577 0 0)) 578 0 0)) 579 0 0)) 580 v0 0 ((hset (hset (hset (hset h 576 v0 0 (h 576 0 0)) 577 v0 0 ((hset h 576 v0 0 (h 576 0 0)) 577 0 0)) 578 v0 0 ((hset (hset h 576 v0 0 (h 576 0 0)) 577 v0 0 ((hset h 576 v0 0 (h 576 0 0)) 577 0 0)) 578 0 0)) 579 v0 0 ((hset (hset (hset h 576 v0 0 (h 576 0 0)) 577 v0 0 ((hset h 576 v0 0 (h 576 0 0)) 577 0 0)) 578 v0 0 ((hset (hset h 576 v0 0 (h 576 0 0)) 577 v0 0 ((hset h 576 v0 0 (h 576 0 0)) 577 0 0)) 578 0 0)) 579 0 0)) 580 0 0)) 581 0 0)) 582 v0 0 ((hset (hset (hset (hset (hset (hset h 576 v0 0 (h 576 0 0)) 577 v0 0 ((hset h 576 v0 0 (h 576 0 0)) 577 0 0)) 578 v0 0 ((hset (hset h 576 v0 0 (h 576 0 0)) 577 v0 0 ((hset h 576 v0 0 (h 576 0 0)) 577 0 0)) 578 0 0)) 579 v0 0 ((hset (hset (hset h 576 v0 0 (h 576 0 0)) 577 v0 0 ((hset h 576 v0 0 (h 576 0 0)) 577 0 0)) 578 v0 0 ((hset (hset h 576 v0 0 (h 576 0 0)) 577 v0 0 ((hset h 576 v0 0 (h 576 0 0)) 577 0 0)) 578 0 0)) 579 0 0)) 580 v0 0 ((hset (hset (hset (hset h 576 v0 0 (h 576 0 0)) 577 v0 0 ((hset h 576 v0 0 (h 576 0 0)) 577 0 0)) 578 v0 0 ((hset (hset h 576 v0 0 (h 576 0 0)) 577 v0 0 ((hset h 576 v0 0 (h 576 0 0)) 577 0 0)) 578 0 0)) 579 v0 0 ((hset (hset (hset h 576 v0 0 (h 576 0 0)) 577 v0 0 ((hset h 576 v0 0 (h 576 0 0)) 577 0 0)) 578 v0 0 ((hset (hset h 576 v0 0 (h 576 0 0)) 577 v0 0 ((hset h 576 v0 0 (h 576 0 0)) 577 0 0)) 578 0 0)) 579 0 0)) 580 0 0)) 581 v0 0 ((hset (hset (hset (hset (hset h 576 v0 0 (h 576 0 0)) 577 v0 0 ((hset h 576 v0 0 (h 576 0 0)) 577 0 0)) 578 v0 0 ((hset (hset h 576 v0 0 (h 576 0 0)) 577 v0 0 ((hset h 576 v0 0 (h 576 0 0)) 577 0 0)) 578 0 0)) 579 v0 0 ((hset (hset (hset h 576 v0 0 (h 576 0 0)) 577 v0 0 ((hset h 576 v0 0 (h 576 0 0)) 577 0 0)) 578 v0 0 ((hset (hset h 576 v0 0 (h 576 0 0)) 577 v0 0 ((hset h 576 v0 0 (h 576 0 0)) 577 0 0)) 578 0 0)) 579 0 0)) 580 v0 0 ((hset (hset (hset (hset h 576 v0 0 (h 576 0 0)) 577 v0 0 ((hset h 576 v0 0 (h 576 0 0)) 577 0 0)) 578 v0 0 ((hset (hset h 576 v0 0 (h 576 0 0)) 577 v0 0 ((hset h 576 v0 0 (h 576 0 0)) 577 0 0)) 578 0 0)) 579 v0 0 ((hset (hset (hset h 576 v0 0 (h 576 0 0)) 577 v0 0 ((hset h 576 v0 0 (h 576 0 0)) 577 0 0)) 578 v0 0 ((hset (hset h 576 v0 0 (h 576 0 0)) 577 v0 0 ((hset h 576 v0 0 (h 576 0 0)) 577 0 0)) 578 0 0)) 579 0 0)) 580 0 0)) 581 0 0)) 582 0 0)) 583 v0 583 0 0 0 6) 584 v0 584 0 0 0 6) 585 v0 585 0 0 0 6) 586 v0 586 0 0 0 6) 587 v0 587 0 0 0 6) 588 v0 588 0 0 0 6) 589 v0 589 0 0 0 6) 590 v0 590 0 0 0 20) 591 v0 591 0 0 0 20) 592 v0 592 0 0 0 20) 593 v0 593 0 0 0 8) 594 v0 594 0 0 0 6) 595 v0 595 0 0 0 6), hm, o))) K52b_0 rfl ⟨by decide, by decide, by decide, by decide, by decide, by decide, by decide, by decide, by decide, by decide, by decide, by decide, by decide, by decide, by decide, by decide, by decide, by decide, by decide, by decide, by decide, by decide, by decide, by decide, by decide, by decide, by decide, by decide, by decide, by decide, by decide, by decide, by decide, by decide, by decide, by decide, by decide, by decide, by decide, by decide, by decide, by decide, by decide, by decide, by decide, by decide, by decide, by decide, by decide, by decide, by decide, by decide, by decide, by decide, by decide, by decide, by decide, by decide, by decide, by decide, by decide, by decide, by decide, by decide, by decide, trivial⟩ ?_
  obtain rfl := Option.some.inj e
  exact zF_rv (by decide +kernel)
def B155b_0 : List zRow := [(0, .aload_n 0, 1, (0, 0, 0)), (1, .aload_n 1, 1, (0, 0, 0)), (2, .getfield 19, 3, (6, 0, 0)), (5, .putfield 19, 3, (6, 0, 0)), (8, .aload_n 0, 1, (0, 0, 0)), (9, .aload_n 1, 1, (0, 0, 0)), (10, .getfield 23, 3, (6, 1, 0)), (13, .putfield 23, 3, (6, 1, 0)), (16, .aload_n 1, 1, (0, 0, 0)), (17, .getfield 9, 3, (6, 2, 5243362)), (20, .iconst 0, 1, (0, 0, 0)), (21, .aload_n 0, 1, (0, 0, 0)), (22, .getfield 9, 3, (6, 2, 5243362)), (25, .iconst 0, 1, (0, 0, 0)), (26, .aload_n 0, 1, (0, 0, 0)), (27, .getfield 23, 3, (6, 1, 0)), (30, .iconst 3, 1, (0, 0, 0)), (31, .imul, 1, (0, 0, 0)), (32, .invokestatic 26, 3, (5001, 0, 0))]
theorem K155b_0 : zRk 155 B155b_0 = true := by decide +kernel
/-- EchoVale$Sentence.copyFrom(LEchoVale$Sentence;)V -/
def F155b (v0 : Int) (h : zHC) : Option zHC := zG (0 ≤ (wmul ((hset (hset h 384 v0 0 (h 384 0 0)) 385 v0 0 ((hset h 384 v0 0 (h 384 0 0)) 385 0 0)) 385 v0 0) 3)) (zG (0 + (wmul ((hset (hset h 384 v0 0 (h 384 0 0)) 385 v0 0 ((hset h 384 v0 0 (h 384 0 0)) 385 0 0)) 385 v0 0) 3) ≤ 120) (zG (0 + (wmul ((hset (hset h 384 v0 0 (h 384 0 0)) 385 v0 0 ((hset h 384 v0 0 (h 384 0 0)) 385 0 0)) 385 v0 0) 3) ≤ 120) (some (hcpy (hset (hset h 384 v0 0 (h 384 0 0)) 385 v0 0 ((hset h 384 v0 0 (h 384 0 0)) 385 0 0)) 386 v0 386 0 0 0 (wmul ((hset (hset h 384 v0 0 (h 384 0 0)) 385 v0 0 ((hset h 384 v0 0 (h 384 0 0)) 385 0 0)) 385 v0 0) 3)))))
set_option maxRecDepth 100000 in
theorem S155b {spec : zRn zH2} {hm : zHM} {o : Int → Int} {d : Nat} (hd : 1 ≤ d) (v0 : Int) (h : zHC) (v : zHC) (e : F155b v0 h = some v) : zRu2 spec d 155 [(16, v0), (16, 0)] (h, hm, o) none (v, hm, o) := by
  refine zF_in (D := 0) (mx := 2) (L := [some (16, v0), some (16, 0)]) (by decide +kernel) rfl rfl hd (fun d hd => ?_)
  unfold F155b at e
  obtain ⟨q1, e⟩ := zG_s e
  obtain ⟨q2, e⟩ := zG_s e
  obtain ⟨q2, e⟩ := zG_s e
  refine zF_blk (m := []) (d := 0) (b := B155b_0) (gs := [0 ≤ 0, 0 ≤ 0, 0 ≤ (wmul ((hset (hset h 384 v0 0 (h 384 0 0)) 385 v0 0 ((hset h 384 v0 0 (h 384 0 0)) 385 0 0)) 385 v0 0) 3), 0 + (wmul ((hset (hset h 384 v0 0 (h 384 0 0)) 385 v0 0 ((hset h 384 v0 0 (h 384 0 0)) 385 0 0)) 385 v0 0) 3) ≤ 120, 0 + (wmul ((hset (hset h 384 v0 0 (h 384 0 0)) 385 v0 0 ((hset h 384 v0 0 (h 384 0 0)) 385 0 0)) 385 v0 0) 3) ≤ 120]) (c' := (35, [some (16, v0), some (16, 0)], [], ((hcpy (hset (hset h 384 v0 0 (h 384 0 0)) 385 v0 0 ((hset h 384 v0 0 (h 384 0 0)) 385 0 0)) 386 v0 386 0 0 0 (wmul ((hset (hset h 384 v0 0 (h 384 0 0)) 385 v0 0 ((hset h 384 v0 0 (h 384 0 0)) 385 0 0)) 385 v0 0) 3)), hm, o))) K155b_0 rfl ⟨by decide, by decide, q1, q2, q2, trivial⟩ ?_
  obtain rfl := Option.some.inj e
  exact zF_rv (by decide +kernel)
def B160_0 : List zRow := [(9, .iconst 0, 1, (0, 0, 0))]
theorem K160_0 : zRk 160 B160_0 = true := by decide +kernel
def B160_1 : List zRow := [(11, .aload_n 0, 1, (0, 0, 0)), (12, .getfield 72, 3, (11, 9, 6291466)), (15, .iload_n 1, 1, (0, 0, 0)), (16, .aaload, 1, (24, 0, 0)), (17, .getfield 359, 3, (3, 1, 359)), (20, .aload_n 0, 1, (0, 0, 0)), (21, .getfield 19, 3, (11, 1, 39))]
theorem K160_1 : zRk 160 B160_1 = true := by decide +kernel
def B160_2 : List zRow := [(27, .aload_n 0, 1, (0, 0, 0)), (28, .getfield 72, 3, (11, 9, 6291466)), (31, .iload_n 1, 1, (0, 0, 0)), (32, .aaload, 1, (24, 0, 0)), (33, .getfield 360, 3, (3, 2, 1351)), (36, .aload_n 0, 1, (0, 0, 0)), (37, .getfield 56, 3, (11, 6, 7))]
theorem K160_2 : zRk 160 B160_2 = true := by decide +kernel
def B160_3 : List zRow := [(43, .aload_n 0, 1, (0, 0, 0)), (44, .getfield 72, 3, (11, 9, 6291466)), (47, .iload_n 1, 1, (0, 0, 0)), (48, .aaload, 1, (24, 0, 0)), (49, .getfield 361, 3, (3, 3, 347)), (52, .aload_n 0, 1, (0, 0, 0)), (53, .getfield 42, 3, (11, 4, 27))]
theorem K160_3 : zRk 160 B160_3 = true := by decide +kernel
def B160_4 : List zRow := [(59, .aload_n 0, 1, (0, 0, 0)), (60, .getfield 72, 3, (11, 9, 6291466)), (63, .iload_n 1, 1, (0, 0, 0)), (64, .aaload, 1, (24, 0, 0)), (65, .iconst 1, 1, (0, 0, 0)), (66, .putfield 362, 3, (3, 0, 0)), (69, .iconst 1, 1, (0, 0, 0))]
theorem K160_4 : zRk 160 B160_4 = true := by decide +kernel
def B160_5 : List zRow := [(4, .iload_n 1, 1, (0, 0, 0)), (5, .iconst 2, 1, (0, 0, 0)), (6, .if_icmp .lt 5, 3, (0, 0, 0))]
theorem K160_5 : zRk 160 B160_5 = true := by decide +kernel
def B160_6 : List zRow := [(0, .iload_n 1, 1, (0, 0, 0)), (1, .ifCond .lt 8, 3, (0, 0, 0))]
theorem K160_6 : zRk 160 B160_6 = true := by decide +kernel
/-- EchoVale.image(I)Z -/
def F160 (v1 : Int) (h : zHC) : Option (Int × zHC) := if v1 < 0 then some (0, h) else if v1 < 2 then zG (0 ≤ v1 ∧ v1 < 2) ((F52b (v1 + 2) h).bind fun r1 => zG (0 ≤ v1 ∧ v1 < 2) ((F71 (v1 + 10) r1).bind fun r2 => zG (0 ≤ v1 ∧ v1 < 2) ((F155b (v1 + 2) r2).bind fun r3 => zG (0 ≤ v1 ∧ v1 < 2) (some (1, (hset r3 192 v1 0 1)))))) else some (0, h)
set_option maxRecDepth 100000 in
theorem S160 {spec : zRn zH2} {hm : zHM} {o : Int → Int} {d : Nat} (hd : 3 ≤ d) (v1 : Int) (h : zHC) (v : (Int × zHC)) (e : F160 v1 h = some v) : zRu2 spec d 160 [(21, 0), (0, v1)] (h, hm, o) (some (0, v.1)) (v.2, hm, o) := by
  refine zF_in (D := 2) (mx := 2) (L := [some (21, 0), some (0, v1)]) (by decide +kernel) rfl rfl hd (fun d hd => ?_)
  unfold F160 at e
  rcases zI_s e with ⟨q1, e⟩ | ⟨q1, e⟩
  · refine zF_blk (m := []) (d := 1) (b := B160_6) (gs := [v1 < 0]) (c' := (9, [some (21, 0), some (0, v1)], [], (h, hm, o))) K160_6 rfl ⟨q1, trivial⟩ ?_
    refine zF_blk (m := []) (d := 0) (b := B160_0) (gs := []) (c' := (10, [some (21, 0), some (0, v1)], [(0, 0)], (h, hm, o))) K160_0 rfl trivial ?_
    exact zF_rbC (by decide +kernel) (Or.inl rfl) e
  · refine zF_blk (m := []) (d := 0) (b := B160_6) (gs := [¬ (v1 < 0)]) (c' := (4, [some (21, 0), some (0, v1)], [], (h, hm, o))) K160_6 rfl ⟨q1, trivial⟩ ?_
    rcases zI_s e with ⟨q2, e⟩ | ⟨q2, e⟩
    · refine zF_blk (m := []) (d := 1) (b := B160_5) (gs := [v1 < 2]) (c' := (11, [some (21, 0), some (0, v1)], [], (h, hm, o))) K160_5 rfl ⟨q2, trivial⟩ ?_
      obtain ⟨q3, e⟩ := zG_s e
      obtain ⟨r1, q4, e⟩ := zB_s e
      refine zF_blk (m := []) (d := 0) (b := B160_1) (gs := [0 ≤ v1 ∧ v1 < 2]) (c' := (24, [some (21, 0), some (0, v1)], [(19, 0), (19, (v1 + 2))], (h, hm, o))) K160_1 rfl ⟨q3, trivial⟩ ?_
      refine zF_call (k := 52) (cl := 9) (n := 2) (i := .invokevirtual 120) (args := [(19, (v1 + 2)), (19, 0)]) (rest := []) (g1 := (r1, hm, o)) (r1 := none) (by decide +kernel) rfl rfl rfl (st' := []) rfl (S52b (Nat.le_trans (by decide) hd) (v1 + 2) h _ q4) ?_
      obtain ⟨q5, e⟩ := zG_s e
      obtain ⟨r2, q6, e⟩ := zB_s e
      refine zF_blk (m := []) (d := 0) (b := B160_2) (gs := [0 ≤ v1 ∧ v1 < 2]) (c' := (40, [some (21, 0), some (0, v1)], [(11, 0), (11, (v1 + 10))], (r1, hm, o))) K160_2 rfl ⟨q5, trivial⟩ ?_
      refine zF_call (k := 71) (cl := 1) (n := 2) (i := .invokevirtual 266) (args := [(11, (v1 + 10)), (11, 0)]) (rest := []) (g1 := (r2, hm, o)) (r1 := none) (by decide +kernel) rfl rfl rfl (st' := []) rfl (S71 (Nat.le_trans (by decide) hd) (v1 + 10) r1 _ q6) ?_
      obtain ⟨q7, e⟩ := zG_s e
      obtain ⟨r3, q8, e⟩ := zB_s e
      refine zF_blk (m := []) (d := 0) (b := B160_3) (gs := [0 ≤ v1 ∧ v1 < 2]) (c' := (56, [some (21, 0), some (0, v1)], [(16, 0), (16, (v1 + 2))], (r2, hm, o))) K160_3 rfl ⟨q7, trivial⟩ ?_
      refine zF_call (k := 155) (cl := 6) (n := 2) (i := .invokevirtual 348) (args := [(16, (v1 + 2)), (16, 0)]) (rest := []) (g1 := (r3, hm, o)) (r1 := none) (by decide +kernel) rfl rfl rfl (st' := []) rfl (S155b (Nat.le_trans (by decide) hd) (v1 + 2) r2 _ q8) ?_
      obtain ⟨q9, e⟩ := zG_s e
      refine zF_blk (m := []) (d := 0) (b := B160_4) (gs := [0 ≤ v1 ∧ v1 < 2, 1 = 0 ∨ 1 = 1]) (c' := (70, [some (21, 0), some (0, v1)], [(0, 1)], ((hset r3 192 v1 0 1), hm, o))) K160_4 rfl ⟨q9, by decide, trivial⟩ ?_
      exact zF_rbC (by decide +kernel) (Or.inr rfl) e
    · refine zF_blk (m := []) (d := 0) (b := B160_5) (gs := [¬ (v1 < 2)]) (c' := (9, [some (21, 0), some (0, v1)], [], (h, hm, o))) K160_5 rfl ⟨q2, trivial⟩ ?_
      refine zF_blk (m := []) (d := 0) (b := B160_0) (gs := []) (c' := (10, [some (21, 0), some (0, v1)], [(0, 0)], (h, hm, o))) K160_0 rfl trivial ?_
      exact zF_rbC (by decide +kernel) (Or.inl rfl) e
def B292_0 : List zRow := [(0, .aload_n 0, 1, (0, 0, 0)), (1, .iconst 0, 1, (0, 0, 0)), (2, .putfield 81, 3, (12, 0, 0)), (5, .iload_n 1, 1, (0, 0, 0)), (6, .iconst 0, 1, (0, 0, 0)), (7, .iconst 1, 1, (0, 0, 0))]
theorem K292_0 : zRk 292 B292_0 = true := by decide +kernel
def B292_1 : List zRow := [(16, .iconst 0, 1, (0, 0, 0)), (17, .istore_n 2, 1, (0, 0, 0))]
theorem K292_1 : zRk 292 B292_1 = true := by decide +kernel
def B292_2 : List zRow := [(14, .iconst 0, 1, (0, 0, 0))]
theorem K292_2 : zRk 292 B292_2 = true := by decide +kernel
def B292_3 : List zRow := [(11, .ifCond .ne 5, 3, (0, 0, 0))]
theorem K292_3 : zRk 292 B292_3 = true := by decide +kernel
def B292_4 : List zRow := [(49, .iconst 0, 1, (0, 0, 0)), (50, .istore_n 2, 1, (0, 0, 0))]
theorem K292_4 : zRk 292 B292_4 = true := by decide +kernel
def B292_5 : List zRow := [(25, .aload_n 0, 1, (0, 0, 0)), (26, .getfield 19, 3, (12, 16, 5260002)), (29, .sipush 2140, 3, (0, 0, 0)), (32, .iload_n 1, 1, (0, 0, 0))]
theorem K292_5 : zRk 292 B292_5 = true := by decide +kernel
def B292_6 : List zRow := [(33, .imul, 1, (0, 0, 0)), (34, .iload_n 2, 1, (0, 0, 0)), (35, .iadd, 1, (0, 0, 0)), (36, .aload_n 0, 1, (0, 0, 0)), (37, .getfield 13, 3, (12, 14, 5251442)), (40, .iload_n 2, 1, (0, 0, 0)), (41, .iaload, 1, (0, 0, 0)), (42, .iastore, 1, (0, 0, 0)), (43, .iinc 2 1, 3, (0, 0, 0)), (46, .goto (-28), 3, (0, 0, 0))]
theorem K292_6 : zRk 292 B292_6 = true := by decide +kernel
def B292_7 : List zRow := [(18, .iload_n 2, 1, (0, 0, 0)), (19, .sipush 2140, 3, (0, 0, 0)), (22, .if_icmp .ge 27, 3, (0, 0, 0))]
theorem K292_7 : zRk 292 B292_7 = true := by decide +kernel
def B292_8 : List zRow := [(80, .aload_n 0, 1, (0, 0, 0)), (81, .getfield 38, 3, (12, 22, 5767178)), (84, .iload_n 1, 1, (0, 0, 0)), (85, .iconst 1, 1, (0, 0, 0)), (86, .bastore, 1, (0, 0, 0)), (87, .iconst 1, 1, (0, 0, 0))]
theorem K292_8 : zRk 292 B292_8 = true := by decide +kernel
def B292_9 : List zRow := [(57, .aload_n 0, 1, (0, 0, 0)), (58, .getfield 35, 3, (12, 21, 5505122)), (61, .bipush 12, 2, (0, 0, 0)), (63, .iload_n 1, 1, (0, 0, 0))]
theorem K292_9 : zRk 292 B292_9 = true := by decide +kernel
def B292_10 : List zRow := [(64, .imul, 1, (0, 0, 0)), (65, .iload_n 2, 1, (0, 0, 0)), (66, .iadd, 1, (0, 0, 0)), (67, .aload_n 0, 1, (0, 0, 0)), (68, .getfield 28, 3, (12, 19, 5505074)), (71, .iload_n 2, 1, (0, 0, 0)), (72, .laload, 1, (0, 0, 0)), (73, .lastore, 1, (0, 0, 0)), (74, .iinc 2 1, 3, (0, 0, 0)), (77, .goto (-26), 3, (0, 0, 0))]
theorem K292_10 : zRk 292 B292_10 = true := by decide +kernel
def B292_11 : List zRow := [(51, .iload_n 2, 1, (0, 0, 0)), (52, .bipush 12, 2, (0, 0, 0)), (54, .if_icmp .ge 26, 3, (0, 0, 0))]
theorem K292_11 : zRk 292 B292_11 = true := by decide +kernel
def F292_1 : Nat → Int → Int → zHM → Option (Int × zHM)
  | 0, _, _, _ => none
  | n + 1, v1, v2, h => if 12 ≤ v2 then zG (0 ≤ v1 ∧ v1 < 2) (some (1, (mset h 22 v1 1))) else zG (0 ≤ v2 ∧ v2 < 12) (zG (0 ≤ (wadd (wmul 12 v1) v2) ∧ (wadd (wmul 12 v1) v2) < 24) ((F292_1 n) v1 (wadd v2 1) (mset h 21 (wadd (wmul 12 v1) v2) (h 19 v2))))
set_option maxRecDepth 100000 in
theorem T292_1 {spec : zRn zH2} {hc : zHC} {o : Int → Int} {d : Nat} (hd : 1 ≤ d) : ∀ (n : Nat) (v1 : Int) (v2 : Int) (h : zHM) (v : (Int × zHM)), F292_1 n v1 v2 h = some v → zFin 0 (fun _ => 0) (zRu2 spec d) 292 (some (0, v.1)) (hc, v.2, o) (51, [some (22, 0), some (0, v1), some (0, v2)], [], (hc, h, o)) := by
  intro n
  induction n with
  | zero => intro v1 v2 h v e; unfold F292_1 at e; cases e
  | succ n hk0 =>
    intro v1 v2 h v e
    unfold F292_1 at e
    rcases zI_s e with ⟨q1, e⟩ | ⟨q1, e⟩
    · refine zF_blk (m := []) (d := 1) (b := B292_11) (gs := [12 ≤ v2]) (c' := (80, [some (22, 0), some (0, v1), some (0, v2)], [], (hc, h, o))) K292_11 rfl ⟨q1, trivial⟩ ?_
      obtain ⟨q2, e⟩ := zG_s e
      refine zF_blk (m := []) (d := 0) (b := B292_8) (gs := [0 ≤ v1 ∧ v1 < 2, 1 = 0 ∨ 1 = 1]) (c' := (88, [some (22, 0), some (0, v1), some (0, v2)], [(0, 1)], (hc, (mset h 22 v1 1), o))) K292_8 rfl ⟨q2, by decide, trivial⟩ ?_
      exact zF_rbM (by decide +kernel) (Or.inr rfl) e
    · refine zF_blk (m := []) (d := 0) (b := B292_11) (gs := [¬ (12 ≤ v2)]) (c' := (57, [some (22, 0), some (0, v1), some (0, v2)], [], (hc, h, o))) K292_11 rfl ⟨q1, trivial⟩ ?_
      obtain ⟨q3, e⟩ := zG_s e
      obtain ⟨q4, e⟩ := zG_s e
      refine zF_blk (m := []) (d := 0) (b := B292_9) (gs := []) (c' := (64, [some (22, 0), some (0, v1), some (0, v2)], [(0, v1), (0, 12), (1409312509, 0)], (hc, h, o))) K292_9 rfl trivial ?_
      refine zF_blk (m := []) (d := 0) (b := B292_10) (gs := [0 ≤ v2 ∧ v2 < 12, 0 ≤ (wadd (wmul 12 v1) v2) ∧ (wadd (wmul 12 v1) v2) < 24]) (c' := (51, [some (22, 0), some (0, v1), some (0, (wadd v2 1))], [], (hc, (mset h 21 (wadd (wmul 12 v1) v2) (h 19 v2)), o))) K292_10 rfl ⟨q3, q4, trivial⟩ ?_
      exact hk0 v1 (wadd v2 1) (mset h 21 (wadd (wmul 12 v1) v2) (h 19 v2)) _ e
def F292_0 : Nat → Int → Int → zHM → Option (Int × zHM)
  | 0, _, _, _ => none
  | n + 1, v1, v2, h => if 2140 ≤ v2 then F292_1 zFu v1 0 h else zG (0 ≤ v2 ∧ v2 < 2140) (zG (0 ≤ (wadd (wmul 2140 v1) v2) ∧ (wadd (wmul 2140 v1) v2) < 4280) ((F292_0 n) v1 (wadd v2 1) (mset h 16 (wadd (wmul 2140 v1) v2) (h 14 v2))))
set_option maxRecDepth 100000 in
theorem T292_0 {spec : zRn zH2} {hc : zHC} {o : Int → Int} {d : Nat} (hd : 1 ≤ d) : ∀ (n : Nat) (v1 : Int) (v2 : Int) (h : zHM) (v : (Int × zHM)), F292_0 n v1 v2 h = some v → zFin 0 (fun _ => 0) (zRu2 spec d) 292 (some (0, v.1)) (hc, v.2, o) (18, [some (22, 0), some (0, v1), some (0, v2)], [], (hc, h, o)) := by
  intro n
  induction n with
  | zero => intro v1 v2 h v e; unfold F292_0 at e; cases e
  | succ n hk0 =>
    intro v1 v2 h v e
    unfold F292_0 at e
    rcases zI_s e with ⟨q1, e⟩ | ⟨q1, e⟩
    · refine zF_blk (m := []) (d := 1) (b := B292_7) (gs := [2140 ≤ v2]) (c' := (49, [some (22, 0), some (0, v1), some (0, v2)], [], (hc, h, o))) K292_7 rfl ⟨q1, trivial⟩ ?_
      refine zF_blk (m := []) (d := 0) (b := B292_4) (gs := []) (c' := (51, [some (22, 0), some (0, v1), some (0, 0)], [], (hc, h, o))) K292_4 rfl trivial ?_
      exact T292_1 hd zFu v1 0 h _ e
    · refine zF_blk (m := []) (d := 0) (b := B292_7) (gs := [¬ (2140 ≤ v2)]) (c' := (25, [some (22, 0), some (0, v1), some (0, v2)], [], (hc, h, o))) K292_7 rfl ⟨q1, trivial⟩ ?_
      obtain ⟨q2, e⟩ := zG_s e
      obtain ⟨q3, e⟩ := zG_s e
      refine zF_blk (m := []) (d := 0) (b := B292_5) (gs := []) (c' := (33, [some (22, 0), some (0, v1), some (0, v2)], [(0, v1), (0, 2140), (1346561784, 0)], (hc, h, o))) K292_5 rfl trivial ?_
      refine zF_blk (m := []) (d := 0) (b := B292_6) (gs := [0 ≤ v2 ∧ v2 < 2140, 0 ≤ (wadd (wmul 2140 v1) v2) ∧ (wadd (wmul 2140 v1) v2) < 4280]) (c' := (18, [some (22, 0), some (0, v1), some (0, (wadd v2 1))], [], (hc, (mset h 16 (wadd (wmul 2140 v1) v2) (h 14 v2)), o))) K292_6 rfl ⟨q2, q3, trivial⟩ ?_
      exact hk0 v1 (wadd v2 1) (mset h 16 (wadd (wmul 2140 v1) v2) (h 14 v2)) _ e
/-- EchoValeModel.image(I)Z -/
def F292 (v1 : Int) (h : zHM) : Option (Int × zHM) := (F188 v1 0 1).bind fun r1 => if ¬ r1 = 0 then F292_0 zFu v1 0 (mset h 0 0 0) else some (0, (mset h 0 0 0))
set_option maxRecDepth 100000 in
theorem S292 {spec : zRn zH2} {hc : zHC} {o : Int → Int} {d : Nat} (hd : 2 ≤ d) (v1 : Int) (h : zHM) (v : (Int × zHM)) (e : F292 v1 h = some v) : zRu2 spec d 292 [(22, 0), (0, v1)] (hc, h, o) (some (0, v.1)) (hc, v.2, o) := by
  refine zF_in (D := 1) (mx := 3) (L := [some (22, 0), some (0, v1), none]) (by decide +kernel) rfl rfl hd (fun d hd => ?_)
  unfold F292 at e
  obtain ⟨r1, q1, e⟩ := zB_s e
  refine zF_blk (m := []) (d := 0) (b := B292_0) (gs := []) (c' := (8, [some (22, 0), some (0, v1), none], [(0, 1), (0, 0), (0, v1)], (hc, (mset h 0 0 0), o))) K292_0 rfl trivial ?_
  refine zF_call (k := 188) (cl := 12) (n := 3) (i := .invokestatic 151) (args := [(0, v1), (0, 0), (0, 1)]) (rest := []) (g1 := (hc, (mset h 0 0 0), o)) (r1 := some (0, r1)) (by decide +kernel) rfl rfl rfl (st' := [(0, r1)]) rfl (S188 (Nat.le_trans (by decide) hd) v1 0 1 (mset h 0 0 0) _ q1) ?_
  rcases zI_s e with ⟨q2, e⟩ | ⟨q2, e⟩
  · refine zF_blk (m := []) (d := 1) (b := B292_3) (gs := [¬ r1 = 0]) (c' := (16, [some (22, 0), some (0, v1), none], [], (hc, (mset h 0 0 0), o))) K292_3 rfl ⟨q2, trivial⟩ ?_
    refine zF_blk (m := []) (d := 0) (b := B292_1) (gs := []) (c' := (18, [some (22, 0), some (0, v1), some (0, 0)], [], (hc, (mset h 0 0 0), o))) K292_1 rfl trivial ?_
    exact T292_0 hd zFu v1 0 (mset h 0 0 0) _ e
  · refine zF_blk (m := []) (d := 0) (b := B292_3) (gs := [¬ (¬ r1 = 0)]) (c' := (14, [some (22, 0), some (0, v1), none], [], (hc, (mset h 0 0 0), o))) K292_3 rfl ⟨q2, trivial⟩ ?_
    refine zF_blk (m := []) (d := 0) (b := B292_2) (gs := []) (c' := (15, [some (22, 0), some (0, v1), none], [(0, 0)], (hc, (mset h 0 0 0), o))) K292_2 rfl trivial ?_
    exact zF_rbM (by decide +kernel) (Or.inl rfl) e
def B52c_0 : List zRow := [(0, .aload_n 0, 1, (0, 0, 0)), (1, .aload_n 1, 1, (0, 0, 0)), (2, .getfield 52, 3, (9, 0, 0)), (5, .putfield 52, 3, (9, 0, 0)), (8, .aload_n 0, 1, (0, 0, 0)), (9, .aload_n 1, 1, (0, 0, 0)), (10, .getfield 56, 3, (9, 1, 0)), (13, .putfield 56, 3, (9, 1, 0)), (16, .aload_n 0, 1, (0, 0, 0)), (17, .aload_n 1, 1, (0, 0, 0)), (18, .getfield 59, 3, (9, 2, 0)), (21, .putfield 59, 3, (9, 2, 0)), (24, .aload_n 0, 1, (0, 0, 0)), (25, .aload_n 1, 1, (0, 0, 0)), (26, .getfield 62, 3, (9, 3, 0)), (29, .putfield 62, 3, (9, 3, 0)), (32, .aload_n 0, 1, (0, 0, 0)), (33, .aload_n 1, 1, (0, 0, 0)), (34, .getfield 65, 3, (9, 4, 0)), (37, .putfield 65, 3, (9, 4, 0)), (40, .aload_n 0, 1, (0, 0, 0)), (41, .aload_n 1, 1, (0, 0, 0)), (42, .getfield 68, 3, (9, 5, 0)), (45, .putfield 68, 3, (9, 5, 0)), (48, .aload_n 0, 1, (0, 0, 0)), (49, .aload_n 1, 1, (0, 0, 0)), (50, .getfield 71, 3, (9, 6, 0)), (53, .putfield 71, 3, (9, 6, 0)), (56, .aload_n 1, 1, (0, 0, 0)), (57, .getfield 9, 3, (9, 7, 5505050)), (60, .iconst 0, 1, (0, 0, 0)), (61, .aload_n 0, 1, (0, 0, 0)), (62, .getfield 9, 3, (9, 7, 5505050)), (65, .iconst 0, 1, (0, 0, 0)), (66, .bipush 6, 2, (0, 0, 0)), (68, .invokestatic 74, 3, (5001, 0, 0)), (71, .aload_n 1, 1, (0, 0, 0)), (72, .getfield 15, 3, (9, 8, 5242906)), (75, .iconst 0, 1, (0, 0, 0)), (76, .aload_n 0, 1, (0, 0, 0)), (77, .getfield 15, 3, (9, 8, 5242906)), (80, .iconst 0, 1, (0, 0, 0)), (81, .bipush 6, 2, (0, 0, 0)), (83, .invokestatic 74, 3, (5001, 0, 0)), (86, .aload_n 1, 1, (0, 0, 0)), (87, .getfield 19, 3, (9, 9, 5242906)), (90, .iconst 0, 1, (0, 0, 0)), (91, .aload_n 0, 1, (0, 0, 0)), (92, .getfield 19, 3, (9, 9, 5242906)), (95, .iconst 0, 1, (0, 0, 0)), (96, .bipush 6, 2, (0, 0, 0)), (98, .invokestatic 74, 3, (5001, 0, 0)), (101, .aload_n 1, 1, (0, 0, 0)), (102, .getfield 22, 3, (9, 10, 5242906)), (105, .iconst 0, 1, (0, 0, 0)), (106, .aload_n 0, 1, (0, 0, 0)), (107, .getfield 22, 3, (9, 10, 5242906)), (110, .iconst 0, 1, (0, 0, 0)), (111, .bipush 6, 2, (0, 0, 0)), (113, .invokestatic 74, 3, (5001, 0, 0)), (116, .aload_n 1, 1, (0, 0, 0)), (117, .getfield 25, 3, (9, 11, 5505050)), (120, .iconst 0, 1, (0, 0, 0)), (121, .aload_n 0, 1, (0, 0, 0)), (122, .getfield 25, 3, (9, 11, 5505050)), (125, .iconst 0, 1, (0, 0, 0)), (126, .bipush 6, 2, (0, 0, 0)), (128, .invokestatic 74, 3, (5001, 0, 0)), (131, .aload_n 1, 1, (0, 0, 0)), (132, .getfield 28, 3, (9, 12, 5242906)), (135, .iconst 0, 1, (0, 0, 0)), (136, .aload_n 0, 1, (0, 0, 0)), (137, .getfield 28, 3, (9, 12, 5242906)), (140, .iconst 0, 1, (0, 0, 0)), (141, .bipush 6, 2, (0, 0, 0)), (143, .invokestatic 74, 3, (5001, 0, 0)), (146, .aload_n 1, 1, (0, 0, 0)), (147, .getfield 31, 3, (9, 13, 5242906)), (150, .iconst 0, 1, (0, 0, 0)), (151, .aload_n 0, 1, (0, 0, 0)), (152, .getfield 31, 3, (9, 13, 5242906)), (155, .iconst 0, 1, (0, 0, 0)), (156, .bipush 6, 2, (0, 0, 0)), (158, .invokestatic 74, 3, (5001, 0, 0)), (161, .aload_n 1, 1, (0, 0, 0)), (162, .getfield 34, 3, (9, 14, 5242962)), (165, .iconst 0, 1, (0, 0, 0)), (166, .aload_n 0, 1, (0, 0, 0)), (167, .getfield 34, 3, (9, 14, 5242962)), (170, .iconst 0, 1, (0, 0, 0)), (171, .bipush 20, 2, (0, 0, 0)), (173, .invokestatic 74, 3, (5001, 0, 0)), (176, .aload_n 1, 1, (0, 0, 0)), (177, .getfield 37, 3, (9, 15, 5242962)), (180, .iconst 0, 1, (0, 0, 0)), (181, .aload_n 0, 1, (0, 0, 0)), (182, .getfield 37, 3, (9, 15, 5242962)), (185, .iconst 0, 1, (0, 0, 0)), (186, .bipush 20, 2, (0, 0, 0)), (188, .invokestatic 74, 3, (5001, 0, 0)), (191, .aload_n 1, 1, (0, 0, 0)), (192, .getfield 40, 3, (9, 16, 5242962)), (195, .iconst 0, 1, (0, 0, 0)), (196, .aload_n 0, 1, (0, 0, 0)), (197, .getfield 40, 3, (9, 16, 5242962)), (200, .iconst 0, 1, (0, 0, 0)), (201, .bipush 20, 2, (0, 0, 0)), (203, .invokestatic 74, 3, (5001, 0, 0)), (206, .aload_n 1, 1, (0, 0, 0)), (207, .getfield 43, 3, (9, 17, 5242914)), (210, .iconst 0, 1, (0, 0, 0)), (211, .aload_n 0, 1, (0, 0, 0)), (212, .getfield 43, 3, (9, 17, 5242914)), (215, .iconst 0, 1, (0, 0, 0)), (216, .bipush 8, 2, (0, 0, 0)), (218, .invokestatic 74, 3, (5001, 0, 0)), (221, .aload_n 1, 1, (0, 0, 0)), (222, .getfield 46, 3, (9, 18, 5242906)), (225, .iconst 0, 1, (0, 0, 0)), (226, .aload_n 0, 1, (0, 0, 0)), (227, .getfield 46, 3, (9, 18, 5242906)), (230, .iconst 0, 1, (0, 0, 0)), (231, .bipush 6, 2, (0, 0, 0)), (233, .invokestatic 74, 3, (5001, 0, 0)), (236, .aload_n 1, 1, (0, 0, 0)), (237, .getfield 49, 3, (9, 19, 5242906)), (240, .iconst 0, 1, (0, 0, 0)), (241, .aload_n 0, 1, (0, 0, 0)), (242, .getfield 49, 3, (9, 19, 5242906)), (245, .iconst 0, 1, (0, 0, 0)), (246, .bipush 6, 2, (0, 0, 0)), (248, .invokestatic 74, 3, (5001, 0, 0))]
theorem K52c_0 : zRk 52 B52c_0 = true := by decide +kernel
/-- EchoVale$Valley.copyFrom(LEchoVale$Valley;)V -/
def F52c (v1 : Int) (h : zHC) : Option zHC := some (hcpy (hcpy (hcpy (hcpy (hcpy (hcpy (hcpy (hcpy (hcpy (hcpy (hcpy (hcpy (hcpy (hset (hset (hset (hset (hset (hset (hset h 576 0 0 (h 576 v1 0)) 577 0 0 ((hset h 576 0 0 (h 576 v1 0)) 577 v1 0)) 578 0 0 ((hset (hset h 576 0 0 (h 576 v1 0)) 577 0 0 ((hset h 576 0 0 (h 576 v1 0)) 577 v1 0)) 578 v1 0)) 579 0 0 ((hset (hset (hset h 576 0 0 (h 576 v1 0)) 577 0 0 ((hset h 576 0 0 (h 576 v1 0)) 577 v1 0)) 578 0 0 ((hset (hset h 576 0 0 (h 576 v1 0)) 577 0 0 ((hset h 576 0 0 (h 576 v1 0)) 577 v1 0)) 578 v1 0)) 579 v1 0)) 580 0 0 ((hset (hset (hset (hset h 576 0 0 (h 576 v1 0)) 577 0 0 ((hset h 576 0 0 (h 576 v1 0)) 577 v1 0)) 578 0 0 ((hset (hset h 576 0 0 (h 576 v1 0)) 577 0 0 ((hset h 576 0 0 (h 576 v1 0)) 577 v1 0)) 578 v1 0)) 579 0 0 ((hset (hset (hset h 576 0 0 (h 576 v1 0)) 577 0 0 ((hset h 576 0 0 (h 576 v1 0)) 577 v1 0)) 578 0 0 ((hset (hset h 576 0 0 (h 576 v1 0)) 577 0 0 ((hset h 576 0 0 (h 576 v1 0)) 577 v1 0)) 578 v1 0)) 579 v1 0)) 580 v1 0)) 581 0 0 ((hset (hset (hset (hset (hset h 576 0 0 (h 576 v1 0)) 577 0 0 ((hset h 576 0 0 (h 576 v1 0)) 577 v1 0)) 578 0 0 ((hset (hset h 576 0 0 (h 576 v1 0)) 577 0 0 ((hset h 576 0 0 (h 576 v1 0)) 577 v1 0)) 578 v1 0)) 579 0 0 ((hset (hset (hset h 576 0 0 (h 576 v1 0)) 577 0 0 ((hset h 576 0 0 (h 576 v1 0)) 577 v1 0)) 578 0 0 ((hset (hset h 576 0 0 (h 576 v1 0)) 577 0 0 ((hset h 576 0 0 (h 576 v1 0)) 577 v1 0)) 578 v1 0)) 579 v1 0)) 580 0 0 ((hset (hset (hset (hset h 576 0 0 (h 576 v1 0)) 577 0 0 ((hset h 576 0 0 (h 576 v1 0)) 577 v1 0)) 578 0 0 ((hset (hset h 576 0 0 (h 576 v1 0)) 577 0 0 ((hset h 576 0 0 (h 576 v1 0)) 577 v1 0)) 578 v1 0)) 579 0 0 ((hset (hset (hset h 576 0 0 (h 576 v1 0)) 577 0 0 ((hset h 576 0 0 (h 576 v1 0)) 577 v1 0)) 578 0 0 ((hset (hset h 576 0 0 (h 576 v1 0)) 577 0 0 ((hset h 576 0 0 (h 576 v1 0)) 577 v1 0)) 578 v1 0)) 579 v1 0)) 580 v1 0)) 581 v1 0)) 582 0 0 ((hset (hset (hset (hset (hset (hset h 576 0 0 (h 576 v1 0)) 577 0 0 ((hset h 576 0 0 (h 576 v1 0)) 577 v1 0)) 578 0 0 ((hset (hset h 576 0 0 (h 576 v1 0)) 577 0 0 ((hset h 576 0 0 (h 576 v1 0)) 577 v1 0)) 578 v1 0)) 579 0 0 ((hset (hset (hset h 576 0 0 (h 576 v1 0)) 577 0 0 ((hset h 576 0 0 (h 576 v1 0)) 577 v1 0)) 578 0 0 ((hset (hset h 576 0 0 (h 576 v1 0)) 577 0 0 ((hset h 576 0 0 (h 576 v1 0)) 577 v1 0)) 578 v1 0)) 579 v1 0)) 580 0 0 ((hset (hset (hset (hset h 576 0 0 (h 576 v1 0)) 577 0 0 ((hset h 576 0 0 (h 576 v1 0)) 577 v1 0)) 578 0 0 ((hset (hset h 576 0 0 (h 576 v1 0)) 577 0 0 ((hset h 576 0 0 (h 576 v1 0)) 577 v1 0)) 578 v1 0)) 579 0 0 ((hset (hset (hset h 576 0 0 (h 576 v1 0)) 577 0 0 ((hset h 576 0 0 (h 576 v1 0)) 577 v1 0)) 578 0 0 ((hset (hset h 576 0 0 (h 576 v1 0)) 577 0 0 ((hset h 576 0 0 (h 576 v1 0)) 577 v1 0)) 578 v1 0)) 579 v1 0)) 580 v1 0)) 581 0 0 ((hset (hset (hset (hset (hset h 576 0 0 (h 576 v1 0)) 577 0 0 ((hset h 576 0 0 (h 576 v1 0)) 577 v1 0)) 578 0 0 ((hset (hset h 576 0 0 (h 576 v1 0)) 577 0 0 ((hset h 576 0 0 (h 576 v1 0)) 577 v1 0)) 578 v1 0)) 579 0 0 ((hset (hset (hset h 576 0 0 (h 576 v1 0)) 577 0 0 ((hset h 576 0 0 (h 576 v1 0)) 577 v1 0)) 578 0 0 ((hset (hset h 576 0 0 (h 576 v1 0)) 577 0 0 ((hset h 576 0 0 (h 576 v1 0)) 577 v1 0)) 578 v1 0)) 579 v1 0)) 580 0 0 ((hset (hset (hset (hset h 576 0 0 (h 576 v1 0)) 577 0 0 ((hset h 576 0 0 (h 576 v1 0)) 577 v1 0)) 578 0 0 ((hset (hset h 576 0 0 (h 576 v1 0)) 577 0 0 ((hset h 576 0 0 (h 576 v1 0)) 577 v1 0)) 578 v1 0)) 579 0 0 ((hset (hset (hset h 576 0 0 (h 576 v1 0)) 577 0 0 ((hset h 576 0 0 (h 576 v1 0)) 577 v1 0)) 578 0 0 ((hset (hset h 576 0 0 (h 576 v1 0)) 577 0 0 ((hset h 576 0 0 (h 576 v1 0)) 577 v1 0)) 578 v1 0)) 579 v1 0)) 580 v1 0)) 581 v1 0)) 582 v1 0)) 583 0 583 v1 0 0 6) 584 0 584 v1 0 0 6) 585 0 585 v1 0 0 6) 586 0 586 v1 0 0 6) 587 0 587 v1 0 0 6) 588 0 588 v1 0 0 6) 589 0 589 v1 0 0 6) 590 0 590 v1 0 0 20) 591 0 591 v1 0 0 20) 592 0 592 v1 0 0 20) 593 0 593 v1 0 0 8) 594 0 594 v1 0 0 6) 595 0 595 v1 0 0 6)
set_option maxRecDepth 100000 in
theorem S52c {spec : zRn zH2} {hm : zHM} {o : Int → Int} {d : Nat} (hd : 1 ≤ d) (v1 : Int) (h : zHC) (v : zHC) (e : F52c v1 h = some v) : zRu2 spec d 52 [(19, 0), (19, v1)] (h, hm, o) none (v, hm, o) := by
  refine zF_in (D := 0) (mx := 2) (L := [some (19, 0), some (19, v1)]) (by decide +kernel) rfl rfl hd (fun d hd => ?_)
  unfold F52c at e
  refine zF_blk (m := []) (d := 0) (b := B52c_0) (gs := [0 ≤ 0, 0 ≤ 0, 0 ≤ 6, 0 + 6 ≤ 6, 0 + 6 ≤ 6, 0 ≤ 0, 0 ≤ 0, 0 ≤ 6, 0 + 6 ≤ 6, 0 + 6 ≤ 6, 0 ≤ 0, 0 ≤ 0, 0 ≤ 6, 0 + 6 ≤ 6, 0 + 6 ≤ 6, 0 ≤ 0, 0 ≤ 0, 0 ≤ 6, 0 + 6 ≤ 6, 0 + 6 ≤ 6, 0 ≤ 0, 0 ≤ 0, 0 ≤ 6, 0 + 6 ≤ 6, 0 + 6 ≤ 6, 0 ≤ 0, 0 ≤ 0, 0 ≤ 6, 0 + 6 ≤ 6, 0 + 6 ≤ 6, 0 ≤ 0, 0 ≤ 0, 0 ≤ 6, 0 + 6 ≤ 6, 0 + 6 ≤ 6, 0 ≤ 0, 0 ≤ 0, 0 ≤ 20, 0 + 20 ≤ 20, 0 + 20 ≤ 20, 0 ≤ 0, 0 ≤ 0, 0 ≤ 20, 0 + 20 ≤ 20, 0 + 20 ≤ 20, 0 ≤ 0, 0 ≤ 0, 0 ≤ 20, 0 + 20 ≤ 20, 0 + 20 ≤ 20, 0 ≤ 0, 0 ≤ 0, 0 ≤ 8, 0 + 8 ≤ 8, 0 + 8 ≤ 8, 0 ≤ 0, 0 ≤ 0, 0 ≤ 6, 0 + 6 ≤ 6, 0 + 6 ≤ 6, 0 ≤ 0, 0 ≤ 0, 0 ≤ 6, 0 + 6 ≤ 6, 0 + 6 ≤ 6]) (c' := (251, [some (19, 0), some (19, v1)], [], ((hcpy (hcpy (hcpy (hcpy (hcpy (hcpy (hcpy (hcpy (hcpy (hcpy (hcpy (hcpy (hcpy (hset (hset (hset (hset (hset (hset (hset h 576 0 0 (h 576 v1 0)) 577 0 0 ((hset h 576 0 0 (h 576 v1 0)) 577 v1 0)) 578 0 0 ((hset (hset h 576 0 0 (h 576 v1 0)) 577 0 0 ((hset h 576 0 0 (h 576 v1 0)) 577 v1 0)) 578 v1 0)) 579 0 0 ((hset (hset (hset h 576 0 0 (h 576 v1 0)) 577 0 0 ((hset h 576 0 0 (h 576 v1 0)) 577 v1 0)) 578 0 0 ((hset (hset h 576 0 0 (h 576 v1 0)) 577 0 0 ((hset h 576 0 0 (h 576 v1 0)) 577 v1 0)) 578 v1 0)) 579 v1 0)) 580 0 0 ((hset (hset (hset (hset h 576 0 0 (h 576 v1 0)) 577 0 0 ((hset h 576 0 0 (h 576 v1 0)) 577 v1 0)) 578 0 0 ((hset (hset h 576 0 0 (h 576 v1 0)) 577 0 0 ((hset h 576 0 0 (h 576 v1 0)) 577 v1 0)) 578 v1 0)) 579 0 0 ((hset (hset (hset h 576 0 0 (h 576 v1 0)) 577 0 0 ((hset h 576 0 0 (h 576 v1 0)) 577 v1 0)) 578 0 0 ((hset (hset h 576 0 0 (h 576 v1 0)) 577 0 0 ((hset h 576 0 0 (h 576 v1 0)) 577 v1 0)) 578 v1 0)) 579 v1 0)) 580 v1 0)) 581 0 0 ((hset (hset (hset (hset (hset h 576 0 0 (h 576 v1 0)) 577 0 0 ((hset h 576 0 0 (h 576 v1 0)) 577 v1 0)) 578 0 0 ((hset (hset h 576 0 0 (h 576 v1 0)) 577 0 0 ((hset h 576 0 0 (h 576 v1 0)) 577 v1 0)) 578 v1 0)) 579 0 0 ((hset (hset (hset h 576 0 0 (h 576 v1 0)) 577 0 0 ((hset h 576 0 0 (h 576 v1 0)) 577 v1 0)) 578 0 0 ((hset (hset h 576 0 0 (h 576 v1 0)) 577 0 0 ((hset h 576 0 0 (h 576 v1 0)) 577 v1 0)) 578 v1 0)) 579 v1 0)) 580 0 0 ((hset (hset (hset (hset h 576 0 0 (h 576 v1 0)) 577 0 0 ((hset h 576 0 0 (h 576 v1 0)) 577 v1 0)) 578 0 0 ((hset (hset h 576 0 0 (h 576 v1 0)) 577 0 0 ((hset h 576 0 0 (h 576 v1 0)) 577 v1 0)) 578 v1 0)) 579 0 0 ((hset (hset (hset h 576 0 0 (h 576 v1 0)) 577 0 0 ((hset h 576 0 0 (h 576 v1 0)) 577 v1 0)) 578 0 0 ((hset (hset h 576 0 0 (h 576 v1 0)) 577 0 0 ((hset h 576 0 0 (h 576 v1 0)) 577 v1 0)) 578 v1 0)) 579 v1 0)) 580 v1 0)) 581 v1 0)) 582 0 0 ((hset (hset (hset (hset (hset (hset h 576 0 0 (h 576 v1 0)) 577 0 0 ((hset h 576 0 0 (h 576 v1 0)) 577 v1 0)) 578 0 0 ((hset (hset h 576 0 0 (h 576 v1 0)) 577 0 0 ((hset h 576 0 0 (h 576 v1 0)) 577 v1 0)) 578 v1 0)) 579 0 0 ((hset (hset (hset h 576 0 0 (h 576 v1 0)) 577 0 0 ((hset h 576 0 0 (h 576 v1 0)) 577 v1 0)) 578 0 0 ((hset (hset h 576 0 0 (h 576 v1 0)) 577 0 0 ((hset h 576 0 0 (h 576 v1 0)) 577 v1 0)) 578 v1 0)) 579 v1 0)) 580 0 0 ((hset (hset (hset (hset h 576 0 0 (h 576 v1 0)) 577 0 0 ((hset h 576 0 0 (h 576 v1 0)) 577 v1 0)) 578 0 0 ((hset (hset h 576 0 0 (h 576 v1 0)) 577 0 0 ((hset h 576 0 0 (h 576 v1 0)) 577 v1 0)) 578 v1 0)) 579 0 0 ((hset (hset (hset h 576 0 0 (h 576 v1 0)) 577 0 0 ((hset h 576 0 0 (h 576 v1 0)) 577 v1 0)) 578 0 0 ((hset (hset h 576 0 0 (h 576 v1 0)) 577 0 0 ((hset h 576 0 0 (h 576 v1 0)) 577 v1 0)) 578 v1 0)) 579 v1 0)) 580 v1 0)) 581 0 0 ((hset (hset (hset (hset (hset h 576 0 0 (h 576 v1 0)) 577 0 0 ((hset h 576 0 0 (h 576 v1 0)) 577 v1 0)) 578 0 0 ((hset (hset h 576 0 0 (h 576 v1 0)) 577 0 0 ((hset h 576 0 0 (h 576 v1 0)) 577 v1 0)) 578 v1 0)) 579 0 0 ((hset (hset (hset h 576 0 0 (h 576 v1 0)) 577 0 0 ((hset h 576 0 0 (h 576 v1 0)) 577 v1 0)) 578 0 0 ((hset (hset h 576 0 0 (h 576 v1 0)) 577 0 0 ((hset h 576 0 0 (h 576 v1 0)) 577 v1 0)) 578 v1 0)) 579 v1 0)) 580 0 0 ((hset (hset (hset (hset h 576 0 0 (h 576 v1 0)) 577 0 0 ((hset h 576 0 0 (h 576 v1 0)) 577 v1 0)) 578 0 0 ((hset (hset h 576 0 0 (h 576 v1 0)) 577 0 0 ((hset h 576 0 0 (h 576 v1 0)) 577 v1 0)) 578 v1 0)) 579 0 0 ((hset (hset (hset h 576 0 0 (h 576 v1 0)) 577 0 0 ((hset h 576 0 0 (h 576 v1 0)) 577 v1 0)) 578 0 0 ((hset (hset h 576 0 0 (h 576 v1 0)) 577 0 0 ((hset h 576 0 0 (h 576 v1 0)) 577 v1 0)) 578 v1 0)) 579 v1 0)) 580 v1 0)) 581 v1 0)) 582 v1 0)) 583 0 583 v1 0 0 6) 584 0 584 v1 0 0 6) 585 0 585 v1 0 0 6) 586 0 586 v1 0 0 6) 587 0 587 v1 0 0 6) 588 0 588 v1 0 0 6) 589 0 589 v1 0 0 6) 590 0 590 v1 0 0 20) 591 0 591 v1 0 0 20) 592 0 592 v1 0 0 20) 593 0 593 v1 0 0 8) 594 0 594 v1 0 0 6) 595 0 595 v1 0 0 6), hm, o))) K52c_0 rfl ⟨by decide, by decide, by decide, by decide, by decide, by decide, by decide, by decide, by decide, by decide, by decide, by decide, by decide, by decide, by decide, by decide, by decide, by decide, by decide, by decide, by decide, by decide, by decide, by decide, by decide, by decide, by decide, by decide, by decide, by decide, by decide, by decide, by decide, by decide, by decide, by decide, by decide, by decide, by decide, by decide, by decide, by decide, by decide, by decide, by decide, by decide, by decide, by decide, by decide, by decide, by decide, by decide, by decide, by decide, by decide, by decide, by decide, by decide, by decide, by decide, by decide, by decide, by decide, by decide, by decide, trivial⟩ ?_
  obtain rfl := Option.some.inj e
  exact zF_rv (by decide +kernel)
def B155c_0 : List zRow := [(0, .aload_n 0, 1, (0, 0, 0)), (1, .aload_n 1, 1, (0, 0, 0)), (2, .getfield 19, 3, (6, 0, 0)), (5, .putfield 19, 3, (6, 0, 0)), (8, .aload_n 0, 1, (0, 0, 0)), (9, .aload_n 1, 1, (0, 0, 0)), (10, .getfield 23, 3, (6, 1, 0)), (13, .putfield 23, 3, (6, 1, 0)), (16, .aload_n 1, 1, (0, 0, 0)), (17, .getfield 9, 3, (6, 2, 5243362)), (20, .iconst 0, 1, (0, 0, 0)), (21, .aload_n 0, 1, (0, 0, 0)), (22, .getfield 9, 3, (6, 2, 5243362)), (25, .iconst 0, 1, (0, 0, 0)), (26, .aload_n 0, 1, (0, 0, 0)), (27, .getfield 23, 3, (6, 1, 0)), (30, .iconst 3, 1, (0, 0, 0)), (31, .imul, 1, (0, 0, 0)), (32, .invokestatic 26, 3, (5001, 0, 0))]
theorem K155c_0 : zRk 155 B155c_0 = true := by decide +kernel
/-- EchoVale$Sentence.copyFrom(LEchoVale$Sentence;)V -/
def F155c (v1 : Int) (h : zHC) : Option zHC := zG (0 ≤ (wmul ((hset (hset h 384 0 0 (h 384 v1 0)) 385 0 0 ((hset h 384 0 0 (h 384 v1 0)) 385 v1 0)) 385 0 0) 3)) (zG (0 + (wmul ((hset (hset h 384 0 0 (h 384 v1 0)) 385 0 0 ((hset h 384 0 0 (h 384 v1 0)) 385 v1 0)) 385 0 0) 3) ≤ 120) (zG (0 + (wmul ((hset (hset h 384 0 0 (h 384 v1 0)) 385 0 0 ((hset h 384 0 0 (h 384 v1 0)) 385 v1 0)) 385 0 0) 3) ≤ 120) (some (hcpy (hset (hset h 384 0 0 (h 384 v1 0)) 385 0 0 ((hset h 384 0 0 (h 384 v1 0)) 385 v1 0)) 386 0 386 v1 0 0 (wmul ((hset (hset h 384 0 0 (h 384 v1 0)) 385 0 0 ((hset h 384 0 0 (h 384 v1 0)) 385 v1 0)) 385 0 0) 3)))))
set_option maxRecDepth 100000 in
theorem S155c {spec : zRn zH2} {hm : zHM} {o : Int → Int} {d : Nat} (hd : 1 ≤ d) (v1 : Int) (h : zHC) (v : zHC) (e : F155c v1 h = some v) : zRu2 spec d 155 [(16, 0), (16, v1)] (h, hm, o) none (v, hm, o) := by
  refine zF_in (D := 0) (mx := 2) (L := [some (16, 0), some (16, v1)]) (by decide +kernel) rfl rfl hd (fun d hd => ?_)
  unfold F155c at e
  obtain ⟨q1, e⟩ := zG_s e
  obtain ⟨q2, e⟩ := zG_s e
  obtain ⟨q2, e⟩ := zG_s e
  refine zF_blk (m := []) (d := 0) (b := B155c_0) (gs := [0 ≤ 0, 0 ≤ 0, 0 ≤ (wmul ((hset (hset h 384 0 0 (h 384 v1 0)) 385 0 0 ((hset h 384 0 0 (h 384 v1 0)) 385 v1 0)) 385 0 0) 3), 0 + (wmul ((hset (hset h 384 0 0 (h 384 v1 0)) 385 0 0 ((hset h 384 0 0 (h 384 v1 0)) 385 v1 0)) 385 0 0) 3) ≤ 120, 0 + (wmul ((hset (hset h 384 0 0 (h 384 v1 0)) 385 0 0 ((hset h 384 0 0 (h 384 v1 0)) 385 v1 0)) 385 0 0) 3) ≤ 120]) (c' := (35, [some (16, 0), some (16, v1)], [], ((hcpy (hset (hset h 384 0 0 (h 384 v1 0)) 385 0 0 ((hset h 384 0 0 (h 384 v1 0)) 385 v1 0)) 386 0 386 v1 0 0 (wmul ((hset (hset h 384 0 0 (h 384 v1 0)) 385 0 0 ((hset h 384 0 0 (h 384 v1 0)) 385 v1 0)) 385 0 0) 3)), hm, o))) K155c_0 rfl ⟨by decide, by decide, q1, q2, q2, trivial⟩ ?_
  obtain rfl := Option.some.inj e
  exact zF_rv (by decide +kernel)
def B161_0 : List zRow := [(21, .iconst 0, 1, (0, 0, 0))]
theorem K161_0 : zRk 161 B161_0 = true := by decide +kernel
def B161_1 : List zRow := [(23, .aload_n 0, 1, (0, 0, 0)), (24, .getfield 19, 3, (11, 1, 39)), (27, .aload_n 0, 1, (0, 0, 0)), (28, .getfield 72, 3, (11, 9, 6291466)), (31, .iload_n 1, 1, (0, 0, 0)), (32, .aaload, 1, (24, 0, 0)), (33, .getfield 359, 3, (3, 1, 359))]
theorem K161_1 : zRk 161 B161_1 = true := by decide +kernel
def B161_2 : List zRow := [(39, .aload_n 0, 1, (0, 0, 0)), (40, .getfield 56, 3, (11, 6, 7)), (43, .aload_n 0, 1, (0, 0, 0)), (44, .getfield 72, 3, (11, 9, 6291466)), (47, .iload_n 1, 1, (0, 0, 0)), (48, .aaload, 1, (24, 0, 0)), (49, .getfield 360, 3, (3, 2, 1351))]
theorem K161_2 : zRk 161 B161_2 = true := by decide +kernel
def B161_3 : List zRow := [(55, .aload_n 0, 1, (0, 0, 0)), (56, .getfield 42, 3, (11, 4, 27)), (59, .aload_n 0, 1, (0, 0, 0)), (60, .getfield 72, 3, (11, 9, 6291466)), (63, .iload_n 1, 1, (0, 0, 0)), (64, .aaload, 1, (24, 0, 0)), (65, .getfield 361, 3, (3, 3, 347))]
theorem K161_3 : zRk 161 B161_3 = true := by decide +kernel
def B161_4 : List zRow := [(71, .aload_n 0, 1, (0, 0, 0)), (72, .getfield 66, 3, (11, 8, 35))]
theorem K161_4 : zRk 161 B161_4 = true := by decide +kernel
def B161_5 : List zRow := [(78, .iconst 1, 1, (0, 0, 0))]
theorem K161_5 : zRk 161 B161_5 = true := by decide +kernel
def B161_6 : List zRow := [(9, .aload_n 0, 1, (0, 0, 0)), (10, .getfield 72, 3, (11, 9, 6291466)), (13, .iload_n 1, 1, (0, 0, 0)), (14, .aaload, 1, (24, 0, 0)), (15, .getfield 362, 3, (3, 0, 0)), (18, .ifCond .ne 5, 3, (0, 0, 0))]
theorem K161_6 : zRk 161 B161_6 = true := by decide +kernel
def B161_7 : List zRow := [(4, .iload_n 1, 1, (0, 0, 0)), (5, .iconst 2, 1, (0, 0, 0)), (6, .if_icmp .ge 15, 3, (0, 0, 0))]
theorem K161_7 : zRk 161 B161_7 = true := by decide +kernel
def B161_8 : List zRow := [(0, .iload_n 1, 1, (0, 0, 0)), (1, .ifCond .lt 20, 3, (0, 0, 0))]
theorem K161_8 : zRk 161 B161_8 = true := by decide +kernel
/-- EchoVale.restore(I)Z -/
def F161 (v1 : Int) (h : zHC) : Option (Int × zHC) := if v1 < 0 then some (0, h) else if 2 ≤ v1 then some (0, h) else zG (0 ≤ v1 ∧ v1 < 2) (if ¬ (h 192 v1 0) = 0 then zG (0 ≤ v1 ∧ v1 < 2) ((F52c (v1 + 2) h).bind fun r1 => zG (0 ≤ v1 ∧ v1 < 2) ((F71b (v1 + 10) r1).bind fun r2 => zG (0 ≤ v1 ∧ v1 < 2) ((F155c (v1 + 2) r2).bind fun r3 => (F55 r3).bind fun r4 => some (1, r4)))) else some (0, h))
set_option maxRecDepth 100000 in
theorem S161 {spec : zRn zH2} {hm : zHM} {o : Int → Int} {d : Nat} (hd : 3 ≤ d) (v1 : Int) (h : zHC) (v : (Int × zHC)) (e : F161 v1 h = some v) : zRu2 spec d 161 [(21, 0), (0, v1)] (h, hm, o) (some (0, v.1)) (v.2, hm, o) := by
  refine zF_in (D := 2) (mx := 2) (L := [some (21, 0), some (0, v1)]) (by decide +kernel) rfl rfl hd (fun d hd => ?_)
  unfold F161 at e
  rcases zI_s e with ⟨q1, e⟩ | ⟨q1, e⟩
  · refine zF_blk (m := []) (d := 1) (b := B161_8) (gs := [v1 < 0]) (c' := (21, [some (21, 0), some (0, v1)], [], (h, hm, o))) K161_8 rfl ⟨q1, trivial⟩ ?_
    refine zF_blk (m := []) (d := 0) (b := B161_0) (gs := []) (c' := (22, [some (21, 0), some (0, v1)], [(0, 0)], (h, hm, o))) K161_0 rfl trivial ?_
    exact zF_rbC (by decide +kernel) (Or.inl rfl) e
  · refine zF_blk (m := []) (d := 0) (b := B161_8) (gs := [¬ (v1 < 0)]) (c' := (4, [some (21, 0), some (0, v1)], [], (h, hm, o))) K161_8 rfl ⟨q1, trivial⟩ ?_
    rcases zI_s e with ⟨q2, e⟩ | ⟨q2, e⟩
    · refine zF_blk (m := []) (d := 1) (b := B161_7) (gs := [2 ≤ v1]) (c' := (21, [some (21, 0), some (0, v1)], [], (h, hm, o))) K161_7 rfl ⟨q2, trivial⟩ ?_
      refine zF_blk (m := []) (d := 0) (b := B161_0) (gs := []) (c' := (22, [some (21, 0), some (0, v1)], [(0, 0)], (h, hm, o))) K161_0 rfl trivial ?_
      exact zF_rbC (by decide +kernel) (Or.inl rfl) e
    · refine zF_blk (m := []) (d := 0) (b := B161_7) (gs := [¬ (2 ≤ v1)]) (c' := (9, [some (21, 0), some (0, v1)], [], (h, hm, o))) K161_7 rfl ⟨q2, trivial⟩ ?_
      obtain ⟨q3, e⟩ := zG_s e
      rcases zI_s e with ⟨q4, e⟩ | ⟨q4, e⟩
      · refine zF_blk (m := []) (d := 1) (b := B161_6) (gs := [0 ≤ v1 ∧ v1 < 2, ¬ (h 192 v1 0) = 0]) (c' := (23, [some (21, 0), some (0, v1)], [], (h, hm, o))) K161_6 rfl ⟨q3, q4, trivial⟩ ?_
        obtain ⟨q5, e⟩ := zG_s e
        obtain ⟨r1, q6, e⟩ := zB_s e
        refine zF_blk (m := []) (d := 0) (b := B161_1) (gs := [0 ≤ v1 ∧ v1 < 2]) (c' := (36, [some (21, 0), some (0, v1)], [(19, (v1 + 2)), (19, 0)], (h, hm, o))) K161_1 rfl ⟨q5, trivial⟩ ?_
        refine zF_call (k := 52) (cl := 9) (n := 2) (i := .invokevirtual 120) (args := [(19, 0), (19, (v1 + 2))]) (rest := []) (g1 := (r1, hm, o)) (r1 := none) (by decide +kernel) rfl rfl rfl (st' := []) rfl (S52c (Nat.le_trans (by decide) hd) (v1 + 2) h _ q6) ?_
        obtain ⟨q7, e⟩ := zG_s e
        obtain ⟨r2, q8, e⟩ := zB_s e
        refine zF_blk (m := []) (d := 0) (b := B161_2) (gs := [0 ≤ v1 ∧ v1 < 2]) (c' := (52, [some (21, 0), some (0, v1)], [(11, (v1 + 10)), (11, 0)], (r1, hm, o))) K161_2 rfl ⟨q7, trivial⟩ ?_
        refine zF_call (k := 71) (cl := 1) (n := 2) (i := .invokevirtual 266) (args := [(11, 0), (11, (v1 + 10))]) (rest := []) (g1 := (r2, hm, o)) (r1 := none) (by decide +kernel) rfl rfl rfl (st' := []) rfl (S71b (Nat.le_trans (by decide) hd) (v1 + 10) r1 _ q8) ?_
        obtain ⟨q9, e⟩ := zG_s e
        obtain ⟨r3, q10, e⟩ := zB_s e
        refine zF_blk (m := []) (d := 0) (b := B161_3) (gs := [0 ≤ v1 ∧ v1 < 2]) (c' := (68, [some (21, 0), some (0, v1)], [(16, (v1 + 2)), (16, 0)], (r2, hm, o))) K161_3 rfl ⟨q9, trivial⟩ ?_
        refine zF_call (k := 155) (cl := 6) (n := 2) (i := .invokevirtual 348) (args := [(16, 0), (16, (v1 + 2))]) (rest := []) (g1 := (r3, hm, o)) (r1 := none) (by decide +kernel) rfl rfl rfl (st' := []) rfl (S155c (Nat.le_trans (by decide) hd) (v1 + 2) r2 _ q10) ?_
        obtain ⟨r4, q11, e⟩ := zB_s e
        refine zF_blk (m := []) (d := 0) (b := B161_4) (gs := []) (c' := (75, [some (21, 0), some (0, v1)], [(18, 0)], (r3, hm, o))) K161_4 rfl trivial ?_
        refine zF_call (k := 55) (cl := 8) (n := 1) (i := .invokevirtual 130) (args := [(18, 0)]) (rest := []) (g1 := (r4, hm, o)) (r1 := none) (by decide +kernel) rfl rfl rfl (st' := []) rfl (S55 (Nat.le_trans (by decide) hd)  r3 _ q11) ?_
        refine zF_blk (m := []) (d := 0) (b := B161_5) (gs := []) (c' := (79, [some (21, 0), some (0, v1)], [(0, 1)], (r4, hm, o))) K161_5 rfl trivial ?_
        exact zF_rbC (by decide +kernel) (Or.inr rfl) e
      · refine zF_blk (m := []) (d := 0) (b := B161_6) (gs := [0 ≤ v1 ∧ v1 < 2, ¬ (¬ (h 192 v1 0) = 0)]) (c' := (21, [some (21, 0), some (0, v1)], [], (h, hm, o))) K161_6 rfl ⟨q3, q4, trivial⟩ ?_
        refine zF_blk (m := []) (d := 0) (b := B161_0) (gs := []) (c' := (22, [some (21, 0), some (0, v1)], [(0, 0)], (h, hm, o))) K161_0 rfl trivial ?_
        exact zF_rbC (by decide +kernel) (Or.inl rfl) e
def B293_0 : List zRow := [(0, .aload_n 0, 1, (0, 0, 0)), (1, .iconst 0, 1, (0, 0, 0)), (2, .putfield 81, 3, (12, 0, 0)), (5, .iload_n 1, 1, (0, 0, 0)), (6, .iconst 0, 1, (0, 0, 0)), (7, .iconst 1, 1, (0, 0, 0))]
theorem K293_0 : zRk 293 B293_0 = true := by decide +kernel
def B293_1 : List zRow := [(23, .iconst 0, 1, (0, 0, 0))]
theorem K293_1 : zRk 293 B293_1 = true := by decide +kernel
def B293_2 : List zRow := [(25, .iconst 0, 1, (0, 0, 0)), (26, .istore_n 2, 1, (0, 0, 0))]
theorem K293_2 : zRk 293 B293_2 = true := by decide +kernel
def B293_3 : List zRow := [(14, .aload_n 0, 1, (0, 0, 0)), (15, .getfield 38, 3, (12, 22, 5767178)), (18, .iload_n 1, 1, (0, 0, 0)), (19, .baload, 1, (0, 0, 0)), (20, .ifCond .ne 5, 3, (0, 0, 0))]
theorem K293_3 : zRk 293 B293_3 = true := by decide +kernel
def B293_4 : List zRow := [(11, .ifCond .eq 12, 3, (0, 0, 0))]
theorem K293_4 : zRk 293 B293_4 = true := by decide +kernel
def B293_5 : List zRow := [(58, .iconst 0, 1, (0, 0, 0)), (59, .istore_n 2, 1, (0, 0, 0))]
theorem K293_5 : zRk 293 B293_5 = true := by decide +kernel
def B293_6 : List zRow := [(34, .aload_n 0, 1, (0, 0, 0)), (35, .getfield 13, 3, (12, 14, 5251442)), (38, .iload_n 2, 1, (0, 0, 0)), (39, .aload_n 0, 1, (0, 0, 0)), (40, .getfield 19, 3, (12, 16, 5260002)), (43, .sipush 2140, 3, (0, 0, 0)), (46, .iload_n 1, 1, (0, 0, 0))]
theorem K293_6 : zRk 293 B293_6 = true := by decide +kernel
def B293_7 : List zRow := [(47, .imul, 1, (0, 0, 0)), (48, .iload_n 2, 1, (0, 0, 0)), (49, .iadd, 1, (0, 0, 0)), (50, .iaload, 1, (0, 0, 0)), (51, .iastore, 1, (0, 0, 0)), (52, .iinc 2 1, 3, (0, 0, 0)), (55, .goto (-28), 3, (0, 0, 0))]
theorem K293_7 : zRk 293 B293_7 = true := by decide +kernel
def B293_8 : List zRow := [(27, .iload_n 2, 1, (0, 0, 0)), (28, .sipush 2140, 3, (0, 0, 0)), (31, .if_icmp .ge 27, 3, (0, 0, 0))]
theorem K293_8 : zRk 293 B293_8 = true := by decide +kernel
def B293_9 : List zRow := [(89, .aload_n 0, 1, (0, 0, 0)), (90, .iconst 0, 1, (0, 0, 0)), (91, .putfield 232, 3, (12, 23, 0)), (94, .iconst 1, 1, (0, 0, 0))]
theorem K293_9 : zRk 293 B293_9 = true := by decide +kernel
def B293_10 : List zRow := [(66, .aload_n 0, 1, (0, 0, 0)), (67, .getfield 28, 3, (12, 19, 5505074)), (70, .iload_n 2, 1, (0, 0, 0)), (71, .aload_n 0, 1, (0, 0, 0)), (72, .getfield 35, 3, (12, 21, 5505122)), (75, .bipush 12, 2, (0, 0, 0)), (77, .iload_n 1, 1, (0, 0, 0))]
theorem K293_10 : zRk 293 B293_10 = true := by decide +kernel
def B293_11 : List zRow := [(78, .imul, 1, (0, 0, 0)), (79, .iload_n 2, 1, (0, 0, 0)), (80, .iadd, 1, (0, 0, 0)), (81, .laload, 1, (0, 0, 0)), (82, .lastore, 1, (0, 0, 0)), (83, .iinc 2 1, 3, (0, 0, 0)), (86, .goto (-26), 3, (0, 0, 0))]
theorem K293_11 : zRk 293 B293_11 = true := by decide +kernel
def B293_12 : List zRow := [(60, .iload_n 2, 1, (0, 0, 0)), (61, .bipush 12, 2, (0, 0, 0)), (63, .if_icmp .ge 26, 3, (0, 0, 0))]
theorem K293_12 : zRk 293 B293_12 = true := by decide +kernel
def F293_1 : Nat → Int → Int → zHM → Option (Int × zHM)
  | 0, _, _, _ => none
  | n + 1, v1, v2, h => if 12 ≤ v2 then some (1, (mset h 23 0 0)) else zG (0 ≤ (wadd (wmul 12 v1) v2) ∧ (wadd (wmul 12 v1) v2) < 24) (zG (0 ≤ v2 ∧ v2 < 12) ((F293_1 n) v1 (wadd v2 1) (mset h 19 v2 (h 21 (wadd (wmul 12 v1) v2)))))
set_option maxRecDepth 100000 in
theorem T293_1 {spec : zRn zH2} {hc : zHC} {o : Int → Int} {d : Nat} (hd : 1 ≤ d) : ∀ (n : Nat) (v1 : Int) (v2 : Int) (h : zHM) (v : (Int × zHM)), F293_1 n v1 v2 h = some v → zFin 0 (fun _ => 0) (zRu2 spec d) 293 (some (0, v.1)) (hc, v.2, o) (60, [some (22, 0), some (0, v1), some (0, v2)], [], (hc, h, o)) := by
  intro n
  induction n with
  | zero => intro v1 v2 h v e; unfold F293_1 at e; cases e
  | succ n hk0 =>
    intro v1 v2 h v e
    unfold F293_1 at e
    rcases zI_s e with ⟨q1, e⟩ | ⟨q1, e⟩
    · refine zF_blk (m := []) (d := 1) (b := B293_12) (gs := [12 ≤ v2]) (c' := (89, [some (22, 0), some (0, v1), some (0, v2)], [], (hc, h, o))) K293_12 rfl ⟨q1, trivial⟩ ?_
      refine zF_blk (m := []) (d := 0) (b := B293_9) (gs := []) (c' := (95, [some (22, 0), some (0, v1), some (0, v2)], [(0, 1)], (hc, (mset h 23 0 0), o))) K293_9 rfl trivial ?_
      exact zF_rbM (by decide +kernel) (Or.inr rfl) e
    · refine zF_blk (m := []) (d := 0) (b := B293_12) (gs := [¬ (12 ≤ v2)]) (c' := (66, [some (22, 0), some (0, v1), some (0, v2)], [], (hc, h, o))) K293_12 rfl ⟨q1, trivial⟩ ?_
      obtain ⟨q2, e⟩ := zG_s e
      obtain ⟨q3, e⟩ := zG_s e
      refine zF_blk (m := []) (d := 0) (b := B293_10) (gs := []) (c' := (78, [some (22, 0), some (0, v1), some (0, v2)], [(0, v1), (0, 12), (1409312509, 0), (0, v2), (1409300219, 0)], (hc, h, o))) K293_10 rfl trivial ?_
      refine zF_blk (m := []) (d := 0) (b := B293_11) (gs := [0 ≤ (wadd (wmul 12 v1) v2) ∧ (wadd (wmul 12 v1) v2) < 24, 0 ≤ v2 ∧ v2 < 12]) (c' := (60, [some (22, 0), some (0, v1), some (0, (wadd v2 1))], [], (hc, (mset h 19 v2 (h 21 (wadd (wmul 12 v1) v2))), o))) K293_11 rfl ⟨q2, q3, trivial⟩ ?_
      exact hk0 v1 (wadd v2 1) (mset h 19 v2 (h 21 (wadd (wmul 12 v1) v2))) _ e
def F293_0 : Nat → Int → Int → zHM → Option (Int × zHM)
  | 0, _, _, _ => none
  | n + 1, v1, v2, h => if 2140 ≤ v2 then F293_1 zFu v1 0 h else zG (0 ≤ (wadd (wmul 2140 v1) v2) ∧ (wadd (wmul 2140 v1) v2) < 4280) (zG (0 ≤ v2 ∧ v2 < 2140) ((F293_0 n) v1 (wadd v2 1) (mset h 14 v2 (h 16 (wadd (wmul 2140 v1) v2)))))
set_option maxRecDepth 100000 in
theorem T293_0 {spec : zRn zH2} {hc : zHC} {o : Int → Int} {d : Nat} (hd : 1 ≤ d) : ∀ (n : Nat) (v1 : Int) (v2 : Int) (h : zHM) (v : (Int × zHM)), F293_0 n v1 v2 h = some v → zFin 0 (fun _ => 0) (zRu2 spec d) 293 (some (0, v.1)) (hc, v.2, o) (27, [some (22, 0), some (0, v1), some (0, v2)], [], (hc, h, o)) := by
  intro n
  induction n with
  | zero => intro v1 v2 h v e; unfold F293_0 at e; cases e
  | succ n hk0 =>
    intro v1 v2 h v e
    unfold F293_0 at e
    rcases zI_s e with ⟨q1, e⟩ | ⟨q1, e⟩
    · refine zF_blk (m := []) (d := 1) (b := B293_8) (gs := [2140 ≤ v2]) (c' := (58, [some (22, 0), some (0, v1), some (0, v2)], [], (hc, h, o))) K293_8 rfl ⟨q1, trivial⟩ ?_
      refine zF_blk (m := []) (d := 0) (b := B293_5) (gs := []) (c' := (60, [some (22, 0), some (0, v1), some (0, 0)], [], (hc, h, o))) K293_5 rfl trivial ?_
      exact T293_1 hd zFu v1 0 h _ e
    · refine zF_blk (m := []) (d := 0) (b := B293_8) (gs := [¬ (2140 ≤ v2)]) (c' := (34, [some (22, 0), some (0, v1), some (0, v2)], [], (hc, h, o))) K293_8 rfl ⟨q1, trivial⟩ ?_
      obtain ⟨q2, e⟩ := zG_s e
      obtain ⟨q3, e⟩ := zG_s e
      refine zF_blk (m := []) (d := 0) (b := B293_6) (gs := []) (c' := (47, [some (22, 0), some (0, v1), some (0, v2)], [(0, v1), (0, 2140), (1346561784, 0), (0, v2), (1344370422, 0)], (hc, h, o))) K293_6 rfl trivial ?_
      refine zF_blk (m := []) (d := 0) (b := B293_7) (gs := [0 ≤ (wadd (wmul 2140 v1) v2) ∧ (wadd (wmul 2140 v1) v2) < 4280, 0 ≤ v2 ∧ v2 < 2140]) (c' := (27, [some (22, 0), some (0, v1), some (0, (wadd v2 1))], [], (hc, (mset h 14 v2 (h 16 (wadd (wmul 2140 v1) v2))), o))) K293_7 rfl ⟨q2, q3, trivial⟩ ?_
      exact hk0 v1 (wadd v2 1) (mset h 14 v2 (h 16 (wadd (wmul 2140 v1) v2))) _ e
/-- EchoValeModel.restore(I)Z -/
def F293 (v1 : Int) (h : zHM) : Option (Int × zHM) := (F188 v1 0 1).bind fun r1 => if r1 = 0 then some (0, (mset h 0 0 0)) else zG (0 ≤ v1 ∧ v1 < 2) (if ¬ ((mset h 0 0 0) 22 v1) = 0 then F293_0 zFu v1 0 (mset h 0 0 0) else some (0, (mset h 0 0 0)))
set_option maxRecDepth 100000 in
theorem S293 {spec : zRn zH2} {hc : zHC} {o : Int → Int} {d : Nat} (hd : 2 ≤ d) (v1 : Int) (h : zHM) (v : (Int × zHM)) (e : F293 v1 h = some v) : zRu2 spec d 293 [(22, 0), (0, v1)] (hc, h, o) (some (0, v.1)) (hc, v.2, o) := by
  refine zF_in (D := 1) (mx := 3) (L := [some (22, 0), some (0, v1), none]) (by decide +kernel) rfl rfl hd (fun d hd => ?_)
  unfold F293 at e
  obtain ⟨r1, q1, e⟩ := zB_s e
  refine zF_blk (m := []) (d := 0) (b := B293_0) (gs := []) (c' := (8, [some (22, 0), some (0, v1), none], [(0, 1), (0, 0), (0, v1)], (hc, (mset h 0 0 0), o))) K293_0 rfl trivial ?_
  refine zF_call (k := 188) (cl := 12) (n := 3) (i := .invokestatic 151) (args := [(0, v1), (0, 0), (0, 1)]) (rest := []) (g1 := (hc, (mset h 0 0 0), o)) (r1 := some (0, r1)) (by decide +kernel) rfl rfl rfl (st' := [(0, r1)]) rfl (S188 (Nat.le_trans (by decide) hd) v1 0 1 (mset h 0 0 0) _ q1) ?_
  rcases zI_s e with ⟨q2, e⟩ | ⟨q2, e⟩
  · refine zF_blk (m := []) (d := 1) (b := B293_4) (gs := [r1 = 0]) (c' := (23, [some (22, 0), some (0, v1), none], [], (hc, (mset h 0 0 0), o))) K293_4 rfl ⟨q2, trivial⟩ ?_
    refine zF_blk (m := []) (d := 0) (b := B293_1) (gs := []) (c' := (24, [some (22, 0), some (0, v1), none], [(0, 0)], (hc, (mset h 0 0 0), o))) K293_1 rfl trivial ?_
    exact zF_rbM (by decide +kernel) (Or.inl rfl) e
  · refine zF_blk (m := []) (d := 0) (b := B293_4) (gs := [¬ (r1 = 0)]) (c' := (14, [some (22, 0), some (0, v1), none], [], (hc, (mset h 0 0 0), o))) K293_4 rfl ⟨q2, trivial⟩ ?_
    obtain ⟨q3, e⟩ := zG_s e
    rcases zI_s e with ⟨q4, e⟩ | ⟨q4, e⟩
    · refine zF_blk (m := []) (d := 1) (b := B293_3) (gs := [0 ≤ v1 ∧ v1 < 2, ¬ ((mset h 0 0 0) 22 v1) = 0]) (c' := (25, [some (22, 0), some (0, v1), none], [], (hc, (mset h 0 0 0), o))) K293_3 rfl ⟨q3, q4, trivial⟩ ?_
      refine zF_blk (m := []) (d := 0) (b := B293_2) (gs := []) (c' := (27, [some (22, 0), some (0, v1), some (0, 0)], [], (hc, (mset h 0 0 0), o))) K293_2 rfl trivial ?_
      exact T293_0 hd zFu v1 0 (mset h 0 0 0) _ e
    · refine zF_blk (m := []) (d := 0) (b := B293_3) (gs := [0 ≤ v1 ∧ v1 < 2, ¬ (¬ ((mset h 0 0 0) 22 v1) = 0)]) (c' := (23, [some (22, 0), some (0, v1), none], [], (hc, (mset h 0 0 0), o))) K293_3 rfl ⟨q3, q4, trivial⟩ ?_
      refine zF_blk (m := []) (d := 0) (b := B293_1) (gs := []) (c' := (24, [some (22, 0), some (0, v1), none], [(0, 0)], (hc, (mset h 0 0 0), o))) K293_1 rfl trivial ?_
      exact zF_rbM (by decide +kernel) (Or.inl rfl) e
def B162_0 : List zRow := [(52, .aload_n 0, 1, (0, 0, 0)), (53, .getfield 19, 3, (11, 1, 39)), (56, .getfield 365, 3, (9, 0, 0))]
theorem K162_0 : zRk 162 B162_0 = true := by decide +kernel
def B162_1 : List zRow := [(0, .iload_n 1, 1, (0, 0, 0)), (1, .tableswitch 130 0 8 #[51, 59, 67, 75, 83, 91, 99, 107, 122], 51, (0, 0, 0))]
theorem K162_1 : zRk 162 B162_1 = true := by decide +kernel
def B162_2 : List zRow := [(60, .aload_n 0, 1, (0, 0, 0)), (61, .getfield 19, 3, (11, 1, 39)), (64, .getfield 368, 3, (9, 1, 0))]
theorem K162_2 : zRk 162 B162_2 = true := by decide +kernel
def B162_3 : List zRow := [(68, .aload_n 0, 1, (0, 0, 0)), (69, .getfield 19, 3, (11, 1, 39)), (72, .getfield 282, 3, (9, 2, 0))]
theorem K162_3 : zRk 162 B162_3 = true := by decide +kernel
def B162_4 : List zRow := [(76, .aload_n 0, 1, (0, 0, 0)), (77, .getfield 19, 3, (11, 1, 39)), (80, .getfield 311, 3, (9, 3, 0))]
theorem K162_4 : zRk 162 B162_4 = true := by decide +kernel
def B162_5 : List zRow := [(84, .aload_n 0, 1, (0, 0, 0)), (85, .getfield 56, 3, (11, 6, 7)), (88, .getfield 159, 3, (1, 0, 0))]
theorem K162_5 : zRk 162 B162_5 = true := by decide +kernel
def B162_6 : List zRow := [(92, .aload_n 0, 1, (0, 0, 0)), (93, .getfield 56, 3, (11, 6, 7)), (96, .getfield 354, 3, (1, 1, 0))]
theorem K162_6 : zRk 162 B162_6 = true := by decide +kernel
def B162_7 : List zRow := [(100, .aload_n 0, 1, (0, 0, 0)), (101, .getfield 56, 3, (11, 6, 7)), (104, .getfield 208, 3, (1, 2, 0))]
theorem K162_7 : zRk 162 B162_7 = true := by decide +kernel
def B162_8 : List zRow := [(108, .aload_n 0, 1, (0, 0, 0)), (109, .getfield 19, 3, (11, 1, 39)), (112, .aload_n 0, 1, (0, 0, 0)), (113, .getfield 56, 3, (11, 6, 7)), (116, .getfield 159, 3, (1, 0, 0))]
theorem K162_8 : zRk 162 B162_8 = true := by decide +kernel
def B162_9 : List zRow := [(123, .aload_n 0, 1, (0, 0, 0)), (124, .getfield 12, 3, (11, 0, 23)), (127, .getfield 105, 3, (5, 1, 0))]
theorem K162_9 : zRk 162 B162_9 = true := by decide +kernel
def B162_10 : List zRow := [(131, .iconst (-1), 1, (0, 0, 0))]
theorem K162_10 : zRk 162 B162_10 = true := by decide +kernel
/-- EchoVale.count(I)I -/
def F162 (v1 : Int) (h : zHC) : Option Int := if v1 = 0 then some (h 576 0 0) else if v1 = 1 then some (h 577 0 0) else if v1 = 2 then some (h 578 0 0) else if v1 = 3 then some (h 579 0 0) else if v1 = 4 then some (h 64 0 0) else if v1 = 5 then some (h 65 0 0) else if v1 = 6 then some (h 66 0 0) else if v1 = 7 then (F91 (h 64 0 0) h).bind fun r1 => some r1 else if v1 = 8 then some (h 321 0 0) else zG (v1 < 0 ∨ 8 < v1) (some (-1))
set_option maxRecDepth 100000 in
theorem S162 {spec : zRn zH2} {hm : zHM} {o : Int → Int} {d : Nat} (hd : 2 ≤ d) (v1 : Int) (h : zHC) (v : Int) (e : F162 v1 h = some v) : zRu2 spec d 162 [(21, 0), (0, v1)] (h, hm, o) (some (0, v)) (h, hm, o) := by
  refine zF_in (D := 1) (mx := 2) (L := [some (21, 0), some (0, v1)]) (by decide +kernel) rfl rfl hd (fun d hd => ?_)
  unfold F162 at e
  rcases zI_s e with ⟨q1, e⟩ | ⟨q1, e⟩
  · refine zF_blk (m := []) (d := 0) (b := B162_1) (gs := [v1 = 0]) (c' := (52, [some (21, 0), some (0, v1)], [], (h, hm, o))) K162_1 rfl ⟨q1, trivial⟩ ?_
    refine zF_blk (m := []) (d := 0) (b := B162_0) (gs := []) (c' := (59, [some (21, 0), some (0, v1)], [(0, (h 576 0 0))], (h, hm, o))) K162_0 rfl trivial ?_
    obtain rfl := Option.some.inj e
    exact zF_ri (by decide +kernel)
  rcases zI_s e with ⟨q2, e⟩ | ⟨q2, e⟩
  · refine zF_blk (m := []) (d := 1) (b := B162_1) (gs := [v1 = 1]) (c' := (60, [some (21, 0), some (0, v1)], [], (h, hm, o))) K162_1 rfl ⟨q2, trivial⟩ ?_
    refine zF_blk (m := []) (d := 0) (b := B162_2) (gs := []) (c' := (67, [some (21, 0), some (0, v1)], [(0, (h 577 0 0))], (h, hm, o))) K162_2 rfl trivial ?_
    obtain rfl := Option.some.inj e
    exact zF_ri (by decide +kernel)
  rcases zI_s e with ⟨q3, e⟩ | ⟨q3, e⟩
  · refine zF_blk (m := []) (d := 2) (b := B162_1) (gs := [v1 = 2]) (c' := (68, [some (21, 0), some (0, v1)], [], (h, hm, o))) K162_1 rfl ⟨q3, trivial⟩ ?_
    refine zF_blk (m := []) (d := 0) (b := B162_3) (gs := []) (c' := (75, [some (21, 0), some (0, v1)], [(0, (h 578 0 0))], (h, hm, o))) K162_3 rfl trivial ?_
    obtain rfl := Option.some.inj e
    exact zF_ri (by decide +kernel)
  rcases zI_s e with ⟨q4, e⟩ | ⟨q4, e⟩
  · refine zF_blk (m := []) (d := 3) (b := B162_1) (gs := [v1 = 3]) (c' := (76, [some (21, 0), some (0, v1)], [], (h, hm, o))) K162_1 rfl ⟨q4, trivial⟩ ?_
    refine zF_blk (m := []) (d := 0) (b := B162_4) (gs := []) (c' := (83, [some (21, 0), some (0, v1)], [(0, (h 579 0 0))], (h, hm, o))) K162_4 rfl trivial ?_
    obtain rfl := Option.some.inj e
    exact zF_ri (by decide +kernel)
  rcases zI_s e with ⟨q5, e⟩ | ⟨q5, e⟩
  · refine zF_blk (m := []) (d := 4) (b := B162_1) (gs := [v1 = 4]) (c' := (84, [some (21, 0), some (0, v1)], [], (h, hm, o))) K162_1 rfl ⟨q5, trivial⟩ ?_
    refine zF_blk (m := []) (d := 0) (b := B162_5) (gs := []) (c' := (91, [some (21, 0), some (0, v1)], [(0, (h 64 0 0))], (h, hm, o))) K162_5 rfl trivial ?_
    obtain rfl := Option.some.inj e
    exact zF_ri (by decide +kernel)
  rcases zI_s e with ⟨q6, e⟩ | ⟨q6, e⟩
  · refine zF_blk (m := []) (d := 5) (b := B162_1) (gs := [v1 = 5]) (c' := (92, [some (21, 0), some (0, v1)], [], (h, hm, o))) K162_1 rfl ⟨q6, trivial⟩ ?_
    refine zF_blk (m := []) (d := 0) (b := B162_6) (gs := []) (c' := (99, [some (21, 0), some (0, v1)], [(0, (h 65 0 0))], (h, hm, o))) K162_6 rfl trivial ?_
    obtain rfl := Option.some.inj e
    exact zF_ri (by decide +kernel)
  rcases zI_s e with ⟨q7, e⟩ | ⟨q7, e⟩
  · refine zF_blk (m := []) (d := 6) (b := B162_1) (gs := [v1 = 6]) (c' := (100, [some (21, 0), some (0, v1)], [], (h, hm, o))) K162_1 rfl ⟨q7, trivial⟩ ?_
    refine zF_blk (m := []) (d := 0) (b := B162_7) (gs := []) (c' := (107, [some (21, 0), some (0, v1)], [(0, (h 66 0 0))], (h, hm, o))) K162_7 rfl trivial ?_
    obtain rfl := Option.some.inj e
    exact zF_ri (by decide +kernel)
  rcases zI_s e with ⟨q8, e⟩ | ⟨q8, e⟩
  · refine zF_blk (m := []) (d := 7) (b := B162_1) (gs := [v1 = 7]) (c' := (108, [some (21, 0), some (0, v1)], [], (h, hm, o))) K162_1 rfl ⟨q8, trivial⟩ ?_
    obtain ⟨r1, q9, e⟩ := zB_s e
    refine zF_blk (m := []) (d := 0) (b := B162_8) (gs := []) (c' := (119, [some (21, 0), some (0, v1)], [(0, (h 64 0 0)), (19, 0)], (h, hm, o))) K162_8 rfl trivial ?_
    refine zF_call (k := 91) (cl := 9) (n := 2) (i := .invokevirtual 162) (args := [(19, 0), (0, (h 64 0 0))]) (rest := []) (g1 := (h, hm, o)) (r1 := some (0, r1)) (by decide +kernel) rfl rfl rfl (st' := [(0, r1)]) rfl (S91 (Nat.le_trans (by decide) hd) (h 64 0 0) h _ q9) ?_
    obtain rfl := Option.some.inj e
    exact zF_ri (by decide +kernel)
  rcases zI_s e with ⟨q10, e⟩ | ⟨q10, e⟩
  · refine zF_blk (m := []) (d := 8) (b := B162_1) (gs := [v1 = 8]) (c' := (123, [some (21, 0), some (0, v1)], [], (h, hm, o))) K162_1 rfl ⟨q10, trivial⟩ ?_
    refine zF_blk (m := []) (d := 0) (b := B162_9) (gs := []) (c' := (130, [some (21, 0), some (0, v1)], [(0, (h 321 0 0))], (h, hm, o))) K162_9 rfl trivial ?_
    obtain rfl := Option.some.inj e
    exact zF_ri (by decide +kernel)
  obtain ⟨q11, e⟩ := zG_s e
  refine zF_blk (m := []) (d := 9) (b := B162_1) (gs := [v1 < 0 ∨ 8 < v1]) (c' := (131, [some (21, 0), some (0, v1)], [], (h, hm, o))) K162_1 rfl ⟨q11, trivial⟩ ?_
  refine zF_blk (m := []) (d := 0) (b := B162_10) (gs := []) (c' := (132, [some (21, 0), some (0, v1)], [(0, (-1))], (h, hm, o))) K162_10 rfl trivial ?_
  obtain rfl := Option.some.inj e
  exact zF_ri (by decide +kernel)
def B294_0 : List zRow := [(56, .aload_n 0, 1, (0, 0, 0)), (57, .getfield 13, 3, (12, 14, 5251442)), (60, .iconst 0, 1, (0, 0, 0)), (61, .iaload, 1, (0, 0, 0))]
theorem K294_0 : zRk 294 B294_0 = true := by decide +kernel
def B294_1 : List zRow := [(0, .aload_n 0, 1, (0, 0, 0)), (1, .iconst 0, 1, (0, 0, 0)), (2, .putfield 81, 3, (12, 0, 0)), (5, .iload_n 1, 1, (0, 0, 0)), (6, .tableswitch 123 0 8 #[50, 57, 64, 71, 78, 87, 96, 105, 118], 50, (0, 0, 0))]
theorem K294_1 : zRk 294 B294_1 = true := by decide +kernel
def B294_2 : List zRow := [(63, .aload_n 0, 1, (0, 0, 0)), (64, .getfield 13, 3, (12, 14, 5251442)), (67, .iconst 1, 1, (0, 0, 0)), (68, .iaload, 1, (0, 0, 0))]
theorem K294_2 : zRk 294 B294_2 = true := by decide +kernel
def B294_3 : List zRow := [(70, .aload_n 0, 1, (0, 0, 0)), (71, .getfield 13, 3, (12, 14, 5251442)), (74, .iconst 2, 1, (0, 0, 0)), (75, .iaload, 1, (0, 0, 0))]
theorem K294_3 : zRk 294 B294_3 = true := by decide +kernel
def B294_4 : List zRow := [(77, .aload_n 0, 1, (0, 0, 0)), (78, .getfield 13, 3, (12, 14, 5251442)), (81, .iconst 3, 1, (0, 0, 0)), (82, .iaload, 1, (0, 0, 0))]
theorem K294_4 : zRk 294 B294_4 = true := by decide +kernel
def B294_5 : List zRow := [(84, .aload_n 0, 1, (0, 0, 0)), (85, .getfield 13, 3, (12, 14, 5251442)), (88, .sipush 209, 3, (0, 0, 0)), (91, .iaload, 1, (0, 0, 0))]
theorem K294_5 : zRk 294 B294_5 = true := by decide +kernel
def B294_6 : List zRow := [(93, .aload_n 0, 1, (0, 0, 0)), (94, .getfield 13, 3, (12, 14, 5251442)), (97, .sipush 216, 3, (0, 0, 0)), (100, .iaload, 1, (0, 0, 0))]
theorem K294_6 : zRk 294 B294_6 = true := by decide +kernel
def B294_7 : List zRow := [(102, .aload_n 0, 1, (0, 0, 0)), (103, .getfield 13, 3, (12, 14, 5251442)), (106, .sipush 997, 3, (0, 0, 0)), (109, .iaload, 1, (0, 0, 0))]
theorem K294_7 : zRk 294 B294_7 = true := by decide +kernel
def B294_8 : List zRow := [(111, .aload_n 0, 1, (0, 0, 0)), (112, .aload_n 0, 1, (0, 0, 0)), (113, .getfield 13, 3, (12, 14, 5251442)), (116, .sipush 209, 3, (0, 0, 0)), (119, .iaload, 1, (0, 0, 0))]
theorem K294_8 : zRk 294 B294_8 = true := by decide +kernel
def B294_9 : List zRow := [(124, .aload_n 0, 1, (0, 0, 0)), (125, .getfield 85, 3, (12, 2, 0))]
theorem K294_9 : zRk 294 B294_9 = true := by decide +kernel
def B294_10 : List zRow := [(129, .iconst (-1), 1, (0, 0, 0))]
theorem K294_10 : zRk 294 B294_10 = true := by decide +kernel
/-- EchoValeModel.count(I)I -/
def F294 (v1 : Int) (h : zHM) : Option (Int × zHM) := if v1 = 0 then some (((mset h 0 0 0) 14 0), (mset h 0 0 0)) else if v1 = 1 then some (((mset h 0 0 0) 14 1), (mset h 0 0 0)) else if v1 = 2 then some (((mset h 0 0 0) 14 2), (mset h 0 0 0)) else if v1 = 3 then some (((mset h 0 0 0) 14 3), (mset h 0 0 0)) else if v1 = 4 then some (((mset h 0 0 0) 14 209), (mset h 0 0 0)) else if v1 = 5 then some (((mset h 0 0 0) 14 216), (mset h 0 0 0)) else if v1 = 6 then some (((mset h 0 0 0) 14 997), (mset h 0 0 0)) else if v1 = 7 then (F208 ((mset h 0 0 0) 14 209) (mset h 0 0 0)).bind fun r1 => some (r1, (mset h 0 0 0)) else if v1 = 8 then some (((mset h 0 0 0) 2 0), (mset h 0 0 0)) else zG (v1 < 0 ∨ 8 < v1) (some ((-1), (mset h 0 0 0)))
set_option maxRecDepth 100000 in
theorem S294 {spec : zRn zH2} {hc : zHC} {o : Int → Int} {d : Nat} (hd : 2 ≤ d) (v1 : Int) (h : zHM) (v : (Int × zHM)) (e : F294 v1 h = some v) : zRu2 spec d 294 [(22, 0), (0, v1)] (hc, h, o) (some (0, v.1)) (hc, v.2, o) := by
  refine zF_in (D := 1) (mx := 2) (L := [some (22, 0), some (0, v1)]) (by decide +kernel) rfl rfl hd (fun d hd => ?_)
  unfold F294 at e
  rcases zI_s e with ⟨q1, e⟩ | ⟨q1, e⟩
  · refine zF_blk (m := []) (d := 0) (b := B294_1) (gs := [v1 = 0]) (c' := (56, [some (22, 0), some (0, v1)], [], (hc, (mset h 0 0 0), o))) K294_1 rfl ⟨q1, trivial⟩ ?_
    refine zF_blk (m := []) (d := 0) (b := B294_0) (gs := [0 ≤ 0 ∧ 0 < 2140]) (c' := (62, [some (22, 0), some (0, v1)], [(0, ((mset h 0 0 0) 14 0))], (hc, (mset h 0 0 0), o))) K294_0 rfl ⟨by decide, trivial⟩ ?_
    exact zF_riM (by decide +kernel) e
  rcases zI_s e with ⟨q2, e⟩ | ⟨q2, e⟩
  · refine zF_blk (m := []) (d := 1) (b := B294_1) (gs := [v1 = 1]) (c' := (63, [some (22, 0), some (0, v1)], [], (hc, (mset h 0 0 0), o))) K294_1 rfl ⟨q2, trivial⟩ ?_
    refine zF_blk (m := []) (d := 0) (b := B294_2) (gs := [0 ≤ 1 ∧ 1 < 2140]) (c' := (69, [some (22, 0), some (0, v1)], [(0, ((mset h 0 0 0) 14 1))], (hc, (mset h 0 0 0), o))) K294_2 rfl ⟨by decide, trivial⟩ ?_
    exact zF_riM (by decide +kernel) e
  rcases zI_s e with ⟨q3, e⟩ | ⟨q3, e⟩
  · refine zF_blk (m := []) (d := 2) (b := B294_1) (gs := [v1 = 2]) (c' := (70, [some (22, 0), some (0, v1)], [], (hc, (mset h 0 0 0), o))) K294_1 rfl ⟨q3, trivial⟩ ?_
    refine zF_blk (m := []) (d := 0) (b := B294_3) (gs := [0 ≤ 2 ∧ 2 < 2140]) (c' := (76, [some (22, 0), some (0, v1)], [(0, ((mset h 0 0 0) 14 2))], (hc, (mset h 0 0 0), o))) K294_3 rfl ⟨by decide, trivial⟩ ?_
    exact zF_riM (by decide +kernel) e
  rcases zI_s e with ⟨q4, e⟩ | ⟨q4, e⟩
  · refine zF_blk (m := []) (d := 3) (b := B294_1) (gs := [v1 = 3]) (c' := (77, [some (22, 0), some (0, v1)], [], (hc, (mset h 0 0 0), o))) K294_1 rfl ⟨q4, trivial⟩ ?_
    refine zF_blk (m := []) (d := 0) (b := B294_4) (gs := [0 ≤ 3 ∧ 3 < 2140]) (c' := (83, [some (22, 0), some (0, v1)], [(0, ((mset h 0 0 0) 14 3))], (hc, (mset h 0 0 0), o))) K294_4 rfl ⟨by decide, trivial⟩ ?_
    exact zF_riM (by decide +kernel) e
  rcases zI_s e with ⟨q5, e⟩ | ⟨q5, e⟩
  · refine zF_blk (m := []) (d := 4) (b := B294_1) (gs := [v1 = 4]) (c' := (84, [some (22, 0), some (0, v1)], [], (hc, (mset h 0 0 0), o))) K294_1 rfl ⟨q5, trivial⟩ ?_
    refine zF_blk (m := []) (d := 0) (b := B294_5) (gs := [0 ≤ 209 ∧ 209 < 2140]) (c' := (92, [some (22, 0), some (0, v1)], [(0, ((mset h 0 0 0) 14 209))], (hc, (mset h 0 0 0), o))) K294_5 rfl ⟨by decide, trivial⟩ ?_
    exact zF_riM (by decide +kernel) e
  rcases zI_s e with ⟨q6, e⟩ | ⟨q6, e⟩
  · refine zF_blk (m := []) (d := 5) (b := B294_1) (gs := [v1 = 5]) (c' := (93, [some (22, 0), some (0, v1)], [], (hc, (mset h 0 0 0), o))) K294_1 rfl ⟨q6, trivial⟩ ?_
    refine zF_blk (m := []) (d := 0) (b := B294_6) (gs := [0 ≤ 216 ∧ 216 < 2140]) (c' := (101, [some (22, 0), some (0, v1)], [(0, ((mset h 0 0 0) 14 216))], (hc, (mset h 0 0 0), o))) K294_6 rfl ⟨by decide, trivial⟩ ?_
    exact zF_riM (by decide +kernel) e
  rcases zI_s e with ⟨q7, e⟩ | ⟨q7, e⟩
  · refine zF_blk (m := []) (d := 6) (b := B294_1) (gs := [v1 = 6]) (c' := (102, [some (22, 0), some (0, v1)], [], (hc, (mset h 0 0 0), o))) K294_1 rfl ⟨q7, trivial⟩ ?_
    refine zF_blk (m := []) (d := 0) (b := B294_7) (gs := [0 ≤ 997 ∧ 997 < 2140]) (c' := (110, [some (22, 0), some (0, v1)], [(0, ((mset h 0 0 0) 14 997))], (hc, (mset h 0 0 0), o))) K294_7 rfl ⟨by decide, trivial⟩ ?_
    exact zF_riM (by decide +kernel) e
  rcases zI_s e with ⟨q8, e⟩ | ⟨q8, e⟩
  · refine zF_blk (m := []) (d := 7) (b := B294_1) (gs := [v1 = 7]) (c' := (111, [some (22, 0), some (0, v1)], [], (hc, (mset h 0 0 0), o))) K294_1 rfl ⟨q8, trivial⟩ ?_
    obtain ⟨r1, q9, e⟩ := zB_s e
    refine zF_blk (m := []) (d := 0) (b := B294_8) (gs := [0 ≤ 209 ∧ 209 < 2140]) (c' := (120, [some (22, 0), some (0, v1)], [(0, ((mset h 0 0 0) 14 209)), (22, 0)], (hc, (mset h 0 0 0), o))) K294_8 rfl ⟨by decide, trivial⟩ ?_
    refine zF_call (k := 208) (cl := 12) (n := 2) (i := .invokevirtual 244) (args := [(22, 0), (0, ((mset h 0 0 0) 14 209))]) (rest := []) (g1 := (hc, (mset h 0 0 0), o)) (r1 := some (0, r1)) (by decide +kernel) rfl rfl rfl (st' := [(0, r1)]) rfl (S208 (Nat.le_trans (by decide) hd) ((mset h 0 0 0) 14 209) (mset h 0 0 0) _ q9) ?_
    exact zF_riM (by decide +kernel) e
  rcases zI_s e with ⟨q10, e⟩ | ⟨q10, e⟩
  · refine zF_blk (m := []) (d := 8) (b := B294_1) (gs := [v1 = 8]) (c' := (124, [some (22, 0), some (0, v1)], [], (hc, (mset h 0 0 0), o))) K294_1 rfl ⟨q10, trivial⟩ ?_
    refine zF_blk (m := []) (d := 0) (b := B294_9) (gs := []) (c' := (128, [some (22, 0), some (0, v1)], [(0, ((mset h 0 0 0) 2 0))], (hc, (mset h 0 0 0), o))) K294_9 rfl trivial ?_
    exact zF_riM (by decide +kernel) e
  obtain ⟨q11, e⟩ := zG_s e
  refine zF_blk (m := []) (d := 9) (b := B294_1) (gs := [v1 < 0 ∨ 8 < v1]) (c' := (129, [some (22, 0), some (0, v1)], [], (hc, (mset h 0 0 0), o))) K294_1 rfl ⟨q11, trivial⟩ ?_
  refine zF_blk (m := []) (d := 0) (b := B294_10) (gs := []) (c' := (130, [some (22, 0), some (0, v1)], [(0, (-1))], (hc, (mset h 0 0 0), o))) K294_10 rfl trivial ?_
  exact zF_riM (by decide +kernel) e
