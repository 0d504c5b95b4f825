/-! Functions of the methods, by wip/gen/lift.py. -/
def F290r : Nat → Int → Int → zHM → Option Int
  | 0, _, _, _ => none
  | n + 1, v1, v2, h => F290 (F290r n) v1 v2 h
theorem S290r {spec : zRn zH2} {hc : zHC} {o : Int → Int} : ∀ (n : Nat) {d : Nat} (hd : 3 * n ≤ d) (v1 : Int) (v2 : Int) (h : zHM) (v : Int) (e : F290r n v1 v2 h = some v), zRu2 spec d 290 [(22, 0), (0, v1), (0, v2)] (hc, h, o) (some (0, v)) (hc, h, o) := by
  intro n
  induction n with
  | zero => intro d hd v1 v2 h v e; unfold F290r at e; cases e
  | succ n ih =>
    intro d hd v1 v2 h v e
    unfold F290r at e
    exact S290 (DR := 3 * n) (by omega) (F290r n) (fun d hd v1 v2 h v e => ih hd v1 v2 h v e) v1 v2 h v e
def B289_0 : List zRow := [(18, .iconst 0, 1, (0, 0, 0)), (19, .istore_n 2, 1, (0, 0, 0)), (20, .iconst 0, 1, (0, 0, 0)), (21, .istore_n 3, 1, (0, 0, 0))]
theorem K289_0 : zRk 289 B289_0 = true := by decide +kernel
def B289_1 : List zRow := [(16, .iconst (-1), 1, (0, 0, 0))]
theorem K289_1 : zRk 289 B289_1 = true := by decide +kernel
def B289_2 : List zRow := [(0, .aload_n 0, 1, (0, 0, 0)), (1, .iconst 0, 1, (0, 0, 0)), (2, .putfield 81, 3, (12, 0, 0)), (5, .aload_n 0, 1, (0, 0, 0)), (6, .getfield 13, 3, (12, 14, 5251442)), (9, .sipush 1898, 3, (0, 0, 0)), (12, .iaload, 1, (0, 0, 0)), (13, .ifCond .ne 5, 3, (0, 0, 0))]
theorem K289_2 : zRk 289 B289_2 = true := by decide +kernel
def B289_3 : List zRow := [(78, .iconst (-1), 1, (0, 0, 0))]
theorem K289_3 : zRk 289 B289_3 = true := by decide +kernel
def B289_4 : List zRow := [(74, .iload_n 2, 1, (0, 0, 0)), (75, .goto 4, 3, (0, 0, 0))]
theorem K289_4 : zRk 289 B289_4 = true := by decide +kernel
def B289_5 : List zRow := [(69, .iload_n 1, 1, (0, 0, 0)), (70, .iconst (-1), 1, (0, 0, 0)), (71, .if_icmp .ne 7, 3, (0, 0, 0))]
theorem K289_5 : zRk 289 B289_5 = true := by decide +kernel
def B289_6 : List zRow := [(34, .aload_n 0, 1, (0, 0, 0)), (35, .aload_n 0, 1, (0, 0, 0)), (36, .getfield 13, 3, (12, 14, 5251442)), (39, .sipush 1899, 3, (0, 0, 0)), (42, .iaload, 1, (0, 0, 0)), (43, .iload_n 3, 1, (0, 0, 0))]
theorem K289_6 : zRk 289 B289_6 = true := by decide +kernel
def B289_7 : List zRow := [(60, .iinc 2 1, 3, (0, 0, 0))]
theorem K289_7 : zRk 289 B289_7 = true := by decide +kernel
def B289_8 : List zRow := [(58, .iload_n 3, 1, (0, 0, 0))]
theorem K289_8 : zRk 289 B289_8 = true := by decide +kernel
def B289_9 : List zRow := [(53, .iload_n 2, 1, (0, 0, 0)), (54, .iload_n 1, 1, (0, 0, 0)), (55, .if_icmp .ne 5, 3, (0, 0, 0))]
theorem K289_9 : zRk 289 B289_9 = true := by decide +kernel
def B289_10 : List zRow := [(50, .goto 13, 3, (0, 0, 0))]
theorem K289_10 : zRk 289 B289_10 = true := by decide +kernel
def B289_11 : List zRow := [(47, .ifCond .ne 6, 3, (0, 0, 0))]
theorem K289_11 : zRk 289 B289_11 = true := by decide +kernel
def B289_12 : List zRow := [(22, .iload_n 3, 1, (0, 0, 0)), (23, .aload_n 0, 1, (0, 0, 0)), (24, .getfield 13, 3, (12, 14, 5251442)), (27, .sipush 216, 3, (0, 0, 0)), (30, .iaload, 1, (0, 0, 0)), (31, .if_icmp .ge 38, 3, (0, 0, 0))]
theorem K289_12 : zRk 289 B289_12 = true := by decide +kernel
def B289_13 : List zRow := [(63, .iinc 3 1, 3, (0, 0, 0)), (66, .goto (-44), 3, (0, 0, 0))]
theorem K289_13 : zRk 289 B289_13 = true := by decide +kernel
def F289_1 (k0 : Int → Int → Int → zHM → Option (Int × zHM)) (v1 : Int) (v2 : Int) (v3 : Int) (h : zHM) : Option (Int × zHM) := k0 v1 v2 (wadd v3 1) h
set_option maxRecDepth 100000 in
theorem T289_1 {spec : zRn zH2} {hc : zHC} {o : Int → Int} {d : Nat} (hd : 192 ≤ d) (k0 : Int → Int → Int → zHM → Option (Int × zHM)) (hk0 : ∀ (v1 : Int) (v2 : Int) (v3 : Int) (h : zHM) (v : (Int × zHM)), k0 v1 v2 v3 h = some v → zFin 0 (fun _ => 0) (zRu2 spec d) 289 (some (0, v.1)) (hc, v.2, o) (22, [some (22, 0), some (0, v1), some (0, v2), some (0, v3)], [], (hc, h, o))) (v1 : Int) (v2 : Int) (v3 : Int) (h : zHM) (v : (Int × zHM)) (e : F289_1 k0 v1 v2 v3 h = some v) : zFin 0 (fun _ => 0) (zRu2 spec d) 289 (some (0, v.1)) (hc, v.2, o) (63, [some (22, 0), some (0, v1), some (0, v2), some (0, v3)], [], (hc, h, o)) := by
  unfold F289_1 at e
  refine zF_blk (m := []) (d := 0) (b := B289_13) (gs := []) (c' := (22, [some (22, 0), some (0, v1), some (0, v2), some (0, (wadd v3 1))], [], (hc, h, o))) K289_13 rfl trivial ?_
  exact hk0 v1 v2 (wadd v3 1) h _ e
def F289_0 : Nat → Int → Int → Int → zHM → Option (Int × zHM)
  | 0, _, _, _, _ => none
  | n + 1, v1, v2, v3, h => if (h 14 216) ≤ v3 then if ¬ v1 = (-1) then some ((-1), h) else some (v2, h) else (F290r 64 (h 14 1899) v3 h).bind fun r1 => if ¬ r1 = 0 then if ¬ v2 = v1 then F289_1 (F289_0 n) v1 (wadd v2 1) v3 h else some (v3, h) else F289_1 (F289_0 n) v1 v2 v3 h
set_option maxRecDepth 100000 in
theorem T289_0 {spec : zRn zH2} {hc : zHC} {o : Int → Int} {d : Nat} (hd : 192 ≤ d) : ∀ (n : Nat) (v1 : Int) (v2 : Int) (v3 : Int) (h : zHM) (v : (Int × zHM)), F289_0 n v1 v2 v3 h = some v → zFin 0 (fun _ => 0) (zRu2 spec d) 289 (some (0, v.1)) (hc, v.2, o) (22, [some (22, 0), some (0, v1), some (0, v2), some (0, v3)], [], (hc, h, o)) := by
  intro n
  induction n with
  | zero => intro v1 v2 v3 h v e; unfold F289_0 at e; cases e
  | succ n hk0 =>
    intro v1 v2 v3 h v e
    unfold F289_0 at e
    rcases zI_s e with ⟨q1, e⟩ | ⟨q1, e⟩
    · refine zF_blk (m := []) (d := 1) (b := B289_12) (gs := [0 ≤ 216 ∧ 216 < 2140, (h 14 216) ≤ v3]) (c' := (69, [some (22, 0), some (0, v1), some (0, v2), some (0, v3)], [], (hc, h, o))) K289_12 rfl ⟨by decide, q1, trivial⟩ ?_
      rcases zI_s e with ⟨q2, e⟩ | ⟨q2, e⟩
      · refine zF_blk (m := []) (d := 1) (b := B289_5) (gs := [¬ v1 = (-1)]) (c' := (78, [some (22, 0), some (0, v1), some (0, v2), some (0, v3)], [], (hc, h, o))) K289_5 rfl ⟨q2, trivial⟩ ?_
        refine zF_blk (m := []) (d := 0) (b := B289_3) (gs := []) (c' := (79, [some (22, 0), some (0, v1), some (0, v2), some (0, v3)], [(0, (-1))], (hc, h, o))) K289_3 rfl trivial ?_
        exact zF_riM (by decide +kernel) e
      · refine zF_blk (m := []) (d := 0) (b := B289_5) (gs := [¬ (¬ v1 = (-1))]) (c' := (74, [some (22, 0), some (0, v1), some (0, v2), some (0, v3)], [], (hc, h, o))) K289_5 rfl ⟨q2, trivial⟩ ?_
        refine zF_blk (m := []) (d := 0) (b := B289_4) (gs := []) (c' := (79, [some (22, 0), some (0, v1), some (0, v2), some (0, v3)], [(0, v2)], (hc, h, o))) K289_4 rfl trivial ?_
        exact zF_riM (by decide +kernel) e
    · refine zF_blk (m := []) (d := 0) (b := B289_12) (gs := [0 ≤ 216 ∧ 216 < 2140, ¬ ((h 14 216) ≤ v3)]) (c' := (34, [some (22, 0), some (0, v1), some (0, v2), some (0, v3)], [], (hc, h, o))) K289_12 rfl ⟨by decide, q1, trivial⟩ ?_
      obtain ⟨r1, q3, e⟩ := zB_s e
      refine zF_blk (m := []) (d := 0) (b := B289_6) (gs := [0 ≤ 1899 ∧ 1899 < 2140]) (c' := (44, [some (22, 0), some (0, v1), some (0, v2), some (0, v3)], [(0, v3), (0, (h 14 1899)), (22, 0)], (hc, h, o))) K289_6 rfl ⟨by decide, trivial⟩ ?_
      refine zF_call (k := 290) (cl := 12) (n := 3) (i := .invokevirtual 431) (args := [(22, 0), (0, (h 14 1899)), (0, v3)]) (rest := []) (g1 := (hc, h, o)) (r1 := some (0, r1)) (by decide +kernel) rfl rfl rfl (st' := [(0, r1)]) rfl (S290r 64 (Nat.le_trans (by decide) hd) (h 14 1899) v3 h _ q3) ?_
      rcases zI_s e with ⟨q4, e⟩ | ⟨q4, e⟩
      · refine zF_blk (m := []) (d := 1) (b := B289_11) (gs := [¬ r1 = 0]) (c' := (53, [some (22, 0), some (0, v1), some (0, v2), some (0, v3)], [], (hc, h, o))) K289_11 rfl ⟨q4, trivial⟩ ?_
        rcases zI_s e with ⟨q5, e⟩ | ⟨q5, e⟩
        · refine zF_blk (m := []) (d := 1) (b := B289_9) (gs := [¬ v2 = v1]) (c' := (60, [some (22, 0), some (0, v1), some (0, v2), some (0, v3)], [], (hc, h, o))) K289_9 rfl ⟨q5, trivial⟩ ?_
          refine zF_blk (m := []) (d := 0) (b := B289_7) (gs := []) (c' := (63, [some (22, 0), some (0, v1), some (0, (wadd v2 1)), some (0, v3)], [], (hc, h, o))) K289_7 rfl trivial ?_
          exact T289_1 hd (F289_0 n) hk0 v1 (wadd v2 1) v3 h _ e
        · refine zF_blk (m := []) (d := 0) (b := B289_9) (gs := [¬ (¬ v2 = v1)]) (c' := (58, [some (22, 0), some (0, v1), some (0, v2), some (0, v3)], [], (hc, h, o))) K289_9 rfl ⟨q5, trivial⟩ ?_
          refine zF_blk (m := []) (d := 0) (b := B289_8) (gs := []) (c' := (59, [some (22, 0), some (0, v1), some (0, v2), some (0, v3)], [(0, v3)], (hc, h, o))) K289_8 rfl trivial ?_
          exact zF_riM (by decide +kernel) e
      · refine zF_blk (m := []) (d := 0) (b := B289_11) (gs := [¬ (¬ r1 = 0)]) (c' := (50, [some (22, 0), some (0, v1), some (0, v2), some (0, v3)], [], (hc, h, o))) K289_11 rfl ⟨q4, trivial⟩ ?_
        refine zF_blk (m := []) (d := 0) (b := B289_10) (gs := []) (c' := (63, [some (22, 0), some (0, v1), some (0, v2), some (0, v3)], [], (hc, h, o))) K289_10 rfl trivial ?_
        exact T289_1 hd (F289_0 n) hk0 v1 v2 v3 h _ e
/-- EchoValeModel.said(I)I -/
def F289 (v1 : Int) (h : zHM) : Option (Int × zHM) := if ¬ (h 14 1898) = 0 then F289_0 zFu v1 0 0 (mset h 0 0 0) else some ((-1), (mset h 0 0 0))
set_option maxRecDepth 100000 in
theorem S289 {spec : zRn zH2} {hc : zHC} {o : Int → Int} {d : Nat} (hd : 193 ≤ d) (v1 : Int) (h : zHM) (v : (Int × zHM)) (e : F289 v1 h = some v) : zRu2 spec d 289 [(22, 0), (0, v1)] (hc, h, o) (some (0, v.1)) (hc, v.2, o) := by
  refine zF_in (D := 192) (mx := 4) (L := [some (22, 0), some (0, v1), none, none]) (by decide +kernel) rfl rfl hd (fun d hd => ?_)
  unfold F289 at e
  rcases zI_s e with ⟨q1, e⟩ | ⟨q1, e⟩
  · refine zF_blk (m := []) (d := 1) (b := B289_2) (gs := [0 ≤ 1898 ∧ 1898 < 2140, ¬ (h 14 1898) = 0]) (c' := (18, [some (22, 0), some (0, v1), none, none], [], (hc, (mset h 0 0 0), o))) K289_2 rfl ⟨by decide, q1, trivial⟩ ?_
    refine zF_blk (m := []) (d := 0) (b := B289_0) (gs := []) (c' := (22, [some (22, 0), some (0, v1), some (0, 0), some (0, 0)], [], (hc, (mset h 0 0 0), o))) K289_0 rfl trivial ?_
    exact T289_0 hd zFu v1 0 0 (mset h 0 0 0) _ e
  · refine zF_blk (m := []) (d := 0) (b := B289_2) (gs := [0 ≤ 1898 ∧ 1898 < 2140, ¬ (¬ (h 14 1898) = 0)]) (c' := (16, [some (22, 0), some (0, v1), none, none], [], (hc, (mset h 0 0 0), o))) K289_2 rfl ⟨by decide, q1, trivial⟩ ?_
    refine zF_blk (m := []) (d := 0) (b := B289_1) (gs := []) (c' := (17, [some (22, 0), some (0, v1), none, none], [(0, (-1))], (hc, (mset h 0 0 0), o))) K289_1 rfl trivial ?_
    exact zF_riM (by decide +kernel) e
def B160_0 : List zRow := [(9, .iconst 0, 1, (0, 0, 0))]
theorem K160_0 : zRk 160 B160_0 = true := by decide +kernel
def B160_1 : List zRow := [(11, .aload_n 0, 1, (0, 0, 0)), (12, .getfield 72, 3, (11, 9, 6291466)), (15, .iload_n 1, 1, (0, 0, 0)), (16, .aaload, 1, (24, 0, 0)), (17, .getfield 359, 3, (3, 1, 359)), (20, .aload_n 0, 1, (0, 0, 0)), (21, .getfield 19, 3, (11, 1, 39))]
theorem K160_1 : zRk 160 B160_1 = true := by decide +kernel
def B160_2 : List zRow := [(27, .aload_n 0, 1, (0, 0, 0)), (28, .getfield 72, 3, (11, 9, 6291466)), (31, .iload_n 1, 1, (0, 0, 0)), (32, .aaload, 1, (24, 0, 0)), (33, .getfield 360, 3, (3, 2, 1351)), (36, .aload_n 0, 1, (0, 0, 0)), (37, .getfield 56, 3, (11, 6, 7))]
theorem K160_2 : zRk 160 B160_2 = true := by decide +kernel
def B160_3 : List zRow := [(43, .aload_n 0, 1, (0, 0, 0)), (44, .getfield 72, 3, (11, 9, 6291466)), (47, .iload_n 1, 1, (0, 0, 0)), (48, .aaload, 1, (24, 0, 0)), (49, .getfield 361, 3, (3, 3, 347)), (52, .aload_n 0, 1, (0, 0, 0)), (53, .getfield 42, 3, (11, 4, 27))]
theorem K160_3 : zRk 160 B160_3 = true := by decide +kernel
def B160_4 : List zRow := [(59, .aload_n 0, 1, (0, 0, 0)), (60, .getfield 72, 3, (11, 9, 6291466)), (63, .iload_n 1, 1, (0, 0, 0)), (64, .aaload, 1, (24, 0, 0)), (65, .iconst 1, 1, (0, 0, 0)), (66, .putfield 362, 3, (3, 0, 0)), (69, .iconst 1, 1, (0, 0, 0))]
theorem K160_4 : zRk 160 B160_4 = true := by decide +kernel
def B160_5 : List zRow := [(4, .iload_n 1, 1, (0, 0, 0)), (5, .iconst 2, 1, (0, 0, 0)), (6, .if_icmp .lt 5, 3, (0, 0, 0))]
theorem K160_5 : zRk 160 B160_5 = true := by decide +kernel
def B160_6 : List zRow := [(0, .iload_n 1, 1, (0, 0, 0)), (1, .ifCond .lt 8, 3, (0, 0, 0))]
theorem K160_6 : zRk 160 B160_6 = true := by decide +kernel
/-- EchoVale.image(I)Z -/
def F160 (v1 : Int) (h : zHC) : Option (Int × zHC) := if v1 < 0 then some (0, h) else if v1 < 2 then zG (0 ≤ v1 ∧ v1 < 2) ((F52 (v1 + 2) 0 h).bind fun r1 => zG (0 ≤ v1 ∧ v1 < 2) ((F71 (v1 + 10) 0 r1).bind fun r2 => zG (0 ≤ v1 ∧ v1 < 2) ((F155 (v1 + 2) 0 r2).bind fun r3 => zG (0 ≤ v1 ∧ v1 < 2) (some (1, (hset r3 192 v1 0 1)))))) else some (0, h)
set_option maxRecDepth 100000 in
theorem S160 {spec : zRn zH2} {hm : zHM} {o : Int → Int} {d : Nat} (hd : 3 ≤ d) (v1 : Int) (h : zHC) (v : (Int × zHC)) (e : F160 v1 h = some v) : zRu2 spec d 160 [(21, 0), (0, v1)] (h, hm, o) (some (0, v.1)) (v.2, hm, o) := by
  refine zF_in (D := 2) (mx := 2) (L := [some (21, 0), some (0, v1)]) (by decide +kernel) rfl rfl hd (fun d hd => ?_)
  unfold F160 at e
  rcases zI_s e with ⟨q1, e⟩ | ⟨q1, e⟩
  · refine zF_blk (m := []) (d := 1) (b := B160_6) (gs := [v1 < 0]) (c' := (9, [some (21, 0), some (0, v1)], [], (h, hm, o))) K160_6 rfl ⟨q1, trivial⟩ ?_
    refine zF_blk (m := []) (d := 0) (b := B160_0) (gs := []) (c' := (10, [some (21, 0), some (0, v1)], [(0, 0)], (h, hm, o))) K160_0 rfl trivial ?_
    exact zF_rbC (by decide +kernel) (Or.inl rfl) e
  · refine zF_blk (m := []) (d := 0) (b := B160_6) (gs := [¬ (v1 < 0)]) (c' := (4, [some (21, 0), some (0, v1)], [], (h, hm, o))) K160_6 rfl ⟨q1, trivial⟩ ?_
    rcases zI_s e with ⟨q2, e⟩ | ⟨q2, e⟩
    · refine zF_blk (m := []) (d := 1) (b := B160_5) (gs := [v1 < 2]) (c' := (11, [some (21, 0), some (0, v1)], [], (h, hm, o))) K160_5 rfl ⟨q2, trivial⟩ ?_
      obtain ⟨q3, e⟩ := zG_s e
      obtain ⟨r1, q4, e⟩ := zB_s e
      refine zF_blk (m := []) (d := 0) (b := B160_1) (gs := [0 ≤ v1 ∧ v1 < 2]) (c' := (24, [some (21, 0), some (0, v1)], [(19, 0), (19, (v1 + 2))], (h, hm, o))) K160_1 rfl ⟨q3, trivial⟩ ?_
      refine zF_call (k := 52) (cl := 9) (n := 2) (i := .invokevirtual 120) (args := [(19, (v1 + 2)), (19, 0)]) (rest := []) (g1 := (r1, hm, o)) (r1 := none) (by decide +kernel) rfl rfl rfl (st' := []) rfl (S52 (Nat.le_trans (by decide) hd) (v1 + 2) 0 h _ q4) ?_
      obtain ⟨q5, e⟩ := zG_s e
      obtain ⟨r2, q6, e⟩ := zB_s e
      refine zF_blk (m := []) (d := 0) (b := B160_2) (gs := [0 ≤ v1 ∧ v1 < 2]) (c' := (40, [some (21, 0), some (0, v1)], [(11, 0), (11, (v1 + 10))], (r1, hm, o))) K160_2 rfl ⟨q5, trivial⟩ ?_
      refine zF_call (k := 71) (cl := 1) (n := 2) (i := .invokevirtual 266) (args := [(11, (v1 + 10)), (11, 0)]) (rest := []) (g1 := (r2, hm, o)) (r1 := none) (by decide +kernel) rfl rfl rfl (st' := []) rfl (S71 (Nat.le_trans (by decide) hd) (v1 + 10) 0 r1 _ q6) ?_
      obtain ⟨q7, e⟩ := zG_s e
      obtain ⟨r3, q8, e⟩ := zB_s e
      refine zF_blk (m := []) (d := 0) (b := B160_3) (gs := [0 ≤ v1 ∧ v1 < 2]) (c' := (56, [some (21, 0), some (0, v1)], [(16, 0), (16, (v1 + 2))], (r2, hm, o))) K160_3 rfl ⟨q7, trivial⟩ ?_
      refine zF_call (k := 155) (cl := 6) (n := 2) (i := .invokevirtual 348) (args := [(16, (v1 + 2)), (16, 0)]) (rest := []) (g1 := (r3, hm, o)) (r1 := none) (by decide +kernel) rfl rfl rfl (st' := []) rfl (S155 (Nat.le_trans (by decide) hd) (v1 + 2) 0 r2 _ q8) ?_
      obtain ⟨q9, e⟩ := zG_s e
      refine zF_blk (m := []) (d := 0) (b := B160_4) (gs := [0 ≤ v1 ∧ v1 < 2, 1 = 0 ∨ 1 = 1]) (c' := (70, [some (21, 0), some (0, v1)], [(0, 1)], ((hset r3 192 v1 0 1), hm, o))) K160_4 rfl ⟨q9, by decide, trivial⟩ ?_
      exact zF_rbC (by decide +kernel) (Or.inr rfl) e
    · refine zF_blk (m := []) (d := 0) (b := B160_5) (gs := [¬ (v1 < 2)]) (c' := (9, [some (21, 0), some (0, v1)], [], (h, hm, o))) K160_5 rfl ⟨q2, trivial⟩ ?_
      refine zF_blk (m := []) (d := 0) (b := B160_0) (gs := []) (c' := (10, [some (21, 0), some (0, v1)], [(0, 0)], (h, hm, o))) K160_0 rfl trivial ?_
      exact zF_rbC (by decide +kernel) (Or.inl rfl) e
def B292_0 : List zRow := [(0, .aload_n 0, 1, (0, 0, 0)), (1, .iconst 0, 1, (0, 0, 0)), (2, .putfield 81, 3, (12, 0, 0)), (5, .iload_n 1, 1, (0, 0, 0)), (6, .iconst 0, 1, (0, 0, 0)), (7, .iconst 1, 1, (0, 0, 0))]
theorem K292_0 : zRk 292 B292_0 = true := by decide +kernel
def B292_1 : List zRow := [(16, .iconst 0, 1, (0, 0, 0)), (17, .istore_n 2, 1, (0, 0, 0))]
theorem K292_1 : zRk 292 B292_1 = true := by decide +kernel
def B292_2 : List zRow := [(14, .iconst 0, 1, (0, 0, 0))]
theorem K292_2 : zRk 292 B292_2 = true := by decide +kernel
def B292_3 : List zRow := [(11, .ifCond .ne 5, 3, (0, 0, 0))]
theorem K292_3 : zRk 292 B292_3 = true := by decide +kernel
def B292_4 : List zRow := [(49, .iconst 0, 1, (0, 0, 0)), (50, .istore_n 2, 1, (0, 0, 0))]
theorem K292_4 : zRk 292 B292_4 = true := by decide +kernel
def B292_5 : List zRow := [(25, .aload_n 0, 1, (0, 0, 0)), (26, .getfield 19, 3, (12, 16, 5260002)), (29, .sipush 2140, 3, (0, 0, 0)), (32, .iload_n 1, 1, (0, 0, 0))]
theorem K292_5 : zRk 292 B292_5 = true := by decide +kernel
def B292_6 : List zRow := [(33, .imul, 1, (0, 0, 0)), (34, .iload_n 2, 1, (0, 0, 0)), (35, .iadd, 1, (0, 0, 0)), (36, .aload_n 0, 1, (0, 0, 0)), (37, .getfield 13, 3, (12, 14, 5251442)), (40, .iload_n 2, 1, (0, 0, 0)), (41, .iaload, 1, (0, 0, 0)), (42, .iastore, 1, (0, 0, 0)), (43, .iinc 2 1, 3, (0, 0, 0)), (46, .goto (-28), 3, (0, 0, 0))]
theorem K292_6 : zRk 292 B292_6 = true := by decide +kernel
def B292_7 : List zRow := [(18, .iload_n 2, 1, (0, 0, 0)), (19, .sipush 2140, 3, (0, 0, 0)), (22, .if_icmp .ge 27, 3, (0, 0, 0))]
theorem K292_7 : zRk 292 B292_7 = true := by decide +kernel
def B292_8 : List zRow := [(80, .aload_n 0, 1, (0, 0, 0)), (81, .getfield 38, 3, (12, 22, 5767178)), (84, .iload_n 1, 1, (0, 0, 0)), (85, .iconst 1, 1, (0, 0, 0)), (86, .bastore, 1, (0, 0, 0)), (87, .iconst 1, 1, (0, 0, 0))]
theorem K292_8 : zRk 292 B292_8 = true := by decide +kernel
def B292_9 : List zRow := [(57, .aload_n 0, 1, (0, 0, 0)), (58, .getfield 35, 3, (12, 21, 5505122)), (61, .bipush 12, 2, (0, 0, 0)), (63, .iload_n 1, 1, (0, 0, 0))]
theorem K292_9 : zRk 292 B292_9 = true := by decide +kernel
def B292_10 : List zRow := [(64, .imul, 1, (0, 0, 0)), (65, .iload_n 2, 1, (0, 0, 0)), (66, .iadd, 1, (0, 0, 0)), (67, .aload_n 0, 1, (0, 0, 0)), (68, .getfield 28, 3, (12, 19, 5505074)), (71, .iload_n 2, 1, (0, 0, 0)), (72, .laload, 1, (0, 0, 0)), (73, .lastore, 1, (0, 0, 0)), (74, .iinc 2 1, 3, (0, 0, 0)), (77, .goto (-26), 3, (0, 0, 0))]
theorem K292_10 : zRk 292 B292_10 = true := by decide +kernel
def B292_11 : List zRow := [(51, .iload_n 2, 1, (0, 0, 0)), (52, .bipush 12, 2, (0, 0, 0)), (54, .if_icmp .ge 26, 3, (0, 0, 0))]
theorem K292_11 : zRk 292 B292_11 = true := by decide +kernel
def F292_1 : Nat → Int → Int → zHM → Option (Int × zHM)
  | 0, _, _, _ => none
  | n + 1, v1, v2, h => if 12 ≤ v2 then zG (0 ≤ v1 ∧ v1 < 2) (some (1, (mset h 22 v1 1))) else zG (0 ≤ v2 ∧ v2 < 12) (zG (0 ≤ (wadd (wmul 12 v1) v2) ∧ (wadd (wmul 12 v1) v2) < 24) ((F292_1 n) v1 (wadd v2 1) (mset h 21 (wadd (wmul 12 v1) v2) (h 19 v2))))
set_option maxRecDepth 100000 in
theorem T292_1 {spec : zRn zH2} {hc : zHC} {o : Int → Int} {d : Nat} (hd : 1 ≤ d) : ∀ (n : Nat) (v1 : Int) (v2 : Int) (h : zHM) (v : (Int × zHM)), F292_1 n v1 v2 h = some v → zFin 0 (fun _ => 0) (zRu2 spec d) 292 (some (0, v.1)) (hc, v.2, o) (51, [some (22, 0), some (0, v1), some (0, v2)], [], (hc, h, o)) := by
  intro n
  induction n with
  | zero => intro v1 v2 h v e; unfold F292_1 at e; cases e
  | succ n hk0 =>
    intro v1 v2 h v e
    unfold F292_1 at e
    rcases zI_s e with ⟨q1, e⟩ | ⟨q1, e⟩
    · refine zF_blk (m := []) (d := 1) (b := B292_11) (gs := [12 ≤ v2]) (c' := (80, [some (22, 0), some (0, v1), some (0, v2)], [], (hc, h, o))) K292_11 rfl ⟨q1, trivial⟩ ?_
      obtain ⟨q2, e⟩ := zG_s e
      refine zF_blk (m := []) (d := 0) (b := B292_8) (gs := [0 ≤ v1 ∧ v1 < 2, 1 = 0 ∨ 1 = 1]) (c' := (88, [some (22, 0), some (0, v1), some (0, v2)], [(0, 1)], (hc, (mset h 22 v1 1), o))) K292_8 rfl ⟨q2, by decide, trivial⟩ ?_
      exact zF_rbM (by decide +kernel) (Or.inr rfl) e
    · refine zF_blk (m := []) (d := 0) (b := B292_11) (gs := [¬ (12 ≤ v2)]) (c' := (57, [some (22, 0), some (0, v1), some (0, v2)], [], (hc, h, o))) K292_11 rfl ⟨q1, trivial⟩ ?_
      obtain ⟨q3, e⟩ := zG_s e
      obtain ⟨q4, e⟩ := zG_s e
      refine zF_blk (m := []) (d := 0) (b := B292_9) (gs := []) (c' := (64, [some (22, 0), some (0, v1), some (0, v2)], [(0, v1), (0, 12), (1409312509, 0)], (hc, h, o))) K292_9 rfl trivial ?_
      refine zF_blk (m := []) (d := 0) (b := B292_10) (gs := [0 ≤ v2 ∧ v2 < 12, 0 ≤ (wadd (wmul 12 v1) v2) ∧ (wadd (wmul 12 v1) v2) < 24]) (c' := (51, [some (22, 0), some (0, v1), some (0, (wadd v2 1))], [], (hc, (mset h 21 (wadd (wmul 12 v1) v2) (h 19 v2)), o))) K292_10 rfl ⟨q3, q4, trivial⟩ ?_
      exact hk0 v1 (wadd v2 1) (mset h 21 (wadd (wmul 12 v1) v2) (h 19 v2)) _ e
def F292_0 : Nat → Int → Int → zHM → Option (Int × zHM)
  | 0, _, _, _ => none
  | n + 1, v1, v2, h => if 2140 ≤ v2 then F292_1 zFu v1 0 h else zG (0 ≤ v2 ∧ v2 < 2140) (zG (0 ≤ (wadd (wmul 2140 v1) v2) ∧ (wadd (wmul 2140 v1) v2) < 4280) ((F292_0 n) v1 (wadd v2 1) (mset h 16 (wadd (wmul 2140 v1) v2) (h 14 v2))))
set_option maxRecDepth 100000 in
theorem T292_0 {spec : zRn zH2} {hc : zHC} {o : Int → Int} {d : Nat} (hd : 1 ≤ d) : ∀ (n : Nat) (v1 : Int) (v2 : Int) (h : zHM) (v : (Int × zHM)), F292_0 n v1 v2 h = some v → zFin 0 (fun _ => 0) (zRu2 spec d) 292 (some (0, v.1)) (hc, v.2, o) (18, [some (22, 0), some (0, v1), some (0, v2)], [], (hc, h, o)) := by
  intro n
  induction n with
  | zero => intro v1 v2 h v e; unfold F292_0 at e; cases e
  | succ n hk0 =>
    intro v1 v2 h v e
    unfold F292_0 at e
    rcases zI_s e with ⟨q1, e⟩ | ⟨q1, e⟩
    · refine zF_blk (m := []) (d := 1) (b := B292_7) (gs := [2140 ≤ v2]) (c' := (49, [some (22, 0), some (0, v1), some (0, v2)], [], (hc, h, o))) K292_7 rfl ⟨q1, trivial⟩ ?_
      refine zF_blk (m := []) (d := 0) (b := B292_4) (gs := []) (c' := (51, [some (22, 0), some (0, v1), some (0, 0)], [], (hc, h, o))) K292_4 rfl trivial ?_
      exact T292_1 hd zFu v1 0 h _ e
    · refine zF_blk (m := []) (d := 0) (b := B292_7) (gs := [¬ (2140 ≤ v2)]) (c' := (25, [some (22, 0), some (0, v1), some (0, v2)], [], (hc, h, o))) K292_7 rfl ⟨q1, trivial⟩ ?_
      obtain ⟨q2, e⟩ := zG_s e
      obtain ⟨q3, e⟩ := zG_s e
      refine zF_blk (m := []) (d := 0) (b := B292_5) (gs := []) (c' := (33, [some (22, 0), some (0, v1), some (0, v2)], [(0, v1), (0, 2140), (1346561784, 0)], (hc, h, o))) K292_5 rfl trivial ?_
      refine zF_blk (m := []) (d := 0) (b := B292_6) (gs := [0 ≤ v2 ∧ v2 < 2140, 0 ≤ (wadd (wmul 2140 v1) v2) ∧ (wadd (wmul 2140 v1) v2) < 4280]) (c' := (18, [some (22, 0), some (0, v1), some (0, (wadd v2 1))], [], (hc, (mset h 16 (wadd (wmul 2140 v1) v2) (h 14 v2)), o))) K292_6 rfl ⟨q2, q3, trivial⟩ ?_
      exact hk0 v1 (wadd v2 1) (mset h 16 (wadd (wmul 2140 v1) v2) (h 14 v2)) _ e
/-- EchoValeModel.image(I)Z -/
def F292 (v1 : Int) (h : zHM) : Option (Int × zHM) := (F188 v1 0 1).bind fun r1 => if ¬ r1 = 0 then F292_0 zFu v1 0 (mset h 0 0 0) else some (0, (mset h 0 0 0))
set_option maxRecDepth 100000 in
theorem S292 {spec : zRn zH2} {hc : zHC} {o : Int → Int} {d : Nat} (hd : 2 ≤ d) (v1 : Int) (h : zHM) (v : (Int × zHM)) (e : F292 v1 h = some v) : zRu2 spec d 292 [(22, 0), (0, v1)] (hc, h, o) (some (0, v.1)) (hc, v.2, o) := by
  refine zF_in (D := 1) (mx := 3) (L := [some (22, 0), some (0, v1), none]) (by decide +kernel) rfl rfl hd (fun d hd => ?_)
  unfold F292 at e
  obtain ⟨r1, q1, e⟩ := zB_s e
  refine zF_blk (m := []) (d := 0) (b := B292_0) (gs := []) (c' := (8, [some (22, 0), some (0, v1), none], [(0, 1), (0, 0), (0, v1)], (hc, (mset h 0 0 0), o))) K292_0 rfl trivial ?_
  refine zF_call (k := 188) (cl := 12) (n := 3) (i := .invokestatic 151) (args := [(0, v1), (0, 0), (0, 1)]) (rest := []) (g1 := (hc, (mset h 0 0 0), o)) (r1 := some (0, r1)) (by decide +kernel) rfl rfl rfl (st' := [(0, r1)]) rfl (S188 (Nat.le_trans (by decide) hd) v1 0 1 (mset h 0 0 0) _ q1) ?_
  rcases zI_s e with ⟨q2, e⟩ | ⟨q2, e⟩
  · refine zF_blk (m := []) (d := 1) (b := B292_3) (gs := [¬ r1 = 0]) (c' := (16, [some (22, 0), some (0, v1), none], [], (hc, (mset h 0 0 0), o))) K292_3 rfl ⟨q2, trivial⟩ ?_
    refine zF_blk (m := []) (d := 0) (b := B292_1) (gs := []) (c' := (18, [some (22, 0), some (0, v1), some (0, 0)], [], (hc, (mset h 0 0 0), o))) K292_1 rfl trivial ?_
    exact T292_0 hd zFu v1 0 (mset h 0 0 0) _ e
  · refine zF_blk (m := []) (d := 0) (b := B292_3) (gs := [¬ (¬ r1 = 0)]) (c' := (14, [some (22, 0), some (0, v1), none], [], (hc, (mset h 0 0 0), o))) K292_3 rfl ⟨q2, trivial⟩ ?_
    refine zF_blk (m := []) (d := 0) (b := B292_2) (gs := []) (c' := (15, [some (22, 0), some (0, v1), none], [(0, 0)], (hc, (mset h 0 0 0), o))) K292_2 rfl trivial ?_
    exact zF_rbM (by decide +kernel) (Or.inl rfl) e
def B161_0 : List zRow := [(21, .iconst 0, 1, (0, 0, 0))]
theorem K161_0 : zRk 161 B161_0 = true := by decide +kernel
def B161_1 : List zRow := [(23, .aload_n 0, 1, (0, 0, 0)), (24, .getfield 19, 3, (11, 1, 39)), (27, .aload_n 0, 1, (0, 0, 0)), (28, .getfield 72, 3, (11, 9, 6291466)), (31, .iload_n 1, 1, (0, 0, 0)), (32, .aaload, 1, (24, 0, 0)), (33, .getfield 359, 3, (3, 1, 359))]
theorem K161_1 : zRk 161 B161_1 = true := by decide +kernel
def B161_2 : List zRow := [(39, .aload_n 0, 1, (0, 0, 0)), (40, .getfield 56, 3, (11, 6, 7)), (43, .aload_n 0, 1, (0, 0, 0)), (44, .getfield 72, 3, (11, 9, 6291466)), (47, .iload_n 1, 1, (0, 0, 0)), (48, .aaload, 1, (24, 0, 0)), (49, .getfield 360, 3, (3, 2, 1351))]
theorem K161_2 : zRk 161 B161_2 = true := by decide +kernel
def B161_3 : List zRow := [(55, .aload_n 0, 1, (0, 0, 0)), (56, .getfield 42, 3, (11, 4, 27)), (59, .aload_n 0, 1, (0, 0, 0)), (60, .getfield 72, 3, (11, 9, 6291466)), (63, .iload_n 1, 1, (0, 0, 0)), (64, .aaload, 1, (24, 0, 0)), (65, .getfield 361, 3, (3, 3, 347))]
theorem K161_3 : zRk 161 B161_3 = true := by decide +kernel
def B161_4 : List zRow := [(71, .aload_n 0, 1, (0, 0, 0)), (72, .getfield 66, 3, (11, 8, 35))]
theorem K161_4 : zRk 161 B161_4 = true := by decide +kernel
def B161_5 : List zRow := [(78, .iconst 1, 1, (0, 0, 0))]
theorem K161_5 : zRk 161 B161_5 = true := by decide +kernel
def B161_6 : List zRow := [(9, .aload_n 0, 1, (0, 0, 0)), (10, .getfield 72, 3, (11, 9, 6291466)), (13, .iload_n 1, 1, (0, 0, 0)), (14, .aaload, 1, (24, 0, 0)), (15, .getfield 362, 3, (3, 0, 0)), (18, .ifCond .ne 5, 3, (0, 0, 0))]
theorem K161_6 : zRk 161 B161_6 = true := by decide +kernel
def B161_7 : List zRow := [(4, .iload_n 1, 1, (0, 0, 0)), (5, .iconst 2, 1, (0, 0, 0)), (6, .if_icmp .ge 15, 3, (0, 0, 0))]
theorem K161_7 : zRk 161 B161_7 = true := by decide +kernel
def B161_8 : List zRow := [(0, .iload_n 1, 1, (0, 0, 0)), (1, .ifCond .lt 20, 3, (0, 0, 0))]
theorem K161_8 : zRk 161 B161_8 = true := by decide +kernel
/-- EchoVale.restore(I)Z -/
def F161 (v1 : Int) (h : zHC) : Option (Int × zHC) := if v1 < 0 then some (0, h) else if 2 ≤ v1 then some (0, h) else zG (0 ≤ v1 ∧ v1 < 2) (if ¬ (h 192 v1 0) = 0 then zG (0 ≤ v1 ∧ v1 < 2) ((F52 0 (v1 + 2) h).bind fun r1 => zG (0 ≤ v1 ∧ v1 < 2) ((F71 0 (v1 + 10) r1).bind fun r2 => zG (0 ≤ v1 ∧ v1 < 2) ((F155 0 (v1 + 2) r2).bind fun r3 => (F55 r3).bind fun r4 => some (1, r4)))) else some (0, h))
set_option maxRecDepth 100000 in
theorem S161 {spec : zRn zH2} {hm : zHM} {o : Int → Int} {d : Nat} (hd : 3 ≤ d) (v1 : Int) (h : zHC) (v : (Int × zHC)) (e : F161 v1 h = some v) : zRu2 spec d 161 [(21, 0), (0, v1)] (h, hm, o) (some (0, v.1)) (v.2, hm, o) := by
  refine zF_in (D := 2) (mx := 2) (L := [some (21, 0), some (0, v1)]) (by decide +kernel) rfl rfl hd (fun d hd => ?_)
  unfold F161 at e
  rcases zI_s e with ⟨q1, e⟩ | ⟨q1, e⟩
  · refine zF_blk (m := []) (d := 1) (b := B161_8) (gs := [v1 < 0]) (c' := (21, [some (21, 0), some (0, v1)], [], (h, hm, o))) K161_8 rfl ⟨q1, trivial⟩ ?_
    refine zF_blk (m := []) (d := 0) (b := B161_0) (gs := []) (c' := (22, [some (21, 0), some (0, v1)], [(0, 0)], (h, hm, o))) K161_0 rfl trivial ?_
    exact zF_rbC (by decide +kernel) (Or.inl rfl) e
  · refine zF_blk (m := []) (d := 0) (b := B161_8) (gs := [¬ (v1 < 0)]) (c' := (4, [some (21, 0), some (0, v1)], [], (h, hm, o))) K161_8 rfl ⟨q1, trivial⟩ ?_
    rcases zI_s e with ⟨q2, e⟩ | ⟨q2, e⟩
    · refine zF_blk (m := []) (d := 1) (b := B161_7) (gs := [2 ≤ v1]) (c' := (21, [some (21, 0), some (0, v1)], [], (h, hm, o))) K161_7 rfl ⟨q2, trivial⟩ ?_
      refine zF_blk (m := []) (d := 0) (b := B161_0) (gs := []) (c' := (22, [some (21, 0), some (0, v1)], [(0, 0)], (h, hm, o))) K161_0 rfl trivial ?_
      exact zF_rbC (by decide +kernel) (Or.inl rfl) e
    · refine zF_blk (m := []) (d := 0) (b := B161_7) (gs := [¬ (2 ≤ v1)]) (c' := (9, [some (21, 0), some (0, v1)], [], (h, hm, o))) K161_7 rfl ⟨q2, trivial⟩ ?_
      obtain ⟨q3, e⟩ := zG_s e
      rcases zI_s e with ⟨q4, e⟩ | ⟨q4, e⟩
      · refine zF_blk (m := []) (d := 1) (b := B161_6) (gs := [0 ≤ v1 ∧ v1 < 2, ¬ (h 192 v1 0) = 0]) (c' := (23, [some (21, 0), some (0, v1)], [], (h, hm, o))) K161_6 rfl ⟨q3, q4, trivial⟩ ?_
        obtain ⟨q5, e⟩ := zG_s e
        obtain ⟨r1, q6, e⟩ := zB_s e
        refine zF_blk (m := []) (d := 0) (b := B161_1) (gs := [0 ≤ v1 ∧ v1 < 2]) (c' := (36, [some (21, 0), some (0, v1)], [(19, (v1 + 2)), (19, 0)], (h, hm, o))) K161_1 rfl ⟨q5, trivial⟩ ?_
        refine zF_call (k := 52) (cl := 9) (n := 2) (i := .invokevirtual 120) (args := [(19, 0), (19, (v1 + 2))]) (rest := []) (g1 := (r1, hm, o)) (r1 := none) (by decide +kernel) rfl rfl rfl (st' := []) rfl (S52 (Nat.le_trans (by decide) hd) 0 (v1 + 2) h _ q6) ?_
        obtain ⟨q7, e⟩ := zG_s e
        obtain ⟨r2, q8, e⟩ := zB_s e
        refine zF_blk (m := []) (d := 0) (b := B161_2) (gs := [0 ≤ v1 ∧ v1 < 2]) (c' := (52, [some (21, 0), some (0, v1)], [(11, (v1 + 10)), (11, 0)], (r1, hm, o))) K161_2 rfl ⟨q7, trivial⟩ ?_
        refine zF_call (k := 71) (cl := 1) (n := 2) (i := .invokevirtual 266) (args := [(11, 0), (11, (v1 + 10))]) (rest := []) (g1 := (r2, hm, o)) (r1 := none) (by decide +kernel) rfl rfl rfl (st' := []) rfl (S71 (Nat.le_trans (by decide) hd) 0 (v1 + 10) r1 _ q8) ?_
        obtain ⟨q9, e⟩ := zG_s e
        obtain ⟨r3, q10, e⟩ := zB_s e
        refine zF_blk (m := []) (d := 0) (b := B161_3) (gs := [0 ≤ v1 ∧ v1 < 2]) (c' := (68, [some (21, 0), some (0, v1)], [(16, (v1 + 2)), (16, 0)], (r2, hm, o))) K161_3 rfl ⟨q9, trivial⟩ ?_
        refine zF_call (k := 155) (cl := 6) (n := 2) (i := .invokevirtual 348) (args := [(16, 0), (16, (v1 + 2))]) (rest := []) (g1 := (r3, hm, o)) (r1 := none) (by decide +kernel) rfl rfl rfl (st' := []) rfl (S155 (Nat.le_trans (by decide) hd) 0 (v1 + 2) r2 _ q10) ?_
        obtain ⟨r4, q11, e⟩ := zB_s e
        refine zF_blk (m := []) (d := 0) (b := B161_4) (gs := []) (c' := (75, [some (21, 0), some (0, v1)], [(18, 0)], (r3, hm, o))) K161_4 rfl trivial ?_
        refine zF_call (k := 55) (cl := 8) (n := 1) (i := .invokevirtual 130) (args := [(18, 0)]) (rest := []) (g1 := (r4, hm, o)) (r1 := none) (by decide +kernel) rfl rfl rfl (st' := []) rfl (S55 (Nat.le_trans (by decide) hd)  r3 _ q11) ?_
        refine zF_blk (m := []) (d := 0) (b := B161_5) (gs := []) (c' := (79, [some (21, 0), some (0, v1)], [(0, 1)], (r4, hm, o))) K161_5 rfl trivial ?_
        exact zF_rbC (by decide +kernel) (Or.inr rfl) e
      · refine zF_blk (m := []) (d := 0) (b := B161_6) (gs := [0 ≤ v1 ∧ v1 < 2, ¬ (¬ (h 192 v1 0) = 0)]) (c' := (21, [some (21, 0), some (0, v1)], [], (h, hm, o))) K161_6 rfl ⟨q3, q4, trivial⟩ ?_
        refine zF_blk (m := []) (d := 0) (b := B161_0) (gs := []) (c' := (22, [some (21, 0), some (0, v1)], [(0, 0)], (h, hm, o))) K161_0 rfl trivial ?_
        exact zF_rbC (by decide +kernel) (Or.inl rfl) e
