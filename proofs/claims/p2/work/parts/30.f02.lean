/-! Functions of the methods, by wip/gen/lift.py. -/
def B25_0 : List zRow := [(16, .iconst 0, 1, (0, 0, 0))]
theorem K25_0 : zRk 25 B25_0 = true := by decide +kernel
def B25_1 : List zRow := [(12, .iconst 1, 1, (0, 0, 0)), (13, .goto 4, 3, (0, 0, 0))]
theorem K25_1 : zRk 25 B25_1 = true := by decide +kernel
def B25_2 : List zRow := [(6, .iload_n 0, 1, (0, 0, 0)), (7, .bipush 57, 2, (0, 0, 0)), (9, .if_icmp .gt 7, 3, (0, 0, 0))]
theorem K25_2 : zRk 25 B25_2 = true := by decide +kernel
def B25_3 : List zRow := [(0, .iload_n 0, 1, (0, 0, 0)), (1, .bipush 48, 2, (0, 0, 0)), (3, .if_icmp .lt 13, 3, (0, 0, 0))]
theorem K25_3 : zRk 25 B25_3 = true := by decide +kernel
/-- EchoVale$Reader.isDigit(I)Z -/
def F25 (v0 : Int) : Option Int := if v0 < 48 then some 0 else if 57 < v0 then some 0 else some 1
set_option maxRecDepth 100000 in
theorem S25 {spec : zRn zH2} {hm : zHM} {o : Int → Int} {d : Nat} (hd : 1 ≤ d) (v0 : Int) (h : zHC) (v : Int) (e : F25 v0 = some v) : zRu2 spec d 25 [(0, v0)] (h, hm, o) (some (0, v)) (h, hm, o) := by
  refine zF_in (D := 0) (mx := 1) (L := [some (0, v0)]) (by decide +kernel) rfl rfl hd (fun d hd => ?_)
  unfold F25 at e
  rcases zI_s e with ⟨q1, e⟩ | ⟨q1, e⟩
  · refine zF_blk (m := []) (d := 1) (b := B25_3) (gs := [v0 < 48]) (c' := (16, [some (0, v0)], [], (h, hm, o))) K25_3 rfl ⟨q1, trivial⟩ ?_
    refine zF_blk (m := []) (d := 0) (b := B25_0) (gs := []) (c' := (17, [some (0, v0)], [(0, 0)], (h, hm, o))) K25_0 rfl trivial ?_
    obtain rfl := Option.some.inj e
    exact zF_rb (by decide +kernel) (Or.inl rfl)
  · refine zF_blk (m := []) (d := 0) (b := B25_3) (gs := [¬ (v0 < 48)]) (c' := (6, [some (0, v0)], [], (h, hm, o))) K25_3 rfl ⟨q1, trivial⟩ ?_
    rcases zI_s e with ⟨q2, e⟩ | ⟨q2, e⟩
    · refine zF_blk (m := []) (d := 1) (b := B25_2) (gs := [57 < v0]) (c' := (16, [some (0, v0)], [], (h, hm, o))) K25_2 rfl ⟨q2, trivial⟩ ?_
      refine zF_blk (m := []) (d := 0) (b := B25_0) (gs := []) (c' := (17, [some (0, v0)], [(0, 0)], (h, hm, o))) K25_0 rfl trivial ?_
      obtain rfl := Option.some.inj e
      exact zF_rb (by decide +kernel) (Or.inl rfl)
    · refine zF_blk (m := []) (d := 0) (b := B25_2) (gs := [¬ (57 < v0)]) (c' := (12, [some (0, v0)], [], (h, hm, o))) K25_2 rfl ⟨q2, trivial⟩ ?_
      refine zF_blk (m := []) (d := 0) (b := B25_1) (gs := []) (c' := (17, [some (0, v0)], [(0, 1)], (h, hm, o))) K25_1 rfl trivial ?_
      obtain rfl := Option.some.inj e
      exact zF_rb (by decide +kernel) (Or.inr rfl)
def B28_0 : List zRow := [(40, .iconst 0, 1, (0, 0, 0))]
theorem K28_0 : zRk 28 B28_0 = true := by decide +kernel
def B28_1 : List zRow := [(30, .iload_n 0, 1, (0, 0, 0)), (31, .bipush 41, 2, (0, 0, 0)), (33, .if_icmp .ne 7, 3, (0, 0, 0))]
theorem K28_1 : zRk 28 B28_1 = true := by decide +kernel
def B28_2 : List zRow := [(24, .iload_n 0, 1, (0, 0, 0)), (25, .bipush 40, 2, (0, 0, 0)), (27, .if_icmp .eq 9, 3, (0, 0, 0))]
theorem K28_2 : zRk 28 B28_2 = true := by decide +kernel
def B28_3 : List zRow := [(18, .iload_n 0, 1, (0, 0, 0)), (19, .bipush 62, 2, (0, 0, 0)), (21, .if_icmp .eq 15, 3, (0, 0, 0))]
theorem K28_3 : zRk 28 B28_3 = true := by decide +kernel
def B28_4 : List zRow := [(12, .iload_n 0, 1, (0, 0, 0)), (13, .bipush 61, 2, (0, 0, 0)), (15, .if_icmp .eq 21, 3, (0, 0, 0))]
theorem K28_4 : zRk 28 B28_4 = true := by decide +kernel
def B28_5 : List zRow := [(6, .iload_n 0, 1, (0, 0, 0)), (7, .bipush 60, 2, (0, 0, 0)), (9, .if_icmp .eq 27, 3, (0, 0, 0))]
theorem K28_5 : zRk 28 B28_5 = true := by decide +kernel
def B28_6 : List zRow := [(0, .iload_n 0, 1, (0, 0, 0)), (1, .bipush 59, 2, (0, 0, 0)), (3, .if_icmp .eq 33, 3, (0, 0, 0))]
theorem K28_6 : zRk 28 B28_6 = true := by decide +kernel
def B28_7 : List zRow := [(36, .iconst 1, 1, (0, 0, 0)), (37, .goto 4, 3, (0, 0, 0))]
theorem K28_7 : zRk 28 B28_7 = true := by decide +kernel
def F28_0 : Option Int := some 1
set_option maxRecDepth 100000 in
theorem T28_0 {spec : zRn zH2} {hm : zHM} {o : Int → Int} {d : Nat} (hd : 0 ≤ d) (h : zHC) (v : Int) (e : F28_0 = some v) : zFin 0 (fun _ => 0) (zRu2 spec d) 28 (some (0, v)) (h, hm, o) (36, [none], [], (h, hm, o)) := by
  unfold F28_0 at e
  refine zF_blk (m := []) (d := 0) (b := B28_7) (gs := []) (c' := (41, [none], [(0, 1)], (h, hm, o))) K28_7 rfl trivial ?_
  obtain rfl := Option.some.inj e
  exact zF_rb (by decide +kernel) (Or.inr rfl)
/-- EchoVale$Reader.isMark(I)Z -/
def F28 (v0 : Int) : Option Int := if v0 = 59 then F28_0 else if v0 = 60 then F28_0 else if v0 = 61 then F28_0 else if v0 = 62 then F28_0 else if v0 = 40 then F28_0 else if ¬ v0 = 41 then some 0 else F28_0
set_option maxRecDepth 100000 in
theorem S28 {spec : zRn zH2} {hm : zHM} {o : Int → Int} {d : Nat} (hd : 1 ≤ d) (v0 : Int) (h : zHC) (v : Int) (e : F28 v0 = some v) : zRu2 spec d 28 [(0, v0)] (h, hm, o) (some (0, v)) (h, hm, o) := by
  refine zF_in (D := 0) (mx := 1) (L := [some (0, v0)]) (by decide +kernel) rfl rfl hd (fun d hd => ?_)
  unfold F28 at e
  rcases zI_s e with ⟨q1, e⟩ | ⟨q1, e⟩
  · refine zF_blk (m := []) (d := 1) (b := B28_6) (gs := [v0 = 59]) (c' := (36, [some (0, v0)], [], (h, hm, o))) K28_6 rfl ⟨q1, trivial⟩ ?_
    refine zF_blk (m := [false]) (d := 0) (b := []) (gs := []) (c' := (36, [none], [], (h, hm, o))) rfl rfl trivial ?_
    exact T28_0 hd h _ e
  · refine zF_blk (m := []) (d := 0) (b := B28_6) (gs := [¬ (v0 = 59)]) (c' := (6, [some (0, v0)], [], (h, hm, o))) K28_6 rfl ⟨q1, trivial⟩ ?_
    rcases zI_s e with ⟨q2, e⟩ | ⟨q2, e⟩
    · refine zF_blk (m := []) (d := 1) (b := B28_5) (gs := [v0 = 60]) (c' := (36, [some (0, v0)], [], (h, hm, o))) K28_5 rfl ⟨q2, trivial⟩ ?_
      refine zF_blk (m := [false]) (d := 0) (b := []) (gs := []) (c' := (36, [none], [], (h, hm, o))) rfl rfl trivial ?_
      exact T28_0 hd h _ e
    · refine zF_blk (m := []) (d := 0) (b := B28_5) (gs := [¬ (v0 = 60)]) (c' := (12, [some (0, v0)], [], (h, hm, o))) K28_5 rfl ⟨q2, trivial⟩ ?_
      rcases zI_s e with ⟨q3, e⟩ | ⟨q3, e⟩
      · refine zF_blk (m := []) (d := 1) (b := B28_4) (gs := [v0 = 61]) (c' := (36, [some (0, v0)], [], (h, hm, o))) K28_4 rfl ⟨q3, trivial⟩ ?_
        refine zF_blk (m := [false]) (d := 0) (b := []) (gs := []) (c' := (36, [none], [], (h, hm, o))) rfl rfl trivial ?_
        exact T28_0 hd h _ e
      · refine zF_blk (m := []) (d := 0) (b := B28_4) (gs := [¬ (v0 = 61)]) (c' := (18, [some (0, v0)], [], (h, hm, o))) K28_4 rfl ⟨q3, trivial⟩ ?_
        rcases zI_s e with ⟨q4, e⟩ | ⟨q4, e⟩
        · refine zF_blk (m := []) (d := 1) (b := B28_3) (gs := [v0 = 62]) (c' := (36, [some (0, v0)], [], (h, hm, o))) K28_3 rfl ⟨q4, trivial⟩ ?_
          refine zF_blk (m := [false]) (d := 0) (b := []) (gs := []) (c' := (36, [none], [], (h, hm, o))) rfl rfl trivial ?_
          exact T28_0 hd h _ e
        · refine zF_blk (m := []) (d := 0) (b := B28_3) (gs := [¬ (v0 = 62)]) (c' := (24, [some (0, v0)], [], (h, hm, o))) K28_3 rfl ⟨q4, trivial⟩ ?_
          rcases zI_s e with ⟨q5, e⟩ | ⟨q5, e⟩
          · refine zF_blk (m := []) (d := 1) (b := B28_2) (gs := [v0 = 40]) (c' := (36, [some (0, v0)], [], (h, hm, o))) K28_2 rfl ⟨q5, trivial⟩ ?_
            refine zF_blk (m := [false]) (d := 0) (b := []) (gs := []) (c' := (36, [none], [], (h, hm, o))) rfl rfl trivial ?_
            exact T28_0 hd h _ e
          · refine zF_blk (m := []) (d := 0) (b := B28_2) (gs := [¬ (v0 = 40)]) (c' := (30, [some (0, v0)], [], (h, hm, o))) K28_2 rfl ⟨q5, trivial⟩ ?_
            rcases zI_s e with ⟨q6, e⟩ | ⟨q6, e⟩
            · refine zF_blk (m := []) (d := 1) (b := B28_1) (gs := [¬ v0 = 41]) (c' := (40, [some (0, v0)], [], (h, hm, o))) K28_1 rfl ⟨q6, trivial⟩ ?_
              refine zF_blk (m := []) (d := 0) (b := B28_0) (gs := []) (c' := (41, [some (0, v0)], [(0, 0)], (h, hm, o))) K28_0 rfl trivial ?_
              obtain rfl := Option.some.inj e
              exact zF_rb (by decide +kernel) (Or.inl rfl)
            · refine zF_blk (m := []) (d := 0) (b := B28_1) (gs := [¬ (¬ v0 = 41)]) (c' := (36, [some (0, v0)], [], (h, hm, o))) K28_1 rfl ⟨q6, trivial⟩ ?_
              refine zF_blk (m := [false]) (d := 0) (b := []) (gs := []) (c' := (36, [none], [], (h, hm, o))) rfl rfl trivial ?_
              exact T28_0 hd h _ e
def B3_0 : List zRow := [(0, .lload_n 0, 1, (0, 0, 0)), (1, .iconst 5, 1, (0, 0, 0)), (2, .lshl, 1, (0, 0, 0)), (3, .iload_n 2, 1, (0, 0, 0)), (4, .bipush 97, 2, (0, 0, 0)), (6, .isub, 1, (0, 0, 0)), (7, .iconst 1, 1, (0, 0, 0)), (8, .iadd, 1, (0, 0, 0)), (9, .i2l, 1, (0, 0, 0)), (10, .lor, 1, (0, 0, 0))]
theorem K3_0 : zRk 3 B3_0 = true := by decide +kernel
/-- EchoVale$Reader.withLetter(JI)J -/
def F3 (v0 : Int) (v2 : Int) : Option Int := some (qor (qshl v0 5) (wadd (wsub v2 97) 1))
set_option maxRecDepth 100000 in
theorem S3 {spec : zRn zH2} {hm : zHM} {o : Int → Int} {d : Nat} (hd : 1 ≤ d) (v0 : Int) (v2 : Int) (h : zHC) (v : Int) (e : F3 v0 v2 = some v) : zRu2 spec d 3 [(1, v0), (0, v2)] (h, hm, o) (some (1, v)) (h, hm, o) := by
  refine zF_in (D := 0) (mx := 3) (L := [some (1, v0), none, some (0, v2)]) (by decide +kernel) rfl rfl hd (fun d hd => ?_)
  unfold F3 at e
  refine zF_blk (m := []) (d := 0) (b := B3_0) (gs := []) (c' := (11, [some (1, v0), none, some (0, v2)], [(1, (qor (qshl v0 5) (wadd (wsub v2 97) 1)))], (h, hm, o))) K3_0 rfl trivial ?_
  obtain rfl := Option.some.inj e
  exact zF_rl (by decide +kernel)
def B27_0 : List zRow := [(0, .iconst 0, 1, (0, 0, 0)), (1, .istore_n 3, 1, (0, 0, 0))]
theorem K27_0 : zRk 27 B27_0 = true := by decide +kernel
def B27_1 : List zRow := [(27, .iconst (-1), 1, (0, 0, 0))]
theorem K27_1 : zRk 27 B27_1 = true := by decide +kernel
def B27_2 : List zRow := [(21, .iinc 3 1, 3, (0, 0, 0)), (24, .goto (-22), 3, (0, 0, 0))]
theorem K27_2 : zRk 27 B27_2 = true := by decide +kernel
def B27_3 : List zRow := [(19, .iload_n 3, 1, (0, 0, 0))]
theorem K27_3 : zRk 27 B27_3 = true := by decide +kernel
def B27_4 : List zRow := [(8, .aload_n 0, 1, (0, 0, 0)), (9, .getfield 19, 3, (5, 10, 5505110)), (12, .iload_n 3, 1, (0, 0, 0)), (13, .laload, 1, (0, 0, 0)), (14, .lload_n 1, 1, (0, 0, 0)), (15, .lcmp, 1, (0, 0, 0)), (16, .ifCond .ne 5, 3, (0, 0, 0))]
theorem K27_4 : zRk 27 B27_4 = true := by decide +kernel
def B27_5 : List zRow := [(2, .iload_n 3, 1, (0, 0, 0)), (3, .bipush 21, 2, (0, 0, 0)), (5, .if_icmp .ge 22, 3, (0, 0, 0))]
theorem K27_5 : zRk 27 B27_5 = true := by decide +kernel
def F27_0 (h : zHC) : Nat → Int → Int → Option Int
  | 0, _, _ => none
  | n + 1, v1, v3 => if 21 ≤ v3 then some (-1) else zG (0 ≤ v3 ∧ v3 < 21) (if ¬ (qcmp (h 330 0 v3) v1) = 0 then (F27_0 h n) v1 (wadd v3 1) else some v3)
set_option maxRecDepth 100000 in
theorem T27_0 {spec : zRn zH2} {hm : zHM} {o : Int → Int} {d : Nat} (hd : 0 ≤ d) (h : zHC) : ∀ (n : Nat) (v1 : Int) (v3 : Int) (v : Int), F27_0 h n v1 v3 = some v → zFin 0 (fun _ => 0) (zRu2 spec d) 27 (some (0, v)) (h, hm, o) (2, [some (15, 0), some (1, v1), none, some (0, v3)], [], (h, hm, o)) := by
  intro n
  induction n with
  | zero => intro v1 v3 v e; unfold F27_0 at e; cases e
  | succ n hk0 =>
    intro v1 v3 v e
    unfold F27_0 at e
    rcases zI_s e with ⟨q1, e⟩ | ⟨q1, e⟩
    · refine zF_blk (m := []) (d := 1) (b := B27_5) (gs := [21 ≤ v3]) (c' := (27, [some (15, 0), some (1, v1), none, some (0, v3)], [], (h, hm, o))) K27_5 rfl ⟨q1, trivial⟩ ?_
      refine zF_blk (m := []) (d := 0) (b := B27_1) (gs := []) (c' := (28, [some (15, 0), some (1, v1), none, some (0, v3)], [(0, (-1))], (h, hm, o))) K27_1 rfl trivial ?_
      obtain rfl := Option.some.inj e
      exact zF_ri (by decide +kernel)
    · refine zF_blk (m := []) (d := 0) (b := B27_5) (gs := [¬ (21 ≤ v3)]) (c' := (8, [some (15, 0), some (1, v1), none, some (0, v3)], [], (h, hm, o))) K27_5 rfl ⟨q1, trivial⟩ ?_
      obtain ⟨q2, e⟩ := zG_s e
      rcases zI_s e with ⟨q3, e⟩ | ⟨q3, e⟩
      · refine zF_blk (m := []) (d := 1) (b := B27_4) (gs := [0 ≤ v3 ∧ v3 < 21, ¬ (qcmp (h 330 0 v3) v1) = 0]) (c' := (21, [some (15, 0), some (1, v1), none, some (0, v3)], [], (h, hm, o))) K27_4 rfl ⟨q2, q3, trivial⟩ ?_
        refine zF_blk (m := []) (d := 0) (b := B27_2) (gs := []) (c' := (2, [some (15, 0), some (1, v1), none, some (0, (wadd v3 1))], [], (h, hm, o))) K27_2 rfl trivial ?_
        exact hk0 v1 (wadd v3 1) _ e
      · refine zF_blk (m := []) (d := 0) (b := B27_4) (gs := [0 ≤ v3 ∧ v3 < 21, ¬ (¬ (qcmp (h 330 0 v3) v1) = 0)]) (c' := (19, [some (15, 0), some (1, v1), none, some (0, v3)], [], (h, hm, o))) K27_4 rfl ⟨q2, q3, trivial⟩ ?_
        refine zF_blk (m := []) (d := 0) (b := B27_3) (gs := []) (c' := (20, [some (15, 0), some (1, v1), none, some (0, v3)], [(0, v3)], (h, hm, o))) K27_3 rfl trivial ?_
        obtain rfl := Option.some.inj e
        exact zF_ri (by decide +kernel)
/-- EchoVale$Reader.keywordOf(J)I -/
def F27 (v1 : Int) (h : zHC) : Option Int := F27_0 h zFu v1 0
set_option maxRecDepth 100000 in
theorem S27 {spec : zRn zH2} {hm : zHM} {o : Int → Int} {d : Nat} (hd : 1 ≤ d) (v1 : Int) (h : zHC) (v : Int) (e : F27 v1 h = some v) : zRu2 spec d 27 [(15, 0), (1, v1)] (h, hm, o) (some (0, v)) (h, hm, o) := by
  refine zF_in (D := 0) (mx := 4) (L := [some (15, 0), some (1, v1), none, none]) (by decide +kernel) rfl rfl hd (fun d hd => ?_)
  unfold F27 at e
  refine zF_blk (m := []) (d := 0) (b := B27_0) (gs := []) (c' := (2, [some (15, 0), some (1, v1), none, some (0, 0)], [], (h, hm, o))) K27_0 rfl trivial ?_
  exact T27_0 hd h zFu v1 0 _ e
def B26_0 : List zRow := [(0, .iconst 0, 1, (0, 0, 0)), (1, .istore_n 1, 1, (0, 0, 0)), (2, .iconst 0, 1, (0, 0, 0)), (3, .istore_n 2, 1, (0, 0, 0)), (4, .aload_n 0, 1, (0, 0, 0)), (5, .lconst 0, 1, (0, 0, 0)), (6, .putfield 88, 3, (5, 7, 1)), (9, .aload_n 0, 1, (0, 0, 0)), (10, .iconst 0, 1, (0, 0, 0)), (11, .putfield 82, 3, (5, 6, 0))]
theorem K26_0 : zRk 26 B26_0 = true := by decide +kernel
def B26_1 : List zRow := [(25, .aload_n 0, 1, (0, 0, 0)), (26, .getfield 9, 3, (5, 0, 5246642)), (29, .aload_n 0, 1, (0, 0, 0)), (30, .getfield 45, 3, (5, 8, 0)), (33, .iaload, 1, (0, 0, 0))]
theorem K26_1 : zRk 26 B26_1 = true := by decide +kernel
def B26_2 : List zRow := [(40, .aload_n 0, 1, (0, 0, 0)), (41, .getfield 9, 3, (5, 0, 5246642)), (44, .aload_n 0, 1, (0, 0, 0)), (45, .getfield 45, 3, (5, 8, 0)), (48, .iaload, 1, (0, 0, 0))]
theorem K26_2 : zRk 26 B26_2 = true := by decide +kernel
def B26_3 : List zRow := [(52, .ifCond .eq 103, 3, (0, 0, 0))]
theorem K26_3 : zRk 26 B26_3 = true := by decide +kernel
def B26_4 : List zRow := [(37, .ifCond .ne 18, 3, (0, 0, 0))]
theorem K26_4 : zRk 26 B26_4 = true := by decide +kernel
def B26_5 : List zRow := [(14, .aload_n 0, 1, (0, 0, 0)), (15, .getfield 45, 3, (5, 8, 0)), (18, .aload_n 0, 1, (0, 0, 0)), (19, .getfield 39, 3, (5, 1, 0)), (22, .if_icmp .ge 133, 3, (0, 0, 0))]
theorem K26_5 : zRk 26 B26_5 = true := by decide +kernel
def B26_6 : List zRow := [(55, .aload_n 0, 1, (0, 0, 0)), (56, .getfield 9, 3, (5, 0, 5246642)), (59, .aload_n 0, 1, (0, 0, 0)), (60, .getfield 45, 3, (5, 8, 0)), (63, .iaload, 1, (0, 0, 0))]
theorem K26_6 : zRk 26 B26_6 = true := by decide +kernel
def B26_7 : List zRow := [(138, .iconst 0, 1, (0, 0, 0))]
theorem K26_7 : zRk 26 B26_7 = true := by decide +kernel
def B26_8 : List zRow := [(115, .aload_n 0, 1, (0, 0, 0)), (116, .getfield 82, 3, (5, 6, 0)), (119, .bipush 10, 2, (0, 0, 0)), (121, .imul, 1, (0, 0, 0)), (122, .aload_n 0, 1, (0, 0, 0)), (123, .getfield 9, 3, (5, 0, 5246642)), (126, .aload_n 0, 1, (0, 0, 0)), (127, .getfield 45, 3, (5, 8, 0)), (130, .iaload, 1, (0, 0, 0)), (131, .iadd, 1, (0, 0, 0)), (132, .bipush 48, 2, (0, 0, 0)), (134, .isub, 1, (0, 0, 0)), (135, .goto 4, 3, (0, 0, 0))]
theorem K26_8 : zRk 26 B26_8 = true := by decide +kernel
def B26_9 : List zRow := [(106, .iinc 2 1, 3, (0, 0, 0)), (109, .aload_n 0, 1, (0, 0, 0)), (110, .iload_n 2, 1, (0, 0, 0)), (111, .iconst 3, 1, (0, 0, 0)), (112, .if_icmp .gt 26, 3, (0, 0, 0))]
theorem K26_9 : zRk 26 B26_9 = true := by decide +kernel
def B26_10 : List zRow := [(99, .lconst 0, 1, (0, 0, 0))]
theorem K26_10 : zRk 26 B26_10 = true := by decide +kernel
def B26_11 : List zRow := [(80, .aload_n 0, 1, (0, 0, 0)), (81, .getfield 88, 3, (5, 7, 1)), (84, .aload_n 0, 1, (0, 0, 0)), (85, .getfield 9, 3, (5, 0, 5246642)), (88, .aload_n 0, 1, (0, 0, 0)), (89, .getfield 45, 3, (5, 8, 0)), (92, .iaload, 1, (0, 0, 0))]
theorem K26_11 : zRk 26 B26_11 = true := by decide +kernel
def B26_12 : List zRow := [(96, .goto 4, 3, (0, 0, 0))]
theorem K26_12 : zRk 26 B26_12 = true := by decide +kernel
def B26_13 : List zRow := [(70, .iinc 1 1, 3, (0, 0, 0)), (73, .aload_n 0, 1, (0, 0, 0)), (74, .iload_n 1, 1, (0, 0, 0)), (75, .bipush 7, 2, (0, 0, 0)), (77, .if_icmp .gt 22, 3, (0, 0, 0))]
theorem K26_13 : zRk 26 B26_13 = true := by decide +kernel
def B26_14 : List zRow := [(67, .ifCond .eq 39, 3, (0, 0, 0))]
theorem K26_14 : zRk 26 B26_14 = true := by decide +kernel
def B26_15 : List zRow := [(100, .putfield 88, 3, (5, 7, 1)), (103, .goto 39, 3, (0, 0, 0))]
theorem K26_15 : zRk 26 B26_15 = true := by decide +kernel
def B26_16 : List zRow := [(142, .aload_n 0, 1, (0, 0, 0)), (143, .dup, 1, (0, 0, 0)), (144, .getfield 45, 3, (5, 8, 0)), (147, .iconst 1, 1, (0, 0, 0)), (148, .iadd, 1, (0, 0, 0)), (149, .putfield 45, 3, (5, 8, 0)), (152, .goto (-138), 3, (0, 0, 0))]
theorem K26_16 : zRk 26 B26_16 = true := by decide +kernel
def B26_17 : List zRow := [(139, .putfield 82, 3, (5, 6, 0))]
theorem K26_17 : zRk 26 B26_17 = true := by decide +kernel
def B26_18 : List zRow := [(165, .aload_n 0, 1, (0, 0, 0)), (166, .aload_n 0, 1, (0, 0, 0)), (167, .aload_n 0, 1, (0, 0, 0)), (168, .getfield 88, 3, (5, 7, 1))]
theorem K26_18 : zRk 26 B26_18 = true := by decide +kernel
def B26_19 : List zRow := [(190, .iconst 3, 1, (0, 0, 0))]
theorem K26_19 : zRk 26 B26_19 = true := by decide +kernel
def B26_20 : List zRow := [(186, .iconst 2, 1, (0, 0, 0)), (187, .goto 4, 3, (0, 0, 0))]
theorem K26_20 : zRk 26 B26_20 = true := by decide +kernel
def B26_21 : List zRow := [(174, .putfield 82, 3, (5, 6, 0)), (177, .aload_n 0, 1, (0, 0, 0)), (178, .aload_n 0, 1, (0, 0, 0)), (179, .getfield 82, 3, (5, 6, 0)), (182, .iconst (-1), 1, (0, 0, 0)), (183, .if_icmp .ne 7, 3, (0, 0, 0))]
theorem K26_21 : zRk 26 B26_21 = true := by decide +kernel
def B26_22 : List zRow := [(159, .iload_n 1, 1, (0, 0, 0)), (160, .bipush 7, 2, (0, 0, 0)), (162, .if_icmp .gt 35, 3, (0, 0, 0))]
theorem K26_22 : zRk 26 B26_22 = true := by decide +kernel
def B26_23 : List zRow := [(155, .iload_n 2, 1, (0, 0, 0)), (156, .ifCond .ne 41, 3, (0, 0, 0))]
theorem K26_23 : zRk 26 B26_23 = true := by decide +kernel
def B26_24 : List zRow := [(191, .putfield 70, 3, (5, 4, 0)), (194, .goto 21, 3, (0, 0, 0))]
theorem K26_24 : zRk 26 B26_24 = true := by decide +kernel
def B26_25 : List zRow := [(207, .iconst 4, 1, (0, 0, 0)), (208, .goto 4, 3, (0, 0, 0))]
theorem K26_25 : zRk 26 B26_25 = true := by decide +kernel
def B26_26 : List zRow := [(202, .iload_n 2, 1, (0, 0, 0)), (203, .iconst 3, 1, (0, 0, 0)), (204, .if_icmp .gt 7, 3, (0, 0, 0))]
theorem K26_26 : zRk 26 B26_26 = true := by decide +kernel
def B26_27 : List zRow := [(197, .aload_n 0, 1, (0, 0, 0)), (198, .iload_n 1, 1, (0, 0, 0)), (199, .ifCond .ne 12, 3, (0, 0, 0))]
theorem K26_27 : zRk 26 B26_27 = true := by decide +kernel
def B26_28 : List zRow := [(212, .putfield 70, 3, (5, 4, 0))]
theorem K26_28 : zRk 26 B26_28 = true := by decide +kernel
def B26_29 : List zRow := [(211, .iconst 1, 1, (0, 0, 0))]
theorem K26_29 : zRk 26 B26_29 = true := by decide +kernel
def F26_9 (s0 : Int) (h : zHC) : Option zHC := some (hset h 324 0 0 s0)
set_option maxRecDepth 100000 in
theorem T26_9 {spec : zRn zH2} {hm : zHM} {o : Int → Int} {d : Nat} (hd : 1 ≤ d) (s0 : Int) (h : zHC) (v : zHC) (e : F26_9 s0 h = some v) : zFin 0 (fun _ => 0) (zRu2 spec d) 26 none (v, hm, o) (212, [none, none, none], [(0, s0), (15, 0)], (h, hm, o)) := by
  unfold F26_9 at e
  refine zF_blk (m := []) (d := 0) (b := B26_28) (gs := []) (c' := (215, [none, none, none], [], ((hset h 324 0 0 s0), hm, o))) K26_28 rfl trivial ?_
  obtain rfl := Option.some.inj e
  exact zF_rv (by decide +kernel)
def F26_8 (h : zHC) : Option zHC := F26_9 1 h
set_option maxRecDepth 100000 in
theorem T26_8 {spec : zRn zH2} {hm : zHM} {o : Int → Int} {d : Nat} (hd : 1 ≤ d) (h : zHC) (v : zHC) (e : F26_8 h = some v) : zFin 0 (fun _ => 0) (zRu2 spec d) 26 none (v, hm, o) (211, [none, none, none], [(15, 0)], (h, hm, o)) := by
  unfold F26_8 at e
  refine zF_blk (m := []) (d := 0) (b := B26_29) (gs := []) (c' := (212, [none, none, none], [(0, 1), (15, 0)], (h, hm, o))) K26_29 rfl trivial ?_
  exact T26_9 hd 1 h _ e
def F26_6 (v1 : Int) (v2 : Int) (h : zHC) : Option zHC := if ¬ v1 = 0 then F26_8 h else if 3 < v2 then F26_8 h else F26_9 4 h
set_option maxRecDepth 100000 in
theorem T26_6 {spec : zRn zH2} {hm : zHM} {o : Int → Int} {d : Nat} (hd : 1 ≤ d) (v1 : Int) (v2 : Int) (h : zHC) (v : zHC) (e : F26_6 v1 v2 h = some v) : zFin 0 (fun _ => 0) (zRu2 spec d) 26 none (v, hm, o) (197, [some (15, 0), some (0, v1), some (0, v2)], [], (h, hm, o)) := by
  unfold F26_6 at e
  rcases zI_s e with ⟨q1, e⟩ | ⟨q1, e⟩
  · refine zF_blk (m := []) (d := 1) (b := B26_27) (gs := [¬ v1 = 0]) (c' := (211, [some (15, 0), some (0, v1), some (0, v2)], [(15, 0)], (h, hm, o))) K26_27 rfl ⟨q1, trivial⟩ ?_
    refine zF_blk (m := [false, false, false]) (d := 0) (b := []) (gs := []) (c' := (211, [none, none, none], [(15, 0)], (h, hm, o))) rfl rfl trivial ?_
    exact T26_8 hd h _ e
  · refine zF_blk (m := []) (d := 0) (b := B26_27) (gs := [¬ (¬ v1 = 0)]) (c' := (202, [some (15, 0), some (0, v1), some (0, v2)], [(15, 0)], (h, hm, o))) K26_27 rfl ⟨q1, trivial⟩ ?_
    rcases zI_s e with ⟨q2, e⟩ | ⟨q2, e⟩
    · refine zF_blk (m := []) (d := 1) (b := B26_26) (gs := [3 < v2]) (c' := (211, [some (15, 0), some (0, v1), some (0, v2)], [(15, 0)], (h, hm, o))) K26_26 rfl ⟨q2, trivial⟩ ?_
      refine zF_blk (m := [false, false, false]) (d := 0) (b := []) (gs := []) (c' := (211, [none, none, none], [(15, 0)], (h, hm, o))) rfl rfl trivial ?_
      exact T26_8 hd h _ e
    · refine zF_blk (m := []) (d := 0) (b := B26_26) (gs := [¬ (3 < v2)]) (c' := (207, [some (15, 0), some (0, v1), some (0, v2)], [(15, 0)], (h, hm, o))) K26_26 rfl ⟨q2, trivial⟩ ?_
      refine zF_blk (m := []) (d := 0) (b := B26_25) (gs := []) (c' := (212, [some (15, 0), some (0, v1), some (0, v2)], [(0, 4), (15, 0)], (h, hm, o))) K26_25 rfl trivial ?_
      refine zF_blk (m := [false, false, false]) (d := 0) (b := []) (gs := []) (c' := (212, [none, none, none], [(0, 4), (15, 0)], (h, hm, o))) rfl rfl trivial ?_
      exact T26_9 hd 4 h _ e
def F26_7 (s0 : Int) (h : zHC) : Option zHC := some (hset h 324 0 0 s0)
set_option maxRecDepth 100000 in
theorem T26_7 {spec : zRn zH2} {hm : zHM} {o : Int → Int} {d : Nat} (hd : 1 ≤ d) (s0 : Int) (h : zHC) (v : zHC) (e : F26_7 s0 h = some v) : zFin 0 (fun _ => 0) (zRu2 spec d) 26 none (v, hm, o) (191, [none, none, none], [(0, s0), (15, 0)], (h, hm, o)) := by
  unfold F26_7 at e
  refine zF_blk (m := []) (d := 0) (b := B26_24) (gs := []) (c' := (215, [none, none, none], [], ((hset h 324 0 0 s0), hm, o))) K26_24 rfl trivial ?_
  obtain rfl := Option.some.inj e
  exact zF_rv (by decide +kernel)
def F26_1 (v1 : Int) (v2 : Int) (h : zHC) : Option zHC := if ¬ v2 = 0 then F26_6 v1 v2 h else if 7 < v1 then F26_6 v1 v2 h else (F27 (h 327 0 0) h).bind fun r1 => if ¬ r1 = (-1) then F26_7 3 (hset h 326 0 0 r1) else F26_7 2 (hset h 326 0 0 r1)
set_option maxRecDepth 100000 in
theorem T26_1 {spec : zRn zH2} {hm : zHM} {o : Int → Int} {d : Nat} (hd : 1 ≤ d) (v1 : Int) (v2 : Int) (h : zHC) (v : zHC) (e : F26_1 v1 v2 h = some v) : zFin 0 (fun _ => 0) (zRu2 spec d) 26 none (v, hm, o) (155, [some (15, 0), some (0, v1), some (0, v2)], [], (h, hm, o)) := by
  unfold F26_1 at e
  rcases zI_s e with ⟨q1, e⟩ | ⟨q1, e⟩
  · refine zF_blk (m := []) (d := 1) (b := B26_23) (gs := [¬ v2 = 0]) (c' := (197, [some (15, 0), some (0, v1), some (0, v2)], [], (h, hm, o))) K26_23 rfl ⟨q1, trivial⟩ ?_
    exact T26_6 hd v1 v2 h _ e
  · refine zF_blk (m := []) (d := 0) (b := B26_23) (gs := [¬ (¬ v2 = 0)]) (c' := (159, [some (15, 0), some (0, v1), some (0, v2)], [], (h, hm, o))) K26_23 rfl ⟨q1, trivial⟩ ?_
    rcases zI_s e with ⟨q2, e⟩ | ⟨q2, e⟩
    · refine zF_blk (m := []) (d := 1) (b := B26_22) (gs := [7 < v1]) (c' := (197, [some (15, 0), some (0, v1), some (0, v2)], [], (h, hm, o))) K26_22 rfl ⟨q2, trivial⟩ ?_
      exact T26_6 hd v1 v2 h _ e
    · refine zF_blk (m := []) (d := 0) (b := B26_22) (gs := [¬ (7 < v1)]) (c' := (165, [some (15, 0), some (0, v1), some (0, v2)], [], (h, hm, o))) K26_22 rfl ⟨q2, trivial⟩ ?_
      obtain ⟨r1, q3, e⟩ := zB_s e
      refine zF_blk (m := []) (d := 0) (b := B26_18) (gs := []) (c' := (171, [some (15, 0), some (0, v1), some (0, v2)], [(1, (h 327 0 0)), (15, 0), (15, 0)], (h, hm, o))) K26_18 rfl trivial ?_
      refine zF_call (k := 27) (cl := 5) (n := 2) (i := .invokevirtual 92) (args := [(15, 0), (1, (h 327 0 0))]) (rest := [(15, 0)]) (g1 := (h, hm, o)) (r1 := some (0, r1)) (by decide +kernel) rfl rfl rfl (st' := [(0, r1), (15, 0)]) rfl (S27 (Nat.le_trans (by decide) hd) (h 327 0 0) h _ q3) ?_
      rcases zI_s e with ⟨q4, e⟩ | ⟨q4, e⟩
      · refine zF_blk (m := []) (d := 1) (b := B26_21) (gs := [¬ r1 = (-1)]) (c' := (190, [some (15, 0), some (0, v1), some (0, v2)], [(15, 0)], ((hset h 326 0 0 r1), hm, o))) K26_21 rfl ⟨q4, trivial⟩ ?_
        refine zF_blk (m := []) (d := 0) (b := B26_19) (gs := []) (c' := (191, [some (15, 0), some (0, v1), some (0, v2)], [(0, 3), (15, 0)], ((hset h 326 0 0 r1), hm, o))) K26_19 rfl trivial ?_
        refine zF_blk (m := [false, false, false]) (d := 0) (b := []) (gs := []) (c' := (191, [none, none, none], [(0, 3), (15, 0)], ((hset h 326 0 0 r1), hm, o))) rfl rfl trivial ?_
        exact T26_7 hd 3 (hset h 326 0 0 r1) _ e
      · refine zF_blk (m := []) (d := 0) (b := B26_21) (gs := [¬ (¬ r1 = (-1))]) (c' := (186, [some (15, 0), some (0, v1), some (0, v2)], [(15, 0)], ((hset h 326 0 0 r1), hm, o))) K26_21 rfl ⟨q4, trivial⟩ ?_
        refine zF_blk (m := []) (d := 0) (b := B26_20) (gs := []) (c' := (191, [some (15, 0), some (0, v1), some (0, v2)], [(0, 2), (15, 0)], ((hset h 326 0 0 r1), hm, o))) K26_20 rfl trivial ?_
        refine zF_blk (m := [false, false, false]) (d := 0) (b := []) (gs := []) (c' := (191, [none, none, none], [(0, 2), (15, 0)], ((hset h 326 0 0 r1), hm, o))) rfl rfl trivial ?_
        exact T26_7 hd 2 (hset h 326 0 0 r1) _ e
def F26_5 (k0 : Int → Int → zHC → Option zHC) (v1 : Int) (v2 : Int) (h : zHC) : Option zHC := k0 v1 v2 (hset h 328 0 0 (wadd (h 328 0 0) 1))
set_option maxRecDepth 100000 in
theorem T26_5 {spec : zRn zH2} {hm : zHM} {o : Int → Int} {d : Nat} (hd : 1 ≤ d) (k0 : Int → Int → zHC → Option zHC) (hk0 : ∀ (v1 : Int) (v2 : Int) (h : zHC) (v : zHC), k0 v1 v2 h = some v → zFin 0 (fun _ => 0) (zRu2 spec d) 26 none (v, hm, o) (14, [some (15, 0), some (0, v1), some (0, v2)], [], (h, hm, o))) (v1 : Int) (v2 : Int) (h : zHC) (v : zHC) (e : F26_5 k0 v1 v2 h = some v) : zFin 0 (fun _ => 0) (zRu2 spec d) 26 none (v, hm, o) (142, [some (15, 0), some (0, v1), some (0, v2)], [], (h, hm, o)) := by
  unfold F26_5 at e
  refine zF_blk (m := []) (d := 0) (b := B26_16) (gs := []) (c' := (14, [some (15, 0), some (0, v1), some (0, v2)], [], ((hset h 328 0 0 (wadd (h 328 0 0) 1)), hm, o))) K26_16 rfl trivial ?_
  exact hk0 v1 v2 (hset h 328 0 0 (wadd (h 328 0 0) 1)) _ e
def F26_3 (k0 : Int → Int → zHC → Option zHC) (v1 : Int) (v2 : Int) (s0 : Int) (h : zHC) : Option zHC := F26_5 k0 v1 v2 (hset h 326 0 0 s0)
set_option maxRecDepth 100000 in
theorem T26_3 {spec : zRn zH2} {hm : zHM} {o : Int → Int} {d : Nat} (hd : 1 ≤ d) (k0 : Int → Int → zHC → Option zHC) (hk0 : ∀ (v1 : Int) (v2 : Int) (h : zHC) (v : zHC), k0 v1 v2 h = some v → zFin 0 (fun _ => 0) (zRu2 spec d) 26 none (v, hm, o) (14, [some (15, 0), some (0, v1), some (0, v2)], [], (h, hm, o))) (v1 : Int) (v2 : Int) (s0 : Int) (h : zHC) (v : zHC) (e : F26_3 k0 v1 v2 s0 h = some v) : zFin 0 (fun _ => 0) (zRu2 spec d) 26 none (v, hm, o) (139, [some (15, 0), some (0, v1), some (0, v2)], [(0, s0), (15, 0)], (h, hm, o)) := by
  unfold F26_3 at e
  refine zF_blk (m := []) (d := 0) (b := B26_17) (gs := []) (c' := (142, [some (15, 0), some (0, v1), some (0, v2)], [], ((hset h 326 0 0 s0), hm, o))) K26_17 rfl trivial ?_
  exact T26_5 hd k0 hk0 v1 v2 (hset h 326 0 0 s0) _ e
def F26_4 (k0 : Int → Int → zHC → Option zHC) (v1 : Int) (v2 : Int) (s0 : Int) (h : zHC) : Option zHC := F26_5 k0 v1 v2 (hset h 327 0 0 s0)
set_option maxRecDepth 100000 in
theorem T26_4 {spec : zRn zH2} {hm : zHM} {o : Int → Int} {d : Nat} (hd : 1 ≤ d) (k0 : Int → Int → zHC → Option zHC) (hk0 : ∀ (v1 : Int) (v2 : Int) (h : zHC) (v : zHC), k0 v1 v2 h = some v → zFin 0 (fun _ => 0) (zRu2 spec d) 26 none (v, hm, o) (14, [some (15, 0), some (0, v1), some (0, v2)], [], (h, hm, o))) (v1 : Int) (v2 : Int) (s0 : Int) (h : zHC) (v : zHC) (e : F26_4 k0 v1 v2 s0 h = some v) : zFin 0 (fun _ => 0) (zRu2 spec d) 26 none (v, hm, o) (100, [some (15, 0), some (0, v1), some (0, v2)], [(1, s0), (15, 0)], (h, hm, o)) := by
  unfold F26_4 at e
  refine zF_blk (m := []) (d := 0) (b := B26_15) (gs := []) (c' := (142, [some (15, 0), some (0, v1), some (0, v2)], [], ((hset h 327 0 0 s0), hm, o))) K26_15 rfl trivial ?_
  exact T26_5 hd k0 hk0 v1 v2 (hset h 327 0 0 s0) _ e
def F26_2 (k0 : Int → Int → zHC → Option zHC) (v1 : Int) (v2 : Int) (h : zHC) : Option zHC := zG (0 ≤ (h 328 0 0) ∧ (h 328 0 0) < 940) ((F24 (h 320 0 (h 328 0 0))).bind fun r1 => if r1 = 0 then if 3 < (wadd v2 1) then F26_3 k0 v1 (wadd v2 1) 0 h else zG (0 ≤ (h 328 0 0) ∧ (h 328 0 0) < 940) (F26_3 k0 v1 (wadd v2 1) (wsub (wadd (wmul (h 326 0 0) 10) (h 320 0 (h 328 0 0))) 48) h) else if 7 < (wadd v1 1) then F26_4 k0 (wadd v1 1) v2 0 h else zG (0 ≤ (h 328 0 0) ∧ (h 328 0 0) < 940) ((F3 (h 327 0 0) (h 320 0 (h 328 0 0))).bind fun r2 => F26_4 k0 (wadd v1 1) v2 r2 h))
set_option maxRecDepth 100000 in
theorem T26_2 {spec : zRn zH2} {hm : zHM} {o : Int → Int} {d : Nat} (hd : 1 ≤ d) (k0 : Int → Int → zHC → Option zHC) (hk0 : ∀ (v1 : Int) (v2 : Int) (h : zHC) (v : zHC), k0 v1 v2 h = some v → zFin 0 (fun _ => 0) (zRu2 spec d) 26 none (v, hm, o) (14, [some (15, 0), some (0, v1), some (0, v2)], [], (h, hm, o))) (v1 : Int) (v2 : Int) (h : zHC) (v : zHC) (e : F26_2 k0 v1 v2 h = some v) : zFin 0 (fun _ => 0) (zRu2 spec d) 26 none (v, hm, o) (55, [some (15, 0), some (0, v1), some (0, v2)], [], (h, hm, o)) := by
  unfold F26_2 at e
  obtain ⟨q1, e⟩ := zG_s e
  obtain ⟨r1, q2, e⟩ := zB_s e
  refine zF_blk (m := []) (d := 0) (b := B26_6) (gs := [0 ≤ (h 328 0 0) ∧ (h 328 0 0) < 940]) (c' := (64, [some (15, 0), some (0, v1), some (0, v2)], [(0, (h 320 0 (h 328 0 0)))], (h, hm, o))) K26_6 rfl ⟨q1, trivial⟩ ?_
  refine zF_call (k := 24) (cl := 5) (n := 1) (i := .invokestatic 73) (args := [(0, (h 320 0 (h 328 0 0)))]) (rest := []) (g1 := (h, hm, o)) (r1 := some (0, r1)) (by decide +kernel) rfl rfl rfl (st' := [(0, r1)]) rfl (S24 (Nat.le_trans (by decide) hd) (h 320 0 (h 328 0 0)) h _ q2) ?_
  rcases zI_s e with ⟨q3, e⟩ | ⟨q3, e⟩
  · refine zF_blk (m := []) (d := 1) (b := B26_14) (gs := [r1 = 0]) (c' := (106, [some (15, 0), some (0, v1), some (0, v2)], [], (h, hm, o))) K26_14 rfl ⟨q3, trivial⟩ ?_
    rcases zI_s e with ⟨q4, e⟩ | ⟨q4, e⟩
    · refine zF_blk (m := []) (d := 1) (b := B26_9) (gs := [3 < (wadd v2 1)]) (c' := (138, [some (15, 0), some (0, v1), some (0, (wadd v2 1))], [(15, 0)], (h, hm, o))) K26_9 rfl ⟨q4, trivial⟩ ?_
      refine zF_blk (m := []) (d := 0) (b := B26_7) (gs := []) (c' := (139, [some (15, 0), some (0, v1), some (0, (wadd v2 1))], [(0, 0), (15, 0)], (h, hm, o))) K26_7 rfl trivial ?_
      exact T26_3 hd k0 hk0 v1 (wadd v2 1) 0 h _ e
    · refine zF_blk (m := []) (d := 0) (b := B26_9) (gs := [¬ (3 < (wadd v2 1))]) (c' := (115, [some (15, 0), some (0, v1), some (0, (wadd v2 1))], [(15, 0)], (h, hm, o))) K26_9 rfl ⟨q4, trivial⟩ ?_
      obtain ⟨q5, e⟩ := zG_s e
      refine zF_blk (m := []) (d := 0) (b := B26_8) (gs := [0 ≤ (h 328 0 0) ∧ (h 328 0 0) < 940]) (c' := (139, [some (15, 0), some (0, v1), some (0, (wadd v2 1))], [(0, (wsub (wadd (wmul (h 326 0 0) 10) (h 320 0 (h 328 0 0))) 48)), (15, 0)], (h, hm, o))) K26_8 rfl ⟨q5, trivial⟩ ?_
      exact T26_3 hd k0 hk0 v1 (wadd v2 1) (wsub (wadd (wmul (h 326 0 0) 10) (h 320 0 (h 328 0 0))) 48) h _ e
  · refine zF_blk (m := []) (d := 0) (b := B26_14) (gs := [¬ (r1 = 0)]) (c' := (70, [some (15, 0), some (0, v1), some (0, v2)], [], (h, hm, o))) K26_14 rfl ⟨q3, trivial⟩ ?_
    rcases zI_s e with ⟨q6, e⟩ | ⟨q6, e⟩
    · refine zF_blk (m := []) (d := 1) (b := B26_13) (gs := [7 < (wadd v1 1)]) (c' := (99, [some (15, 0), some (0, (wadd v1 1)), some (0, v2)], [(15, 0)], (h, hm, o))) K26_13 rfl ⟨q6, trivial⟩ ?_
      refine zF_blk (m := []) (d := 0) (b := B26_10) (gs := []) (c' := (100, [some (15, 0), some (0, (wadd v1 1)), some (0, v2)], [(1, 0), (15, 0)], (h, hm, o))) K26_10 rfl trivial ?_
      exact T26_4 hd k0 hk0 (wadd v1 1) v2 0 h _ e
    · refine zF_blk (m := []) (d := 0) (b := B26_13) (gs := [¬ (7 < (wadd v1 1))]) (c' := (80, [some (15, 0), some (0, (wadd v1 1)), some (0, v2)], [(15, 0)], (h, hm, o))) K26_13 rfl ⟨q6, trivial⟩ ?_
      obtain ⟨q7, e⟩ := zG_s e
      obtain ⟨r2, q8, e⟩ := zB_s e
      refine zF_blk (m := []) (d := 0) (b := B26_11) (gs := [0 ≤ (h 328 0 0) ∧ (h 328 0 0) < 940]) (c' := (93, [some (15, 0), some (0, (wadd v1 1)), some (0, v2)], [(0, (h 320 0 (h 328 0 0))), (1, (h 327 0 0)), (15, 0)], (h, hm, o))) K26_11 rfl ⟨q7, trivial⟩ ?_
      refine zF_call (k := 3) (cl := 5) (n := 2) (i := .invokestatic 35) (args := [(1, (h 327 0 0)), (0, (h 320 0 (h 328 0 0)))]) (rest := [(15, 0)]) (g1 := (h, hm, o)) (r1 := some (1, r2)) (by decide +kernel) rfl rfl rfl (st' := [(1, r2), (15, 0)]) rfl (S3 (Nat.le_trans (by decide) hd) (h 327 0 0) (h 320 0 (h 328 0 0)) h _ q8) ?_
      refine zF_blk (m := []) (d := 0) (b := B26_12) (gs := []) (c' := (100, [some (15, 0), some (0, (wadd v1 1)), some (0, v2)], [(1, r2), (15, 0)], (h, hm, o))) K26_12 rfl trivial ?_
      exact T26_4 hd k0 hk0 (wadd v1 1) v2 r2 h _ e
def F26_0 : Nat → Int → Int → zHC → Option zHC
  | 0, _, _, _ => none
  | n + 1, v1, v2, h => if (h 321 0 0) ≤ (h 328 0 0) then F26_1 v1 v2 h else zG (0 ≤ (h 328 0 0) ∧ (h 328 0 0) < 940) ((F24 (h 320 0 (h 328 0 0))).bind fun r1 => if ¬ r1 = 0 then F26_2 (F26_0 n) v1 v2 h else zG (0 ≤ (h 328 0 0) ∧ (h 328 0 0) < 940) ((F25 (h 320 0 (h 328 0 0))).bind fun r2 => if r2 = 0 then F26_1 v1 v2 h else F26_2 (F26_0 n) v1 v2 h))
set_option maxRecDepth 100000 in
theorem T26_0 {spec : zRn zH2} {hm : zHM} {o : Int → Int} {d : Nat} (hd : 1 ≤ d) : ∀ (n : Nat) (v1 : Int) (v2 : Int) (h : zHC) (v : zHC), F26_0 n v1 v2 h = some v → zFin 0 (fun _ => 0) (zRu2 spec d) 26 none (v, hm, o) (14, [some (15, 0), some (0, v1), some (0, v2)], [], (h, hm, o)) := by
  intro n
  induction n with
  | zero => intro v1 v2 h v e; unfold F26_0 at e; cases e
  | succ n hk0 =>
    intro v1 v2 h v e
    unfold F26_0 at e
    rcases zI_s e with ⟨q1, e⟩ | ⟨q1, e⟩
    · refine zF_blk (m := []) (d := 1) (b := B26_5) (gs := [(h 321 0 0) ≤ (h 328 0 0)]) (c' := (155, [some (15, 0), some (0, v1), some (0, v2)], [], (h, hm, o))) K26_5 rfl ⟨q1, trivial⟩ ?_
      exact T26_1 hd v1 v2 h _ e
    · refine zF_blk (m := []) (d := 0) (b := B26_5) (gs := [¬ ((h 321 0 0) ≤ (h 328 0 0))]) (c' := (25, [some (15, 0), some (0, v1), some (0, v2)], [], (h, hm, o))) K26_5 rfl ⟨q1, trivial⟩ ?_
      obtain ⟨q2, e⟩ := zG_s e
      obtain ⟨r1, q3, e⟩ := zB_s e
      refine zF_blk (m := []) (d := 0) (b := B26_1) (gs := [0 ≤ (h 328 0 0) ∧ (h 328 0 0) < 940]) (c' := (34, [some (15, 0), some (0, v1), some (0, v2)], [(0, (h 320 0 (h 328 0 0)))], (h, hm, o))) K26_1 rfl ⟨q2, trivial⟩ ?_
      refine zF_call (k := 24) (cl := 5) (n := 1) (i := .invokestatic 73) (args := [(0, (h 320 0 (h 328 0 0)))]) (rest := []) (g1 := (h, hm, o)) (r1 := some (0, r1)) (by decide +kernel) rfl rfl rfl (st' := [(0, r1)]) rfl (S24 (Nat.le_trans (by decide) hd) (h 320 0 (h 328 0 0)) h _ q3) ?_
      rcases zI_s e with ⟨q4, e⟩ | ⟨q4, e⟩
      · refine zF_blk (m := []) (d := 1) (b := B26_4) (gs := [¬ r1 = 0]) (c' := (55, [some (15, 0), some (0, v1), some (0, v2)], [], (h, hm, o))) K26_4 rfl ⟨q4, trivial⟩ ?_
        exact T26_2 hd (F26_0 n) hk0 v1 v2 h _ e
      · refine zF_blk (m := []) (d := 0) (b := B26_4) (gs := [¬ (¬ r1 = 0)]) (c' := (40, [some (15, 0), some (0, v1), some (0, v2)], [], (h, hm, o))) K26_4 rfl ⟨q4, trivial⟩ ?_
        obtain ⟨q5, e⟩ := zG_s e
        obtain ⟨r2, q6, e⟩ := zB_s e
        refine zF_blk (m := []) (d := 0) (b := B26_2) (gs := [0 ≤ (h 328 0 0) ∧ (h 328 0 0) < 940]) (c' := (49, [some (15, 0), some (0, v1), some (0, v2)], [(0, (h 320 0 (h 328 0 0)))], (h, hm, o))) K26_2 rfl ⟨q5, trivial⟩ ?_
        refine zF_call (k := 25) (cl := 5) (n := 1) (i := .invokestatic 76) (args := [(0, (h 320 0 (h 328 0 0)))]) (rest := []) (g1 := (h, hm, o)) (r1 := some (0, r2)) (by decide +kernel) rfl rfl rfl (st' := [(0, r2)]) rfl (S25 (Nat.le_trans (by decide) hd) (h 320 0 (h 328 0 0)) h _ q6) ?_
        rcases zI_s e with ⟨q7, e⟩ | ⟨q7, e⟩
        · refine zF_blk (m := []) (d := 1) (b := B26_3) (gs := [r2 = 0]) (c' := (155, [some (15, 0), some (0, v1), some (0, v2)], [], (h, hm, o))) K26_3 rfl ⟨q7, trivial⟩ ?_
          exact T26_1 hd v1 v2 h _ e
        · refine zF_blk (m := []) (d := 0) (b := B26_3) (gs := [¬ (r2 = 0)]) (c' := (55, [some (15, 0), some (0, v1), some (0, v2)], [], (h, hm, o))) K26_3 rfl ⟨q7, trivial⟩ ?_
          exact T26_2 hd (F26_0 n) hk0 v1 v2 h _ e
/-- EchoVale$Reader.readRun()V -/
def F26 (h : zHC) : Option zHC := F26_0 zFu 0 0 (hset (hset h 327 0 0 0) 326 0 0 0)
set_option maxRecDepth 100000 in
theorem S26 {spec : zRn zH2} {hm : zHM} {o : Int → Int} {d : Nat} (hd : 2 ≤ d) (h : zHC) (v : zHC) (e : F26 h = some v) : zRu2 spec d 26 [(15, 0)] (h, hm, o) none (v, hm, o) := by
  refine zF_in (D := 1) (mx := 3) (L := [some (15, 0), none, none]) (by decide +kernel) rfl rfl hd (fun d hd => ?_)
  unfold F26 at e
  refine zF_blk (m := []) (d := 0) (b := B26_0) (gs := []) (c' := (14, [some (15, 0), some (0, 0), some (0, 0)], [], ((hset (hset h 327 0 0 0) 326 0 0 0), hm, o))) K26_0 rfl trivial ?_
  exact T26_0 hd zFu 0 0 (hset (hset h 327 0 0 0) 326 0 0 0) _ e
