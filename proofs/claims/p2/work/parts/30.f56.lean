/-! Functions of the methods, by wip/gen/lift.py. -/
def B281b_0 : List zRow := [(0, .aload_n 0, 1, (0, 0, 0))]
theorem K281b_0 : zRk 281 B281b_0 = true := by decide +kernel
def B281b_1 : List zRow := [(9, .aload_n 0, 1, (0, 0, 0)), (10, .getfield 400, 3, (12, 49, 0)), (13, .istore_n 1, 1, (0, 0, 0))]
theorem K281b_1 : zRk 281 B281b_1 = true := by decide +kernel
def B281b_2 : List zRow := [(7, .iconst 0, 1, (0, 0, 0))]
theorem K281b_2 : zRk 281 B281b_2 = true := by decide +kernel
def B281b_3 : List zRow := [(4, .ifCond .ne 5, 3, (0, 0, 0))]
theorem K281b_3 : zRk 281 B281b_3 = true := by decide +kernel
def B281b_4 : List zRow := [(14, .aload_n 0, 1, (0, 0, 0)), (15, .bipush 10, 2, (0, 0, 0))]
theorem K281b_4 : zRk 281 B281b_4 = true := by decide +kernel
def B281b_5 : List zRow := [(51, .aload_n 0, 1, (0, 0, 0)), (52, .iload_n 1, 1, (0, 0, 0)), (53, .putfield 400, 3, (12, 49, 0)), (56, .iconst 1, 1, (0, 0, 0))]
theorem K281b_5 : zRk 281 B281b_5 = true := by decide +kernel
def B281b_6 : List zRow := [(23, .aload_n 0, 1, (0, 0, 0))]
theorem K281b_6 : zRk 281 B281b_6 = true := by decide +kernel
def B281b_7 : List zRow := [(27, .aload_n 0, 1, (0, 0, 0))]
theorem K281b_7 : zRk 281 B281b_7 = true := by decide +kernel
def B281b_8 : List zRow := [(36, .aload_n 0, 1, (0, 0, 0)), (37, .iconst 3, 1, (0, 0, 0)), (38, .iload_n 1, 1, (0, 0, 0)), (39, .aload_n 0, 1, (0, 0, 0)), (40, .getfield 400, 3, (12, 49, 0)), (43, .iconst 0, 1, (0, 0, 0))]
theorem K281b_8 : zRk 281 B281b_8 = true := by decide +kernel
def B281b_9 : List zRow := [(47, .istore_n 1, 1, (0, 0, 0)), (48, .goto (-34), 3, (0, 0, 0))]
theorem K281b_9 : zRk 281 B281b_9 = true := by decide +kernel
def B281b_10 : List zRow := [(34, .iconst 0, 1, (0, 0, 0))]
theorem K281b_10 : zRk 281 B281b_10 = true := by decide +kernel
def B281b_11 : List zRow := [(31, .ifCond .ne 5, 3, (0, 0, 0))]
theorem K281b_11 : zRk 281 B281b_11 = true := by decide +kernel
def B281b_12 : List zRow := [(20, .ifCond .eq 31, 3, (0, 0, 0))]
theorem K281b_12 : zRk 281 B281b_12 = true := by decide +kernel
def F281b_0 (kR : zHM → Option (Int × zHM)) : Nat → Int → zHM → Option (Int × zHM)
  | 0, _, _ => none
  | n + 1, v1, h => (F181 10 h).bind fun r1 => if r1 = 0 then some (1, (mset h 49 0 v1)) else (F176 h).bind fun r2 => (F282b kR r2).bind fun r3 => if ¬ r3.1 = 0 then (F286 3 v1 (r3.2 49 0) 0 r3.2).bind fun r4 => (F281b_0 kR n) r4.1 r4.2 else some (0, r3.2)
set_option maxRecDepth 100000 in
theorem T281b_0 {spec : zRn zH2} {hc : zHC} {o : Int → Int} {d : Nat} {DR : Nat} (hd : DR + 4 ≤ d) (kR : zHM → Option (Int × zHM)) (hkR : ∀ (d' : Nat), DR ≤ d' → ∀ (h : zHM) (v : (Int × zHM)), kR h = some v → zRu2 spec d' 283 [(22, 0)] (hc, h, o) (some (0, v.1)) (hc, v.2, o)) : ∀ (n : Nat) (v1 : Int) (h : zHM) (v : (Int × zHM)), F281b_0 kR n v1 h = some v → zFin 0 (fun _ => 0) (zRu2 spec d) 281 (some (0, v.1)) (hc, v.2, o) (14, [some (22, 0), some (0, v1)], [], (hc, h, o)) := by
  intro n
  induction n with
  | zero => intro v1 h v e; unfold F281b_0 at e; cases e
  | succ n hk0 =>
    intro v1 h v e
    unfold F281b_0 at e
    obtain ⟨r1, q1, e⟩ := zB_s e
    refine zF_blk (m := []) (d := 0) (b := B281b_4) (gs := []) (c' := (17, [some (22, 0), some (0, v1)], [(0, 10), (22, 0)], (hc, h, o))) K281b_4 rfl trivial ?_
    refine zF_call (k := 181) (cl := 12) (n := 2) (i := .invokevirtual 199) (args := [(22, 0), (0, 10)]) (rest := []) (g1 := (hc, h, o)) (r1 := some (0, r1)) (by decide +kernel) rfl rfl rfl (st' := [(0, r1)]) rfl (S181 (by omega) 10 h _ q1) ?_
    rcases zI_s e with ⟨q2, e⟩ | ⟨q2, e⟩
    · refine zF_blk (m := []) (d := 1) (b := B281b_12) (gs := [r1 = 0]) (c' := (51, [some (22, 0), some (0, v1)], [], (hc, h, o))) K281b_12 rfl ⟨q2, trivial⟩ ?_
      refine zF_blk (m := []) (d := 0) (b := B281b_5) (gs := []) (c' := (57, [some (22, 0), some (0, v1)], [(0, 1)], (hc, (mset h 49 0 v1), o))) K281b_5 rfl trivial ?_
      exact zF_rbM (by decide +kernel) (Or.inr rfl) e
    · refine zF_blk (m := []) (d := 0) (b := B281b_12) (gs := [¬ (r1 = 0)]) (c' := (23, [some (22, 0), some (0, v1)], [], (hc, h, o))) K281b_12 rfl ⟨q2, trivial⟩ ?_
      obtain ⟨r2, q3, e⟩ := zB_s e
      refine zF_blk (m := []) (d := 0) (b := B281b_6) (gs := []) (c' := (24, [some (22, 0), some (0, v1)], [(22, 0)], (hc, h, o))) K281b_6 rfl trivial ?_
      refine zF_call (k := 176) (cl := 12) (n := 1) (i := .invokevirtual 162) (args := [(22, 0)]) (rest := []) (g1 := (hc, r2, o)) (r1 := none) (by decide +kernel) rfl rfl rfl (st' := []) rfl (S176 (by omega)  h _ q3) ?_
      obtain ⟨r3, q4, e⟩ := zB_s e
      refine zF_blk (m := []) (d := 0) (b := B281b_7) (gs := []) (c' := (28, [some (22, 0), some (0, v1)], [(22, 0)], (hc, r2, o))) K281b_7 rfl trivial ?_
      refine zF_call (k := 282) (cl := 12) (n := 1) (i := .invokevirtual 397) (args := [(22, 0)]) (rest := []) (g1 := (hc, r3.2, o)) (r1 := some (0, r3.1)) (by decide +kernel) rfl rfl rfl (st' := [(0, r3.1)]) rfl (S282b (by omega) kR hkR  r2 _ q4) ?_
      rcases zI_s e with ⟨q5, e⟩ | ⟨q5, e⟩
      · refine zF_blk (m := []) (d := 1) (b := B281b_11) (gs := [¬ r3.1 = 0]) (c' := (36, [some (22, 0), some (0, v1)], [], (hc, r3.2, o))) K281b_11 rfl ⟨q5, trivial⟩ ?_
        obtain ⟨r4, q6, e⟩ := zB_s e
        refine zF_blk (m := []) (d := 0) (b := B281b_8) (gs := []) (c' := (44, [some (22, 0), some (0, v1)], [(0, 0), (0, (r3.2 49 0)), (0, v1), (0, 3), (22, 0)], (hc, r3.2, o))) K281b_8 rfl trivial ?_
        refine zF_call (k := 286) (cl := 12) (n := 5) (i := .invokevirtual 403) (args := [(22, 0), (0, 3), (0, v1), (0, (r3.2 49 0)), (0, 0)]) (rest := []) (g1 := (hc, r4.2, o)) (r1 := some (0, r4.1)) (by decide +kernel) rfl rfl rfl (st' := [(0, r4.1)]) rfl (S286 (by omega) 3 v1 (r3.2 49 0) 0 r3.2 _ q6) ?_
        refine zF_blk (m := []) (d := 0) (b := B281b_9) (gs := []) (c' := (14, [some (22, 0), some (0, r4.1)], [], (hc, r4.2, o))) K281b_9 rfl trivial ?_
        exact hk0 r4.1 r4.2 _ e
      · refine zF_blk (m := []) (d := 0) (b := B281b_11) (gs := [¬ (¬ r3.1 = 0)]) (c' := (34, [some (22, 0), some (0, v1)], [], (hc, r3.2, o))) K281b_11 rfl ⟨q5, trivial⟩ ?_
        refine zF_blk (m := []) (d := 0) (b := B281b_10) (gs := []) (c' := (35, [some (22, 0), some (0, v1)], [(0, 0)], (hc, r3.2, o))) K281b_10 rfl trivial ?_
        exact zF_rbM (by decide +kernel) (Or.inl rfl) e
/-- EchoValeModel.readOr()Z -/
def F281b (kR : zHM → Option (Int × zHM)) (h : zHM) : Option (Int × zHM) := (F282b kR h).bind fun r1 => if ¬ r1.1 = 0 then F281b_0 kR zFu (r1.2 49 0) r1.2 else some (0, r1.2)
set_option maxRecDepth 100000 in
theorem S281b {spec : zRn zH2} {hc : zHC} {o : Int → Int} {d : Nat} {DR : Nat} (hd : DR + 5 ≤ d) (kR : zHM → Option (Int × zHM)) (hkR : ∀ (d' : Nat), DR ≤ d' → ∀ (h : zHM) (v : (Int × zHM)), kR h = some v → zRu2 spec d' 283 [(22, 0)] (hc, h, o) (some (0, v.1)) (hc, v.2, o)) (h : zHM) (v : (Int × zHM)) (e : F281b kR h = some v) : zRu2 spec d 281 [(22, 0)] (hc, h, o) (some (0, v.1)) (hc, v.2, o) := by
  refine zF_in (D := DR + 4) (mx := 2) (L := [some (22, 0), none]) (by decide +kernel) rfl rfl hd (fun d hd => ?_)
  unfold F281b at e
  obtain ⟨r1, q1, e⟩ := zB_s e
  refine zF_blk (m := []) (d := 0) (b := B281b_0) (gs := []) (c' := (1, [some (22, 0), none], [(22, 0)], (hc, h, o))) K281b_0 rfl trivial ?_
  refine zF_call (k := 282) (cl := 12) (n := 1) (i := .invokevirtual 397) (args := [(22, 0)]) (rest := []) (g1 := (hc, r1.2, o)) (r1 := some (0, r1.1)) (by decide +kernel) rfl rfl rfl (st' := [(0, r1.1)]) rfl (S282b (by omega) kR hkR  h _ q1) ?_
  rcases zI_s e with ⟨q2, e⟩ | ⟨q2, e⟩
  · refine zF_blk (m := []) (d := 1) (b := B281b_3) (gs := [¬ r1.1 = 0]) (c' := (9, [some (22, 0), none], [], (hc, r1.2, o))) K281b_3 rfl ⟨q2, trivial⟩ ?_
    refine zF_blk (m := []) (d := 0) (b := B281b_1) (gs := []) (c' := (14, [some (22, 0), some (0, (r1.2 49 0))], [], (hc, r1.2, o))) K281b_1 rfl trivial ?_
    exact T281b_0 hd kR hkR zFu (r1.2 49 0) r1.2 _ e
  · refine zF_blk (m := []) (d := 0) (b := B281b_3) (gs := [¬ (¬ r1.1 = 0)]) (c' := (7, [some (22, 0), none], [], (hc, r1.2, o))) K281b_3 rfl ⟨q2, trivial⟩ ?_
    refine zF_blk (m := []) (d := 0) (b := B281b_2) (gs := []) (c' := (8, [some (22, 0), none], [(0, 0)], (hc, r1.2, o))) K281b_2 rfl trivial ?_
    exact zF_rbM (by decide +kernel) (Or.inl rfl) e
def B284_0 : List zRow := [(0, .aload_n 0, 1, (0, 0, 0))]
theorem K284_0 : zRk 284 B284_0 = true := by decide +kernel
def B284_1 : List zRow := [(9, .aload_n 0, 1, (0, 0, 0)), (10, .bipush 41, 2, (0, 0, 0))]
theorem K284_1 : zRk 284 B284_1 = true := by decide +kernel
def B284_2 : List zRow := [(24, .aload_n 0, 1, (0, 0, 0))]
theorem K284_2 : zRk 284 B284_2 = true := by decide +kernel
def B284_3 : List zRow := [(28, .iconst 1, 1, (0, 0, 0))]
theorem K284_3 : zRk 284 B284_3 = true := by decide +kernel
def B284_4 : List zRow := [(18, .aload_n 0, 1, (0, 0, 0)), (19, .iconst 1, 1, (0, 0, 0))]
theorem K284_4 : zRk 284 B284_4 = true := by decide +kernel
def B284_5 : List zRow := [(15, .ifCond .ne 9, 3, (0, 0, 0))]
theorem K284_5 : zRk 284 B284_5 = true := by decide +kernel
def B284_6 : List zRow := [(7, .iconst 0, 1, (0, 0, 0))]
theorem K284_6 : zRk 284 B284_6 = true := by decide +kernel
def B284_7 : List zRow := [(4, .ifCond .ne 5, 3, (0, 0, 0))]
theorem K284_7 : zRk 284 B284_7 = true := by decide +kernel
/-- EchoValeModel.readBracket()Z -/
def F284 (kR : zHM → Option (Int × zHM)) (h : zHM) : Option (Int × zHM) := (F281b kR h).bind fun r1 => if ¬ r1.1 = 0 then (F202 41 r1.2).bind fun r2 => if ¬ r2 = 0 then (F176 r1.2).bind fun r3 => some (1, r3) else (F185 1 r1.2).bind fun r4 => zG (r4.1 = 0 ∨ r4.1 = 1) (some (r4.1, r4.2)) else some (0, r1.2)
set_option maxRecDepth 100000 in
theorem S284 {spec : zRn zH2} {hc : zHC} {o : Int → Int} {d : Nat} {DR : Nat} (hd : DR + 6 ≤ d) (kR : zHM → Option (Int × zHM)) (hkR : ∀ (d' : Nat), DR ≤ d' → ∀ (h : zHM) (v : (Int × zHM)), kR h = some v → zRu2 spec d' 283 [(22, 0)] (hc, h, o) (some (0, v.1)) (hc, v.2, o)) (h : zHM) (v : (Int × zHM)) (e : F284 kR h = some v) : zRu2 spec d 284 [(22, 0)] (hc, h, o) (some (0, v.1)) (hc, v.2, o) := by
  refine zF_in (D := DR + 5) (mx := 1) (L := [some (22, 0)]) (by decide +kernel) rfl rfl hd (fun d hd => ?_)
  unfold F284 at e
  obtain ⟨r1, q1, e⟩ := zB_s e
  refine zF_blk (m := []) (d := 0) (b := B284_0) (gs := []) (c' := (1, [some (22, 0)], [(22, 0)], (hc, h, o))) K284_0 rfl trivial ?_
  refine zF_call (k := 281) (cl := 12) (n := 1) (i := .invokevirtual 428) (args := [(22, 0)]) (rest := []) (g1 := (hc, r1.2, o)) (r1 := some (0, r1.1)) (by decide +kernel) rfl rfl rfl (st' := [(0, r1.1)]) rfl (S281b (by omega) kR hkR  h _ q1) ?_
  rcases zI_s e with ⟨q2, e⟩ | ⟨q2, e⟩
  · refine zF_blk (m := []) (d := 1) (b := B284_7) (gs := [¬ r1.1 = 0]) (c' := (9, [some (22, 0)], [], (hc, r1.2, o))) K284_7 rfl ⟨q2, trivial⟩ ?_
    obtain ⟨r2, q3, e⟩ := zB_s e
    refine zF_blk (m := []) (d := 0) (b := B284_1) (gs := []) (c' := (12, [some (22, 0)], [(0, 41), (22, 0)], (hc, r1.2, o))) K284_1 rfl trivial ?_
    refine zF_call (k := 202) (cl := 12) (n := 2) (i := .invokevirtual 165) (args := [(22, 0), (0, 41)]) (rest := []) (g1 := (hc, r1.2, o)) (r1 := some (0, r2)) (by decide +kernel) rfl rfl rfl (st' := [(0, r2)]) rfl (S202 (by omega) 41 r1.2 _ q3) ?_
    rcases zI_s e with ⟨q4, e⟩ | ⟨q4, e⟩
    · refine zF_blk (m := []) (d := 1) (b := B284_5) (gs := [¬ r2 = 0]) (c' := (24, [some (22, 0)], [], (hc, r1.2, o))) K284_5 rfl ⟨q4, trivial⟩ ?_
      obtain ⟨r3, q5, e⟩ := zB_s e
      refine zF_blk (m := []) (d := 0) (b := B284_2) (gs := []) (c' := (25, [some (22, 0)], [(22, 0)], (hc, r1.2, o))) K284_2 rfl trivial ?_
      refine zF_call (k := 176) (cl := 12) (n := 1) (i := .invokevirtual 162) (args := [(22, 0)]) (rest := []) (g1 := (hc, r3, o)) (r1 := none) (by decide +kernel) rfl rfl rfl (st' := []) rfl (S176 (by omega)  r1.2 _ q5) ?_
      refine zF_blk (m := []) (d := 0) (b := B284_3) (gs := []) (c' := (29, [some (22, 0)], [(0, 1)], (hc, r3, o))) K284_3 rfl trivial ?_
      exact zF_rbM (by decide +kernel) (Or.inr rfl) e
    · refine zF_blk (m := []) (d := 0) (b := B284_5) (gs := [¬ (¬ r2 = 0)]) (c' := (18, [some (22, 0)], [], (hc, r1.2, o))) K284_5 rfl ⟨q4, trivial⟩ ?_
      obtain ⟨r4, q6, e⟩ := zB_s e
      refine zF_blk (m := []) (d := 0) (b := B284_4) (gs := []) (c' := (20, [some (22, 0)], [(0, 1), (22, 0)], (hc, r1.2, o))) K284_4 rfl trivial ?_
      refine zF_call (k := 185) (cl := 12) (n := 2) (i := .invokevirtual 148) (args := [(22, 0), (0, 1)]) (rest := []) (g1 := (hc, r4.2, o)) (r1 := some (0, r4.1)) (by decide +kernel) rfl rfl rfl (st' := [(0, r4.1)]) rfl (S185 (by omega) 1 r1.2 _ q6) ?_
      obtain ⟨q7, e⟩ := zG_s e
      exact zF_rbM (by decide +kernel) q7 e
  · refine zF_blk (m := []) (d := 0) (b := B284_7) (gs := [¬ (¬ r1.1 = 0)]) (c' := (7, [some (22, 0)], [], (hc, r1.2, o))) K284_7 rfl ⟨q2, trivial⟩ ?_
    refine zF_blk (m := []) (d := 0) (b := B284_6) (gs := []) (c' := (8, [some (22, 0)], [(0, 0)], (hc, r1.2, o))) K284_6 rfl trivial ?_
    exact zF_rbM (by decide +kernel) (Or.inl rfl) e
def B283_0 : List zRow := [(0, .aload_n 0, 1, (0, 0, 0)), (1, .bipush 40, 2, (0, 0, 0))]
theorem K283_0 : zRk 283 B283_0 = true := by decide +kernel
def B283_1 : List zRow := [(6, .istore_n 1, 1, (0, 0, 0)), (7, .bipush 12, 2, (0, 0, 0)), (9, .istore_n 2, 1, (0, 0, 0))]
theorem K283_1 : zRk 283 B283_1 = true := by decide +kernel
def B283_2 : List zRow := [(16, .aload_n 0, 1, (0, 0, 0)), (17, .iload_n 2, 1, (0, 0, 0))]
theorem K283_2 : zRk 283 B283_2 = true := by decide +kernel
def B283_3 : List zRow := [(24, .iinc 2 1, 3, (0, 0, 0)), (27, .goto (-17), 3, (0, 0, 0))]
theorem K283_3 : zRk 283 B283_3 = true := by decide +kernel
def B283_4 : List zRow := [(21, .ifCond .ne 9, 3, (0, 0, 0))]
theorem K283_4 : zRk 283 B283_4 = true := by decide +kernel
def B283_5 : List zRow := [(10, .iload_n 2, 1, (0, 0, 0)), (11, .bipush 20, 2, (0, 0, 0)), (13, .if_icmp .gt 17, 3, (0, 0, 0))]
theorem K283_5 : zRk 283 B283_5 = true := by decide +kernel
def B283_6 : List zRow := [(40, .aload_n 0, 1, (0, 0, 0)), (41, .iconst 1, 1, (0, 0, 0))]
theorem K283_6 : zRk 283 B283_6 = true := by decide +kernel
def B283_7 : List zRow := [(34, .iload_n 2, 1, (0, 0, 0)), (35, .bipush 20, 2, (0, 0, 0)), (37, .if_icmp .le 9, 3, (0, 0, 0))]
theorem K283_7 : zRk 283 B283_7 = true := by decide +kernel
def B283_8 : List zRow := [(30, .iload_n 1, 1, (0, 0, 0)), (31, .ifCond .ne 15, 3, (0, 0, 0))]
theorem K283_8 : zRk 283 B283_8 = true := by decide +kernel
def B283_9 : List zRow := [(70, .aload_n 0, 1, (0, 0, 0)), (71, .dup, 1, (0, 0, 0)), (72, .getfield 410, 3, (12, 47, 0)), (75, .iconst 1, 1, (0, 0, 0)), (76, .iadd, 1, (0, 0, 0)), (77, .putfield 410, 3, (12, 47, 0)), (80, .aload_n 0, 1, (0, 0, 0)), (81, .dup, 1, (0, 0, 0)), (82, .getfield 413, 3, (12, 48, 0)), (85, .iconst 1, 1, (0, 0, 0)), (86, .iadd, 1, (0, 0, 0)), (87, .putfield 413, 3, (12, 48, 0)), (90, .aload_n 0, 1, (0, 0, 0))]
theorem K283_9 : zRk 283 B283_9 = true := by decide +kernel
def B283_10 : List zRow := [(160, .aload_n 0, 1, (0, 0, 0)), (161, .iload_n 2, 1, (0, 0, 0))]
theorem K283_10 : zRk 283 B283_10 = true := by decide +kernel
def B283_11 : List zRow := [(152, .aload_n 0, 1, (0, 0, 0)), (153, .iload_n 2, 1, (0, 0, 0))]
theorem K283_11 : zRk 283 B283_11 = true := by decide +kernel
def B283_12 : List zRow := [(157, .goto 8, 3, (0, 0, 0))]
theorem K283_12 : zRk 283 B283_12 = true := by decide +kernel
def B283_13 : List zRow := [(146, .iload_n 2, 1, (0, 0, 0)), (147, .bipush 17, 2, (0, 0, 0)), (149, .if_icmp .ge 11, 3, (0, 0, 0))]
theorem K283_13 : zRk 283 B283_13 = true := by decide +kernel
def B283_14 : List zRow := [(128, .aload_n 0, 1, (0, 0, 0)), (129, .aload_n 0, 1, (0, 0, 0)), (130, .bipush 50, 2, (0, 0, 0)), (132, .iload_n 2, 1, (0, 0, 0))]
theorem K283_14 : zRk 283 B283_14 = true := by decide +kernel
def B283_15 : List zRow := [(133, .iadd, 1, (0, 0, 0)), (134, .iconst 0, 1, (0, 0, 0)), (135, .iconst 0, 1, (0, 0, 0)), (136, .iconst 0, 1, (0, 0, 0))]
theorem K283_15 : zRk 283 B283_15 = true := by decide +kernel
def B283_16 : List zRow := [(140, .putfield 400, 3, (12, 49, 0)), (143, .goto 23, 3, (0, 0, 0))]
theorem K283_16 : zRk 283 B283_16 = true := by decide +kernel
def B283_17 : List zRow := [(122, .iload_n 2, 1, (0, 0, 0)), (123, .bipush 15, 2, (0, 0, 0)), (125, .if_icmp .ge 21, 3, (0, 0, 0))]
theorem K283_17 : zRk 283 B283_17 = true := by decide +kernel
def B283_18 : List zRow := [(114, .aload_n 0, 1, (0, 0, 0))]
theorem K283_18 : zRk 283 B283_18 = true := by decide +kernel
def B283_19 : List zRow := [(118, .istore_n 3, 1, (0, 0, 0)), (119, .goto 47, 3, (0, 0, 0))]
theorem K283_19 : zRk 283 B283_19 = true := by decide +kernel
def B283_20 : List zRow := [(108, .iload_n 2, 1, (0, 0, 0)), (109, .bipush 12, 2, (0, 0, 0)), (111, .if_icmp .ne 11, 3, (0, 0, 0))]
theorem K283_20 : zRk 283 B283_20 = true := by decide +kernel
def B283_21 : List zRow := [(100, .aload_n 0, 1, (0, 0, 0))]
theorem K283_21 : zRk 283 B283_21 = true := by decide +kernel
def B283_22 : List zRow := [(104, .istore_n 3, 1, (0, 0, 0)), (105, .goto 61, 3, (0, 0, 0))]
theorem K283_22 : zRk 283 B283_22 = true := by decide +kernel
def B283_23 : List zRow := [(94, .iconst 1, 1, (0, 0, 0)), (95, .istore_n 3, 1, (0, 0, 0)), (96, .iload_n 1, 1, (0, 0, 0)), (97, .ifCond .eq 11, 3, (0, 0, 0))]
theorem K283_23 : zRk 283 B283_23 = true := by decide +kernel
def B283_24 : List zRow := [(55, .aload_n 0, 1, (0, 0, 0)), (56, .getfield 413, 3, (12, 48, 0)), (59, .bipush 8, 2, (0, 0, 0)), (61, .if_icmp .ne 9, 3, (0, 0, 0))]
theorem K283_24 : zRk 283 B283_24 = true := by decide +kernel
def B283_25 : List zRow := [(46, .aload_n 0, 1, (0, 0, 0)), (47, .getfield 410, 3, (12, 47, 0)), (50, .bipush 20, 2, (0, 0, 0)), (52, .if_icmp .eq 12, 3, (0, 0, 0))]
theorem K283_25 : zRk 283 B283_25 = true := by decide +kernel
def B283_26 : List zRow := [(166, .aload_n 0, 1, (0, 0, 0)), (167, .dup, 1, (0, 0, 0)), (168, .getfield 413, 3, (12, 48, 0)), (171, .iconst 1, 1, (0, 0, 0)), (172, .isub, 1, (0, 0, 0)), (173, .putfield 413, 3, (12, 48, 0)), (176, .iload_n 3, 1, (0, 0, 0))]
theorem K283_26 : zRk 283 B283_26 = true := by decide +kernel
def B283_27 : List zRow := [(165, .istore_n 3, 1, (0, 0, 0))]
theorem K283_27 : zRk 283 B283_27 = true := by decide +kernel
def B283_28 : List zRow := [(64, .aload_n 0, 1, (0, 0, 0)), (65, .iconst 4, 1, (0, 0, 0))]
theorem K283_28 : zRk 283 B283_28 = true := by decide +kernel
def F283_3 (kR : zHM → Option (Int × zHM)) (h : zHM) : Option (Int × zHM) := (F185 4 h).bind fun r1 => zG (r1.1 = 0 ∨ r1.1 = 1) (some (r1.1, r1.2))
set_option maxRecDepth 100000 in
theorem T283_3 {spec : zRn zH2} {hc : zHC} {o : Int → Int} {d : Nat} {DR : Nat} (hd : DR + 6 ≤ d) (kR : zHM → Option (Int × zHM)) (hkR : ∀ (d' : Nat), DR ≤ d' → ∀ (h : zHM) (v : (Int × zHM)), kR h = some v → zRu2 spec d' 283 [(22, 0)] (hc, h, o) (some (0, v.1)) (hc, v.2, o)) (h : zHM) (v : (Int × zHM)) (e : F283_3 kR h = some v) : zFin 0 (fun _ => 0) (zRu2 spec d) 283 (some (0, v.1)) (hc, v.2, o) (64, [some (22, 0), none, none, none], [], (hc, h, o)) := by
  unfold F283_3 at e
  obtain ⟨r1, q1, e⟩ := zB_s e
  refine zF_blk (m := []) (d := 0) (b := B283_28) (gs := []) (c' := (66, [some (22, 0), none, none, none], [(0, 4), (22, 0)], (hc, h, o))) K283_28 rfl trivial ?_
  refine zF_call (k := 185) (cl := 12) (n := 2) (i := .invokevirtual 148) (args := [(22, 0), (0, 4)]) (rest := []) (g1 := (hc, r1.2, o)) (r1 := some (0, r1.1)) (by decide +kernel) rfl rfl rfl (st' := [(0, r1.1)]) rfl (S185 (by omega) 4 h _ q1) ?_
  obtain ⟨q2, e⟩ := zG_s e
  exact zF_rbM (by decide +kernel) q2 e
def F283_5 (kR : zHM → Option (Int × zHM)) (v3 : Int) (h : zHM) : Option (Int × zHM) := zG (v3 = 0 ∨ v3 = 1) (some (v3, (mset h 48 0 (wsub (h 48 0) 1))))
set_option maxRecDepth 100000 in
theorem T283_5 {spec : zRn zH2} {hc : zHC} {o : Int → Int} {d : Nat} {DR : Nat} (hd : DR + 6 ≤ d) (kR : zHM → Option (Int × zHM)) (hkR : ∀ (d' : Nat), DR ≤ d' → ∀ (h : zHM) (v : (Int × zHM)), kR h = some v → zRu2 spec d' 283 [(22, 0)] (hc, h, o) (some (0, v.1)) (hc, v.2, o)) (v3 : Int) (h : zHM) (v : (Int × zHM)) (e : F283_5 kR v3 h = some v) : zFin 0 (fun _ => 0) (zRu2 spec d) 283 (some (0, v.1)) (hc, v.2, o) (166, [some (22, 0), none, none, some (0, v3)], [], (hc, h, o)) := by
  unfold F283_5 at e
  obtain ⟨q1, e⟩ := zG_s e
  refine zF_blk (m := []) (d := 0) (b := B283_26) (gs := []) (c' := (177, [some (22, 0), none, none, some (0, v3)], [(0, v3)], (hc, (mset h 48 0 (wsub (h 48 0) 1)), o))) K283_26 rfl trivial ?_
  exact zF_rbM (by decide +kernel) q1 e
def F283_4 (kR : zHM → Option (Int × zHM)) (s0 : Int) (h : zHM) : Option (Int × zHM) := F283_5 kR s0 h
set_option maxRecDepth 100000 in
theorem T283_4 {spec : zRn zH2} {hc : zHC} {o : Int → Int} {d : Nat} {DR : Nat} (hd : DR + 6 ≤ d) (kR : zHM → Option (Int × zHM)) (hkR : ∀ (d' : Nat), DR ≤ d' → ∀ (h : zHM) (v : (Int × zHM)), kR h = some v → zRu2 spec d' 283 [(22, 0)] (hc, h, o) (some (0, v.1)) (hc, v.2, o)) (s0 : Int) (h : zHM) (v : (Int × zHM)) (e : F283_4 kR s0 h = some v) : zFin 0 (fun _ => 0) (zRu2 spec d) 283 (some (0, v.1)) (hc, v.2, o) (165, [some (22, 0), none, none, none], [(0, s0)], (hc, h, o)) := by
  unfold F283_4 at e
  refine zF_blk (m := []) (d := 0) (b := B283_27) (gs := []) (c' := (166, [some (22, 0), none, none, some (0, s0)], [], (hc, h, o))) K283_27 rfl trivial ?_
  exact T283_5 hd kR hkR s0 h _ e
def F283_2 (kR : zHM → Option (Int × zHM)) (v1 : Int) (v2 : Int) (h : zHM) : Option (Int × zHM) := if (h 47 0) = 20 then F283_3 kR h else if ¬ (h 48 0) = 8 then (F176 (mset (mset h 47 0 (wadd (h 47 0) 1)) 48 0 (wadd (h 48 0) 1))).bind fun r1 => if v1 = 0 then if ¬ v2 = 12 then if 15 ≤ v2 then if 17 ≤ v2 then (F288 v2 r1).bind fun r2 => F283_4 kR r2.1 r2.2 else (F287 v2 r1).bind fun r3 => F283_4 kR r3.1 r3.2 else (F286 (wadd 50 v2) 0 0 0 r1).bind fun r4 => F283_5 kR 1 (mset r4.2 49 0 r4.1) else (F285 kR r1).bind fun r5 => F283_5 kR r5.1 r5.2 else (F284 kR r1).bind fun r6 => F283_5 kR r6.1 r6.2 else F283_3 kR h
set_option maxRecDepth 100000 in
theorem T283_2 {spec : zRn zH2} {hc : zHC} {o : Int → Int} {d : Nat} {DR : Nat} (hd : DR + 6 ≤ d) (kR : zHM → Option (Int × zHM)) (hkR : ∀ (d' : Nat), DR ≤ d' → ∀ (h : zHM) (v : (Int × zHM)), kR h = some v → zRu2 spec d' 283 [(22, 0)] (hc, h, o) (some (0, v.1)) (hc, v.2, o)) (v1 : Int) (v2 : Int) (h : zHM) (v : (Int × zHM)) (e : F283_2 kR v1 v2 h = some v) : zFin 0 (fun _ => 0) (zRu2 spec d) 283 (some (0, v.1)) (hc, v.2, o) (46, [some (22, 0), some (0, v1), some (0, v2), none], [], (hc, h, o)) := by
  unfold F283_2 at e
  rcases zI_s e with ⟨q1, e⟩ | ⟨q1, e⟩
  · refine zF_blk (m := []) (d := 1) (b := B283_25) (gs := [(h 47 0) = 20]) (c' := (64, [some (22, 0), some (0, v1), some (0, v2), none], [], (hc, h, o))) K283_25 rfl ⟨q1, trivial⟩ ?_
    refine zF_blk (m := [true, false, false, false]) (d := 0) (b := []) (gs := []) (c' := (64, [some (22, 0), none, none, none], [], (hc, h, o))) rfl rfl trivial ?_
    exact T283_3 hd kR hkR h _ e
  · refine zF_blk (m := []) (d := 0) (b := B283_25) (gs := [¬ ((h 47 0) = 20)]) (c' := (55, [some (22, 0), some (0, v1), some (0, v2), none], [], (hc, h, o))) K283_25 rfl ⟨q1, trivial⟩ ?_
    rcases zI_s e with ⟨q2, e⟩ | ⟨q2, e⟩
    · refine zF_blk (m := []) (d := 1) (b := B283_24) (gs := [¬ (h 48 0) = 8]) (c' := (70, [some (22, 0), some (0, v1), some (0, v2), none], [], (hc, h, o))) K283_24 rfl ⟨q2, trivial⟩ ?_
      obtain ⟨r1, q3, e⟩ := zB_s e
      refine zF_blk (m := []) (d := 0) (b := B283_9) (gs := []) (c' := (91, [some (22, 0), some (0, v1), some (0, v2), none], [(22, 0)], (hc, (mset (mset h 47 0 (wadd (h 47 0) 1)) 48 0 (wadd (h 48 0) 1)), o))) K283_9 rfl trivial ?_
      refine zF_call (k := 176) (cl := 12) (n := 1) (i := .invokevirtual 162) (args := [(22, 0)]) (rest := []) (g1 := (hc, r1, o)) (r1 := none) (by decide +kernel) rfl rfl rfl (st' := []) rfl (S176 (by omega)  (mset (mset h 47 0 (wadd (h 47 0) 1)) 48 0 (wadd (h 48 0) 1)) _ q3) ?_
      rcases zI_s e with ⟨q4, e⟩ | ⟨q4, e⟩
      · refine zF_blk (m := []) (d := 1) (b := B283_23) (gs := [v1 = 0]) (c' := (108, [some (22, 0), some (0, v1), some (0, v2), some (0, 1)], [], (hc, r1, o))) K283_23 rfl ⟨q4, trivial⟩ ?_
        rcases zI_s e with ⟨q5, e⟩ | ⟨q5, e⟩
        · refine zF_blk (m := []) (d := 1) (b := B283_20) (gs := [¬ v2 = 12]) (c' := (122, [some (22, 0), some (0, v1), some (0, v2), some (0, 1)], [], (hc, r1, o))) K283_20 rfl ⟨q5, trivial⟩ ?_
          rcases zI_s e with ⟨q6, e⟩ | ⟨q6, e⟩
          · refine zF_blk (m := []) (d := 1) (b := B283_17) (gs := [15 ≤ v2]) (c' := (146, [some (22, 0), some (0, v1), some (0, v2), some (0, 1)], [], (hc, r1, o))) K283_17 rfl ⟨q6, trivial⟩ ?_
            rcases zI_s e with ⟨q7, e⟩ | ⟨q7, e⟩
            · refine zF_blk (m := []) (d := 1) (b := B283_13) (gs := [17 ≤ v2]) (c' := (160, [some (22, 0), some (0, v1), some (0, v2), some (0, 1)], [], (hc, r1, o))) K283_13 rfl ⟨q7, trivial⟩ ?_
              obtain ⟨r2, q8, e⟩ := zB_s e
              refine zF_blk (m := []) (d := 0) (b := B283_10) (gs := []) (c' := (162, [some (22, 0), some (0, v1), some (0, v2), some (0, 1)], [(0, v2), (22, 0)], (hc, r1, o))) K283_10 rfl trivial ?_
              refine zF_call (k := 288) (cl := 12) (n := 2) (i := .invokevirtual 425) (args := [(22, 0), (0, v2)]) (rest := []) (g1 := (hc, r2.2, o)) (r1 := some (0, r2.1)) (by decide +kernel) rfl rfl rfl (st' := [(0, r2.1)]) rfl (S288 (by omega) v2 r1 _ q8) ?_
              refine zF_blk (m := [true, false, false, false]) (d := 0) (b := []) (gs := []) (c' := (165, [some (22, 0), none, none, none], [(0, r2.1)], (hc, r2.2, o))) rfl rfl trivial ?_
              exact T283_4 hd kR hkR r2.1 r2.2 _ e
            · refine zF_blk (m := []) (d := 0) (b := B283_13) (gs := [¬ (17 ≤ v2)]) (c' := (152, [some (22, 0), some (0, v1), some (0, v2), some (0, 1)], [], (hc, r1, o))) K283_13 rfl ⟨q7, trivial⟩ ?_
              obtain ⟨r3, q9, e⟩ := zB_s e
              refine zF_blk (m := []) (d := 0) (b := B283_11) (gs := []) (c' := (154, [some (22, 0), some (0, v1), some (0, v2), some (0, 1)], [(0, v2), (22, 0)], (hc, r1, o))) K283_11 rfl trivial ?_
              refine zF_call (k := 287) (cl := 12) (n := 2) (i := .invokevirtual 422) (args := [(22, 0), (0, v2)]) (rest := []) (g1 := (hc, r3.2, o)) (r1 := some (0, r3.1)) (by decide +kernel) rfl rfl rfl (st' := [(0, r3.1)]) rfl (S287 (by omega) v2 r1 _ q9) ?_
              refine zF_blk (m := []) (d := 0) (b := B283_12) (gs := []) (c' := (165, [some (22, 0), some (0, v1), some (0, v2), some (0, 1)], [(0, r3.1)], (hc, r3.2, o))) K283_12 rfl trivial ?_
              refine zF_blk (m := [true, false, false, false]) (d := 0) (b := []) (gs := []) (c' := (165, [some (22, 0), none, none, none], [(0, r3.1)], (hc, r3.2, o))) rfl rfl trivial ?_
              exact T283_4 hd kR hkR r3.1 r3.2 _ e
          · refine zF_blk (m := []) (d := 0) (b := B283_17) (gs := [¬ (15 ≤ v2)]) (c' := (128, [some (22, 0), some (0, v1), some (0, v2), some (0, 1)], [], (hc, r1, o))) K283_17 rfl ⟨q6, trivial⟩ ?_
            refine zF_blk (m := []) (d := 0) (b := B283_14) (gs := []) (c' := (133, [some (22, 0), some (0, v1), some (0, v2), some (0, 1)], [(0, v2), (0, 50), (22, 0), (22, 0)], (hc, r1, o))) K283_14 rfl trivial ?_
            obtain ⟨r4, q10, e⟩ := zB_s e
            refine zF_blk (m := []) (d := 0) (b := B283_15) (gs := []) (c' := (137, [some (22, 0), some (0, v1), some (0, v2), some (0, 1)], [(0, 0), (0, 0), (0, 0), (0, (wadd 50 v2)), (22, 0), (22, 0)], (hc, r1, o))) K283_15 rfl trivial ?_
            refine zF_call (k := 286) (cl := 12) (n := 5) (i := .invokevirtual 403) (args := [(22, 0), (0, (wadd 50 v2)), (0, 0), (0, 0), (0, 0)]) (rest := [(22, 0)]) (g1 := (hc, r4.2, o)) (r1 := some (0, r4.1)) (by decide +kernel) rfl rfl rfl (st' := [(0, r4.1), (22, 0)]) rfl (S286 (by omega) (wadd 50 v2) 0 0 0 r1 _ q10) ?_
            refine zF_blk (m := []) (d := 0) (b := B283_16) (gs := []) (c' := (166, [some (22, 0), some (0, v1), some (0, v2), some (0, 1)], [], (hc, (mset r4.2 49 0 r4.1), o))) K283_16 rfl trivial ?_
            refine zF_blk (m := [true, false, false, true]) (d := 0) (b := []) (gs := []) (c' := (166, [some (22, 0), none, none, some (0, 1)], [], (hc, (mset r4.2 49 0 r4.1), o))) rfl rfl trivial ?_
            exact T283_5 hd kR hkR 1 (mset r4.2 49 0 r4.1) _ e
        · refine zF_blk (m := []) (d := 0) (b := B283_20) (gs := [¬ (¬ v2 = 12)]) (c' := (114, [some (22, 0), some (0, v1), some (0, v2), some (0, 1)], [], (hc, r1, o))) K283_20 rfl ⟨q5, trivial⟩ ?_
          obtain ⟨r5, q11, e⟩ := zB_s e
          refine zF_blk (m := []) (d := 0) (b := B283_18) (gs := []) (c' := (115, [some (22, 0), some (0, v1), some (0, v2), some (0, 1)], [(22, 0)], (hc, r1, o))) K283_18 rfl trivial ?_
          refine zF_call (k := 285) (cl := 12) (n := 1) (i := .invokevirtual 419) (args := [(22, 0)]) (rest := []) (g1 := (hc, r5.2, o)) (r1 := some (0, r5.1)) (by decide +kernel) rfl rfl rfl (st' := [(0, r5.1)]) rfl (S285 (by omega) kR hkR  r1 _ q11) ?_
          refine zF_blk (m := []) (d := 0) (b := B283_19) (gs := []) (c' := (166, [some (22, 0), some (0, v1), some (0, v2), some (0, r5.1)], [], (hc, r5.2, o))) K283_19 rfl trivial ?_
          refine zF_blk (m := [true, false, false, true]) (d := 0) (b := []) (gs := []) (c' := (166, [some (22, 0), none, none, some (0, r5.1)], [], (hc, r5.2, o))) rfl rfl trivial ?_
          exact T283_5 hd kR hkR r5.1 r5.2 _ e
      · refine zF_blk (m := []) (d := 0) (b := B283_23) (gs := [¬ (v1 = 0)]) (c' := (100, [some (22, 0), some (0, v1), some (0, v2), some (0, 1)], [], (hc, r1, o))) K283_23 rfl ⟨q4, trivial⟩ ?_
        obtain ⟨r6, q12, e⟩ := zB_s e
        refine zF_blk (m := []) (d := 0) (b := B283_21) (gs := []) (c' := (101, [some (22, 0), some (0, v1), some (0, v2), some (0, 1)], [(22, 0)], (hc, r1, o))) K283_21 rfl trivial ?_
        refine zF_call (k := 284) (cl := 12) (n := 1) (i := .invokevirtual 416) (args := [(22, 0)]) (rest := []) (g1 := (hc, r6.2, o)) (r1 := some (0, r6.1)) (by decide +kernel) rfl rfl rfl (st' := [(0, r6.1)]) rfl (S284 (by omega) kR hkR  r1 _ q12) ?_
        refine zF_blk (m := []) (d := 0) (b := B283_22) (gs := []) (c' := (166, [some (22, 0), some (0, v1), some (0, v2), some (0, r6.1)], [], (hc, r6.2, o))) K283_22 rfl trivial ?_
        refine zF_blk (m := [true, false, false, true]) (d := 0) (b := []) (gs := []) (c' := (166, [some (22, 0), none, none, some (0, r6.1)], [], (hc, r6.2, o))) rfl rfl trivial ?_
        exact T283_5 hd kR hkR r6.1 r6.2 _ e
    · refine zF_blk (m := []) (d := 0) (b := B283_24) (gs := [¬ (¬ (h 48 0) = 8)]) (c' := (64, [some (22, 0), some (0, v1), some (0, v2), none], [], (hc, h, o))) K283_24 rfl ⟨q2, trivial⟩ ?_
      refine zF_blk (m := [true, false, false, false]) (d := 0) (b := []) (gs := []) (c' := (64, [some (22, 0), none, none, none], [], (hc, h, o))) rfl rfl trivial ?_
      exact T283_3 hd kR hkR h _ e
def F283_1 (kR : zHM → Option (Int × zHM)) (v1 : Int) (v2 : Int) (h : zHM) : Option (Int × zHM) := if ¬ v1 = 0 then F283_2 kR v1 v2 h else if v2 ≤ 20 then F283_2 kR v1 v2 h else (F185 1 h).bind fun r1 => zG (r1.1 = 0 ∨ r1.1 = 1) (some (r1.1, r1.2))
set_option maxRecDepth 100000 in
theorem T283_1 {spec : zRn zH2} {hc : zHC} {o : Int → Int} {d : Nat} {DR : Nat} (hd : DR + 6 ≤ d) (kR : zHM → Option (Int × zHM)) (hkR : ∀ (d' : Nat), DR ≤ d' → ∀ (h : zHM) (v : (Int × zHM)), kR h = some v → zRu2 spec d' 283 [(22, 0)] (hc, h, o) (some (0, v.1)) (hc, v.2, o)) (v1 : Int) (v2 : Int) (h : zHM) (v : (Int × zHM)) (e : F283_1 kR v1 v2 h = some v) : zFin 0 (fun _ => 0) (zRu2 spec d) 283 (some (0, v.1)) (hc, v.2, o) (30, [some (22, 0), some (0, v1), some (0, v2), none], [], (hc, h, o)) := by
  unfold F283_1 at e
  rcases zI_s e with ⟨q1, e⟩ | ⟨q1, e⟩
  · refine zF_blk (m := []) (d := 1) (b := B283_8) (gs := [¬ v1 = 0]) (c' := (46, [some (22, 0), some (0, v1), some (0, v2), none], [], (hc, h, o))) K283_8 rfl ⟨q1, trivial⟩ ?_
    exact T283_2 hd kR hkR v1 v2 h _ e
  · refine zF_blk (m := []) (d := 0) (b := B283_8) (gs := [¬ (¬ v1 = 0)]) (c' := (34, [some (22, 0), some (0, v1), some (0, v2), none], [], (hc, h, o))) K283_8 rfl ⟨q1, trivial⟩ ?_
    rcases zI_s e with ⟨q2, e⟩ | ⟨q2, e⟩
    · refine zF_blk (m := []) (d := 1) (b := B283_7) (gs := [v2 ≤ 20]) (c' := (46, [some (22, 0), some (0, v1), some (0, v2), none], [], (hc, h, o))) K283_7 rfl ⟨q2, trivial⟩ ?_
      exact T283_2 hd kR hkR v1 v2 h _ e
    · refine zF_blk (m := []) (d := 0) (b := B283_7) (gs := [¬ (v2 ≤ 20)]) (c' := (40, [some (22, 0), some (0, v1), some (0, v2), none], [], (hc, h, o))) K283_7 rfl ⟨q2, trivial⟩ ?_
      obtain ⟨r1, q3, e⟩ := zB_s e
      refine zF_blk (m := []) (d := 0) (b := B283_6) (gs := []) (c' := (42, [some (22, 0), some (0, v1), some (0, v2), none], [(0, 1), (22, 0)], (hc, h, o))) K283_6 rfl trivial ?_
      refine zF_call (k := 185) (cl := 12) (n := 2) (i := .invokevirtual 148) (args := [(22, 0), (0, 1)]) (rest := []) (g1 := (hc, r1.2, o)) (r1 := some (0, r1.1)) (by decide +kernel) rfl rfl rfl (st' := [(0, r1.1)]) rfl (S185 (by omega) 1 h _ q3) ?_
      obtain ⟨q4, e⟩ := zG_s e
      exact zF_rbM (by decide +kernel) q4 e
def F283_0 (kR : zHM → Option (Int × zHM)) : Nat → Int → Int → zHM → Option (Int × zHM)
  | 0, _, _, _ => none
  | n + 1, v1, v2, h => if 20 < v2 then F283_1 kR v1 v2 h else (F181 v2 h).bind fun r1 => if ¬ r1 = 0 then F283_1 kR v1 v2 h else (F283_0 kR n) v1 (wadd v2 1) h
set_option maxRecDepth 100000 in
theorem T283_0 {spec : zRn zH2} {hc : zHC} {o : Int → Int} {d : Nat} {DR : Nat} (hd : DR + 6 ≤ d) (kR : zHM → Option (Int × zHM)) (hkR : ∀ (d' : Nat), DR ≤ d' → ∀ (h : zHM) (v : (Int × zHM)), kR h = some v → zRu2 spec d' 283 [(22, 0)] (hc, h, o) (some (0, v.1)) (hc, v.2, o)) : ∀ (n : Nat) (v1 : Int) (v2 : Int) (h : zHM) (v : (Int × zHM)), F283_0 kR n v1 v2 h = some v → zFin 0 (fun _ => 0) (zRu2 spec d) 283 (some (0, v.1)) (hc, v.2, o) (10, [some (22, 0), some (0, v1), some (0, v2), none], [], (hc, h, o)) := by
  intro n
  induction n with
  | zero => intro v1 v2 h v e; unfold F283_0 at e; cases e
  | succ n hk0 =>
    intro v1 v2 h v e
    unfold F283_0 at e
    rcases zI_s e with ⟨q1, e⟩ | ⟨q1, e⟩
    · refine zF_blk (m := []) (d := 1) (b := B283_5) (gs := [20 < v2]) (c' := (30, [some (22, 0), some (0, v1), some (0, v2), none], [], (hc, h, o))) K283_5 rfl ⟨q1, trivial⟩ ?_
      exact T283_1 hd kR hkR v1 v2 h _ e
    · refine zF_blk (m := []) (d := 0) (b := B283_5) (gs := [¬ (20 < v2)]) (c' := (16, [some (22, 0), some (0, v1), some (0, v2), none], [], (hc, h, o))) K283_5 rfl ⟨q1, trivial⟩ ?_
      obtain ⟨r1, q2, e⟩ := zB_s e
      refine zF_blk (m := []) (d := 0) (b := B283_2) (gs := []) (c' := (18, [some (22, 0), some (0, v1), some (0, v2), none], [(0, v2), (22, 0)], (hc, h, o))) K283_2 rfl trivial ?_
      refine zF_call (k := 181) (cl := 12) (n := 2) (i := .invokevirtual 199) (args := [(22, 0), (0, v2)]) (rest := []) (g1 := (hc, h, o)) (r1 := some (0, r1)) (by decide +kernel) rfl rfl rfl (st' := [(0, r1)]) rfl (S181 (by omega) v2 h _ q2) ?_
      rcases zI_s e with ⟨q3, e⟩ | ⟨q3, e⟩
      · refine zF_blk (m := []) (d := 1) (b := B283_4) (gs := [¬ r1 = 0]) (c' := (30, [some (22, 0), some (0, v1), some (0, v2), none], [], (hc, h, o))) K283_4 rfl ⟨q3, trivial⟩ ?_
        exact T283_1 hd kR hkR v1 v2 h _ e
      · refine zF_blk (m := []) (d := 0) (b := B283_4) (gs := [¬ (¬ r1 = 0)]) (c' := (24, [some (22, 0), some (0, v1), some (0, v2), none], [], (hc, h, o))) K283_4 rfl ⟨q3, trivial⟩ ?_
        refine zF_blk (m := []) (d := 0) (b := B283_3) (gs := []) (c' := (10, [some (22, 0), some (0, v1), some (0, (wadd v2 1)), none], [], (hc, h, o))) K283_3 rfl trivial ?_
        exact hk0 v1 (wadd v2 1) h _ e
/-- EchoValeModel.readOne()Z -/
def F283 (kR : zHM → Option (Int × zHM)) (h : zHM) : Option (Int × zHM) := (F202 40 h).bind fun r1 => F283_0 kR zFu r1 12 h
set_option maxRecDepth 100000 in
theorem S283 {spec : zRn zH2} {hc : zHC} {o : Int → Int} {d : Nat} {DR : Nat} (hd : DR + 7 ≤ d) (kR : zHM → Option (Int × zHM)) (hkR : ∀ (d' : Nat), DR ≤ d' → ∀ (h : zHM) (v : (Int × zHM)), kR h = some v → zRu2 spec d' 283 [(22, 0)] (hc, h, o) (some (0, v.1)) (hc, v.2, o)) (h : zHM) (v : (Int × zHM)) (e : F283 kR h = some v) : zRu2 spec d 283 [(22, 0)] (hc, h, o) (some (0, v.1)) (hc, v.2, o) := by
  refine zF_in (D := DR + 6) (mx := 4) (L := [some (22, 0), none, none, none]) (by decide +kernel) rfl rfl hd (fun d hd => ?_)
  unfold F283 at e
  obtain ⟨r1, q1, e⟩ := zB_s e
  refine zF_blk (m := []) (d := 0) (b := B283_0) (gs := []) (c' := (3, [some (22, 0), none, none, none], [(0, 40), (22, 0)], (hc, h, o))) K283_0 rfl trivial ?_
  refine zF_call (k := 202) (cl := 12) (n := 2) (i := .invokevirtual 165) (args := [(22, 0), (0, 40)]) (rest := []) (g1 := (hc, h, o)) (r1 := some (0, r1)) (by decide +kernel) rfl rfl rfl (st' := [(0, r1)]) rfl (S202 (by omega) 40 h _ q1) ?_
  refine zF_blk (m := []) (d := 0) (b := B283_1) (gs := []) (c' := (10, [some (22, 0), some (0, r1), some (0, 12), none], [], (hc, h, o))) K283_1 rfl trivial ?_
  exact T283_0 hd kR hkR zFu r1 12 h _ e
