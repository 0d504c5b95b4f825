/-! Functions of the methods, by wip/gen/lift.py. -/
def F151r : Nat → Int → Int → zHC → Option (Int × zHC)
  | 0, _, _, _ => none
  | n + 1, v1, v2, h => F151 (F151r n) v1 v2 h
theorem S151r {spec : zRn zH2} {hm : zHM} {o : Int → Int} : ∀ (n : Nat) {d : Nat} (hd : 6 * n ≤ d) (v1 : Int) (v2 : Int) (h : zHC) (v : (Int × zHC)) (e : F151r n v1 v2 h = some v), zRu2 spec d 151 [(17, 0), (19, v1), (0, v2)] (h, hm, o) (some (0, v.1)) (v.2, hm, o) := by
  intro n
  induction n with
  | zero => intro d hd v1 v2 h v e; unfold F151r at e; cases e
  | succ n ih =>
    intro d hd v1 v2 h v e
    unfold F151r at e
    exact S151 (DR := 6 * n) (by omega) (F151r n) (fun d hd v1 v2 h v e => ih hd v1 v2 h v e) v1 v2 h v e
def B150_0 : List zRow := [(0, .aload_n 0, 1, (0, 0, 0)), (1, .aload_n 1, 1, (0, 0, 0)), (2, .iload_n 2, 1, (0, 0, 0))]
theorem K150_0 : zRk 150 B150_0 = true := by decide +kernel
def B150_1 : List zRow := [(11, .iconst 0, 1, (0, 0, 0)), (12, .istore_n 3, 1, (0, 0, 0))]
theorem K150_1 : zRk 150 B150_1 = true := by decide +kernel
def B150_2 : List zRow := [(9, .iconst 0, 1, (0, 0, 0))]
theorem K150_2 : zRk 150 B150_2 = true := by decide +kernel
def B150_3 : List zRow := [(6, .ifCond .ne 5, 3, (0, 0, 0))]
theorem K150_3 : zRk 150 B150_3 = true := by decide +kernel
def B150_4 : List zRow := [(67, .iconst 1, 1, (0, 0, 0))]
theorem K150_4 : zRk 150 B150_4 = true := by decide +kernel
def B150_5 : List zRow := [(20, .aload_n 0, 1, (0, 0, 0)), (21, .getfield 18, 3, (7, 1, 23)), (24, .bipush 11, 2, (0, 0, 0))]
theorem K150_5 : zRk 150 B150_5 = true := by decide +kernel
def B150_6 : List zRow := [(32, .aload_n 0, 1, (0, 0, 0)), (33, .getfield 18, 3, (7, 1, 23))]
theorem K150_6 : zRk 150 B150_6 = true := by decide +kernel
def B150_7 : List zRow := [(39, .aload_n 0, 1, (0, 0, 0)), (40, .aload_n 1, 1, (0, 0, 0)), (41, .iload_n 2, 1, (0, 0, 0))]
theorem K150_7 : zRk 150 B150_7 = true := by decide +kernel
def B150_8 : List zRow := [(50, .aload_n 0, 1, (0, 0, 0)), (51, .getfield 12, 3, (7, 0, 155)), (54, .bipush 11, 2, (0, 0, 0)), (56, .iconst 0, 1, (0, 0, 0)), (57, .iconst 0, 1, (0, 0, 0))]
theorem K150_8 : zRk 150 B150_8 = true := by decide +kernel
def B150_9 : List zRow := [(61, .iinc 3 1, 3, (0, 0, 0)), (64, .goto (-51), 3, (0, 0, 0))]
theorem K150_9 : zRk 150 B150_9 = true := by decide +kernel
def B150_10 : List zRow := [(48, .iconst 0, 1, (0, 0, 0))]
theorem K150_10 : zRk 150 B150_10 = true := by decide +kernel
def B150_11 : List zRow := [(45, .ifCond .ne 5, 3, (0, 0, 0))]
theorem K150_11 : zRk 150 B150_11 = true := by decide +kernel
def B150_12 : List zRow := [(29, .ifCond .eq 38, 3, (0, 0, 0))]
theorem K150_12 : zRk 150 B150_12 = true := by decide +kernel
def B150_13 : List zRow := [(13, .iload_n 3, 1, (0, 0, 0)), (14, .sipush 940, 3, (0, 0, 0)), (17, .if_icmp .ge 50, 3, (0, 0, 0))]
theorem K150_13 : zRk 150 B150_13 = true := by decide +kernel
def F150_0 : Nat → Int → Int → Int → zHC → Option (Int × zHC)
  | 0, _, _, _, _ => none
  | n + 1, v1, v2, v3, h => if 940 ≤ v3 then some (1, h) else (F152 11 h).bind fun r1 => if r1 = 0 then some (1, h) else (F21 h).bind fun r2 => (F151r 64 v1 v2 r2).bind fun r3 => if ¬ r3.1 = 0 then (F153 1 11 0 0 r3.2).bind fun r4 => (F150_0 n) v1 v2 (wadd v3 1) r4 else some (0, r3.2)
set_option maxRecDepth 100000 in
theorem T150_0 {spec : zRn zH2} {hm : zHM} {o : Int → Int} {d : Nat} (hd : 384 ≤ d) : ∀ (n : Nat) (v1 : Int) (v2 : Int) (v3 : Int) (h : zHC) (v : (Int × zHC)), F150_0 n v1 v2 v3 h = some v → zFin 0 (fun _ => 0) (zRu2 spec d) 150 (some (0, v.1)) (v.2, hm, o) (13, [some (17, 0), some (19, v1), some (0, v2), some (0, v3)], [], (h, hm, o)) := by
  intro n
  induction n with
  | zero => intro v1 v2 v3 h v e; unfold F150_0 at e; cases e
  | succ n hk0 =>
    intro v1 v2 v3 h v e
    unfold F150_0 at e
    rcases zI_s e with ⟨q1, e⟩ | ⟨q1, e⟩
    · refine zF_blk (m := []) (d := 1) (b := B150_13) (gs := [940 ≤ v3]) (c' := (67, [some (17, 0), some (19, v1), some (0, v2), some (0, v3)], [], (h, hm, o))) K150_13 rfl ⟨q1, trivial⟩ ?_
      refine zF_blk (m := []) (d := 0) (b := B150_4) (gs := []) (c' := (68, [some (17, 0), some (19, v1), some (0, v2), some (0, v3)], [(0, 1)], (h, hm, o))) K150_4 rfl trivial ?_
      exact zF_rbC (by decide +kernel) (Or.inr rfl) e
    · refine zF_blk (m := []) (d := 0) (b := B150_13) (gs := [¬ (940 ≤ v3)]) (c' := (20, [some (17, 0), some (19, v1), some (0, v2), some (0, v3)], [], (h, hm, o))) K150_13 rfl ⟨q1, trivial⟩ ?_
      obtain ⟨r1, q2, e⟩ := zB_s e
      refine zF_blk (m := []) (d := 0) (b := B150_5) (gs := []) (c' := (26, [some (17, 0), some (19, v1), some (0, v2), some (0, v3)], [(0, 11), (15, 0)], (h, hm, o))) K150_5 rfl trivial ?_
      refine zF_call (k := 152) (cl := 5) (n := 2) (i := .invokevirtual 46) (args := [(15, 0), (0, 11)]) (rest := []) (g1 := (h, hm, o)) (r1 := some (0, r1)) (by decide +kernel) rfl rfl rfl (st' := [(0, r1)]) rfl (S152 (Nat.le_trans (by decide) hd) 11 h _ q2) ?_
      rcases zI_s e with ⟨q3, e⟩ | ⟨q3, e⟩
      · refine zF_blk (m := []) (d := 1) (b := B150_12) (gs := [r1 = 0]) (c' := (67, [some (17, 0), some (19, v1), some (0, v2), some (0, v3)], [], (h, hm, o))) K150_12 rfl ⟨q3, trivial⟩ ?_
        refine zF_blk (m := []) (d := 0) (b := B150_4) (gs := []) (c' := (68, [some (17, 0), some (19, v1), some (0, v2), some (0, v3)], [(0, 1)], (h, hm, o))) K150_4 rfl trivial ?_
        exact zF_rbC (by decide +kernel) (Or.inr rfl) e
      · refine zF_blk (m := []) (d := 0) (b := B150_12) (gs := [¬ (r1 = 0)]) (c' := (32, [some (17, 0), some (19, v1), some (0, v2), some (0, v3)], [], (h, hm, o))) K150_12 rfl ⟨q3, trivial⟩ ?_
        obtain ⟨r2, q4, e⟩ := zB_s e
        refine zF_blk (m := []) (d := 0) (b := B150_6) (gs := []) (c' := (36, [some (17, 0), some (19, v1), some (0, v2), some (0, v3)], [(15, 0)], (h, hm, o))) K150_6 rfl trivial ?_
        refine zF_call (k := 21) (cl := 5) (n := 1) (i := .invokevirtual 49) (args := [(15, 0)]) (rest := []) (g1 := (r2, hm, o)) (r1 := none) (by decide +kernel) rfl rfl rfl (st' := []) rfl (S21 (Nat.le_trans (by decide) hd)  h _ q4) ?_
        obtain ⟨r3, q5, e⟩ := zB_s e
        refine zF_blk (m := []) (d := 0) (b := B150_7) (gs := []) (c' := (42, [some (17, 0), some (19, v1), some (0, v2), some (0, v3)], [(0, v2), (19, v1), (17, 0)], (r2, hm, o))) K150_7 rfl trivial ?_
        refine zF_call (k := 151) (cl := 7) (n := 3) (i := .invokevirtual 56) (args := [(17, 0), (19, v1), (0, v2)]) (rest := []) (g1 := (r3.2, hm, o)) (r1 := some (0, r3.1)) (by decide +kernel) rfl rfl rfl (st' := [(0, r3.1)]) rfl (S151r 64 (Nat.le_trans (by decide) hd) v1 v2 r2 _ q5) ?_
        rcases zI_s e with ⟨q6, e⟩ | ⟨q6, e⟩
        · refine zF_blk (m := []) (d := 1) (b := B150_11) (gs := [¬ r3.1 = 0]) (c' := (50, [some (17, 0), some (19, v1), some (0, v2), some (0, v3)], [], (r3.2, hm, o))) K150_11 rfl ⟨q6, trivial⟩ ?_
          obtain ⟨r4, q7, e⟩ := zB_s e
          refine zF_blk (m := []) (d := 0) (b := B150_8) (gs := []) (c' := (58, [some (17, 0), some (19, v1), some (0, v2), some (0, v3)], [(0, 0), (0, 0), (0, 11), (16, 1)], (r3.2, hm, o))) K150_8 rfl trivial ?_
          refine zF_call (k := 153) (cl := 6) (n := 4) (i := .invokevirtual 52) (args := [(16, 1), (0, 11), (0, 0), (0, 0)]) (rest := []) (g1 := (r4, hm, o)) (r1 := none) (by decide +kernel) rfl rfl rfl (st' := []) rfl (S153 (Nat.le_trans (by decide) hd) 1 11 0 0 r3.2 _ q7) ?_
          refine zF_blk (m := []) (d := 0) (b := B150_9) (gs := []) (c' := (13, [some (17, 0), some (19, v1), some (0, v2), some (0, (wadd v3 1))], [], (r4, hm, o))) K150_9 rfl trivial ?_
          exact hk0 v1 v2 (wadd v3 1) r4 _ e
        · refine zF_blk (m := []) (d := 0) (b := B150_11) (gs := [¬ (¬ r3.1 = 0)]) (c' := (48, [some (17, 0), some (19, v1), some (0, v2), some (0, v3)], [], (r3.2, hm, o))) K150_11 rfl ⟨q6, trivial⟩ ?_
          refine zF_blk (m := []) (d := 0) (b := B150_10) (gs := []) (c' := (49, [some (17, 0), some (19, v1), some (0, v2), some (0, v3)], [(0, 0)], (r3.2, hm, o))) K150_10 rfl trivial ?_
          exact zF_rbC (by decide +kernel) (Or.inl rfl) e
/-- EchoVale$SentenceText.readJoined(LEchoVale$Valley;I)Z -/
def F150 (v1 : Int) (v2 : Int) (h : zHC) : Option (Int × zHC) := (F151r 64 v1 v2 h).bind fun r1 => if ¬ r1.1 = 0 then F150_0 zFu v1 v2 0 r1.2 else some (0, r1.2)
set_option maxRecDepth 100000 in
theorem S150 {spec : zRn zH2} {hm : zHM} {o : Int → Int} {d : Nat} (hd : 385 ≤ d) (v1 : Int) (v2 : Int) (h : zHC) (v : (Int × zHC)) (e : F150 v1 v2 h = some v) : zRu2 spec d 150 [(17, 0), (19, v1), (0, v2)] (h, hm, o) (some (0, v.1)) (v.2, hm, o) := by
  refine zF_in (D := 384) (mx := 4) (L := [some (17, 0), some (19, v1), some (0, v2), none]) (by decide +kernel) rfl rfl hd (fun d hd => ?_)
  unfold F150 at e
  obtain ⟨r1, q1, e⟩ := zB_s e
  refine zF_blk (m := []) (d := 0) (b := B150_0) (gs := []) (c' := (3, [some (17, 0), some (19, v1), some (0, v2), none], [(0, v2), (19, v1), (17, 0)], (h, hm, o))) K150_0 rfl trivial ?_
  refine zF_call (k := 151) (cl := 7) (n := 3) (i := .invokevirtual 56) (args := [(17, 0), (19, v1), (0, v2)]) (rest := []) (g1 := (r1.2, hm, o)) (r1 := some (0, r1.1)) (by decide +kernel) rfl rfl rfl (st' := [(0, r1.1)]) rfl (S151r 64 (Nat.le_trans (by decide) hd) v1 v2 h _ q1) ?_
  rcases zI_s e with ⟨q2, e⟩ | ⟨q2, e⟩
  · refine zF_blk (m := []) (d := 1) (b := B150_3) (gs := [¬ r1.1 = 0]) (c' := (11, [some (17, 0), some (19, v1), some (0, v2), none], [], (r1.2, hm, o))) K150_3 rfl ⟨q2, trivial⟩ ?_
    refine zF_blk (m := []) (d := 0) (b := B150_1) (gs := []) (c' := (13, [some (17, 0), some (19, v1), some (0, v2), some (0, 0)], [], (r1.2, hm, o))) K150_1 rfl trivial ?_
    exact T150_0 hd zFu v1 v2 0 r1.2 _ e
  · refine zF_blk (m := []) (d := 0) (b := B150_3) (gs := [¬ (¬ r1.1 = 0)]) (c' := (9, [some (17, 0), some (19, v1), some (0, v2), none], [], (r1.2, hm, o))) K150_3 rfl ⟨q2, trivial⟩ ?_
    refine zF_blk (m := []) (d := 0) (b := B150_2) (gs := []) (c' := (10, [some (17, 0), some (19, v1), some (0, v2), none], [(0, 0)], (r1.2, hm, o))) K150_2 rfl trivial ?_
    exact zF_rbC (by decide +kernel) (Or.inl rfl) e
def B149_0 : List zRow := [(0, .aload_n 0, 1, (0, 0, 0)), (1, .aload_n 1, 1, (0, 0, 0)), (2, .iload_n 2, 1, (0, 0, 0))]
theorem K149_0 : zRk 149 B149_0 = true := by decide +kernel
def B149_1 : List zRow := [(11, .iconst 0, 1, (0, 0, 0)), (12, .istore_n 3, 1, (0, 0, 0))]
theorem K149_1 : zRk 149 B149_1 = true := by decide +kernel
def B149_2 : List zRow := [(9, .iconst 0, 1, (0, 0, 0))]
theorem K149_2 : zRk 149 B149_2 = true := by decide +kernel
def B149_3 : List zRow := [(6, .ifCond .ne 5, 3, (0, 0, 0))]
theorem K149_3 : zRk 149 B149_3 = true := by decide +kernel
def B149_4 : List zRow := [(67, .iconst 1, 1, (0, 0, 0))]
theorem K149_4 : zRk 149 B149_4 = true := by decide +kernel
def B149_5 : List zRow := [(20, .aload_n 0, 1, (0, 0, 0)), (21, .getfield 18, 3, (7, 1, 23)), (24, .bipush 10, 2, (0, 0, 0))]
theorem K149_5 : zRk 149 B149_5 = true := by decide +kernel
def B149_6 : List zRow := [(32, .aload_n 0, 1, (0, 0, 0)), (33, .getfield 18, 3, (7, 1, 23))]
theorem K149_6 : zRk 149 B149_6 = true := by decide +kernel
def B149_7 : List zRow := [(39, .aload_n 0, 1, (0, 0, 0)), (40, .aload_n 1, 1, (0, 0, 0)), (41, .iload_n 2, 1, (0, 0, 0))]
theorem K149_7 : zRk 149 B149_7 = true := by decide +kernel
def B149_8 : List zRow := [(50, .aload_n 0, 1, (0, 0, 0)), (51, .getfield 12, 3, (7, 0, 155)), (54, .bipush 10, 2, (0, 0, 0)), (56, .iconst 0, 1, (0, 0, 0)), (57, .iconst 0, 1, (0, 0, 0))]
theorem K149_8 : zRk 149 B149_8 = true := by decide +kernel
def B149_9 : List zRow := [(61, .iinc 3 1, 3, (0, 0, 0)), (64, .goto (-51), 3, (0, 0, 0))]
theorem K149_9 : zRk 149 B149_9 = true := by decide +kernel
def B149_10 : List zRow := [(48, .iconst 0, 1, (0, 0, 0))]
theorem K149_10 : zRk 149 B149_10 = true := by decide +kernel
def B149_11 : List zRow := [(45, .ifCond .ne 5, 3, (0, 0, 0))]
theorem K149_11 : zRk 149 B149_11 = true := by decide +kernel
def B149_12 : List zRow := [(29, .ifCond .eq 38, 3, (0, 0, 0))]
theorem K149_12 : zRk 149 B149_12 = true := by decide +kernel
def B149_13 : List zRow := [(13, .iload_n 3, 1, (0, 0, 0)), (14, .sipush 940, 3, (0, 0, 0)), (17, .if_icmp .ge 50, 3, (0, 0, 0))]
theorem K149_13 : zRk 149 B149_13 = true := by decide +kernel
def F149_0 : Nat → Int → Int → Int → zHC → Option (Int × zHC)
  | 0, _, _, _, _ => none
  | n + 1, v1, v2, v3, h => if 940 ≤ v3 then some (1, h) else (F152 10 h).bind fun r1 => if r1 = 0 then some (1, h) else (F21 h).bind fun r2 => (F150 v1 v2 r2).bind fun r3 => if ¬ r3.1 = 0 then (F153 1 10 0 0 r3.2).bind fun r4 => (F149_0 n) v1 v2 (wadd v3 1) r4 else some (0, r3.2)
set_option maxRecDepth 100000 in
theorem T149_0 {spec : zRn zH2} {hm : zHM} {o : Int → Int} {d : Nat} (hd : 385 ≤ d) : ∀ (n : Nat) (v1 : Int) (v2 : Int) (v3 : Int) (h : zHC) (v : (Int × zHC)), F149_0 n v1 v2 v3 h = some v → zFin 0 (fun _ => 0) (zRu2 spec d) 149 (some (0, v.1)) (v.2, hm, o) (13, [some (17, 0), some (19, v1), some (0, v2), some (0, v3)], [], (h, hm, o)) := by
  intro n
  induction n with
  | zero => intro v1 v2 v3 h v e; unfold F149_0 at e; cases e
  | succ n hk0 =>
    intro v1 v2 v3 h v e
    unfold F149_0 at e
    rcases zI_s e with ⟨q1, e⟩ | ⟨q1, e⟩
    · refine zF_blk (m := []) (d := 1) (b := B149_13) (gs := [940 ≤ v3]) (c' := (67, [some (17, 0), some (19, v1), some (0, v2), some (0, v3)], [], (h, hm, o))) K149_13 rfl ⟨q1, trivial⟩ ?_
      refine zF_blk (m := []) (d := 0) (b := B149_4) (gs := []) (c' := (68, [some (17, 0), some (19, v1), some (0, v2), some (0, v3)], [(0, 1)], (h, hm, o))) K149_4 rfl trivial ?_
      exact zF_rbC (by decide +kernel) (Or.inr rfl) e
    · refine zF_blk (m := []) (d := 0) (b := B149_13) (gs := [¬ (940 ≤ v3)]) (c' := (20, [some (17, 0), some (19, v1), some (0, v2), some (0, v3)], [], (h, hm, o))) K149_13 rfl ⟨q1, trivial⟩ ?_
      obtain ⟨r1, q2, e⟩ := zB_s e
      refine zF_blk (m := []) (d := 0) (b := B149_5) (gs := []) (c' := (26, [some (17, 0), some (19, v1), some (0, v2), some (0, v3)], [(0, 10), (15, 0)], (h, hm, o))) K149_5 rfl trivial ?_
      refine zF_call (k := 152) (cl := 5) (n := 2) (i := .invokevirtual 46) (args := [(15, 0), (0, 10)]) (rest := []) (g1 := (h, hm, o)) (r1 := some (0, r1)) (by decide +kernel) rfl rfl rfl (st' := [(0, r1)]) rfl (S152 (Nat.le_trans (by decide) hd) 10 h _ q2) ?_
      rcases zI_s e with ⟨q3, e⟩ | ⟨q3, e⟩
      · refine zF_blk (m := []) (d := 1) (b := B149_12) (gs := [r1 = 0]) (c' := (67, [some (17, 0), some (19, v1), some (0, v2), some (0, v3)], [], (h, hm, o))) K149_12 rfl ⟨q3, trivial⟩ ?_
        refine zF_blk (m := []) (d := 0) (b := B149_4) (gs := []) (c' := (68, [some (17, 0), some (19, v1), some (0, v2), some (0, v3)], [(0, 1)], (h, hm, o))) K149_4 rfl trivial ?_
        exact zF_rbC (by decide +kernel) (Or.inr rfl) e
      · refine zF_blk (m := []) (d := 0) (b := B149_12) (gs := [¬ (r1 = 0)]) (c' := (32, [some (17, 0), some (19, v1), some (0, v2), some (0, v3)], [], (h, hm, o))) K149_12 rfl ⟨q3, trivial⟩ ?_
        obtain ⟨r2, q4, e⟩ := zB_s e
        refine zF_blk (m := []) (d := 0) (b := B149_6) (gs := []) (c' := (36, [some (17, 0), some (19, v1), some (0, v2), some (0, v3)], [(15, 0)], (h, hm, o))) K149_6 rfl trivial ?_
        refine zF_call (k := 21) (cl := 5) (n := 1) (i := .invokevirtual 49) (args := [(15, 0)]) (rest := []) (g1 := (r2, hm, o)) (r1 := none) (by decide +kernel) rfl rfl rfl (st' := []) rfl (S21 (Nat.le_trans (by decide) hd)  h _ q4) ?_
        obtain ⟨r3, q5, e⟩ := zB_s e
        refine zF_blk (m := []) (d := 0) (b := B149_7) (gs := []) (c' := (42, [some (17, 0), some (19, v1), some (0, v2), some (0, v3)], [(0, v2), (19, v1), (17, 0)], (r2, hm, o))) K149_7 rfl trivial ?_
        refine zF_call (k := 150) (cl := 7) (n := 3) (i := .invokevirtual 43) (args := [(17, 0), (19, v1), (0, v2)]) (rest := []) (g1 := (r3.2, hm, o)) (r1 := some (0, r3.1)) (by decide +kernel) rfl rfl rfl (st' := [(0, r3.1)]) rfl (S150 (Nat.le_trans (by decide) hd) v1 v2 r2 _ q5) ?_
        rcases zI_s e with ⟨q6, e⟩ | ⟨q6, e⟩
        · refine zF_blk (m := []) (d := 1) (b := B149_11) (gs := [¬ r3.1 = 0]) (c' := (50, [some (17, 0), some (19, v1), some (0, v2), some (0, v3)], [], (r3.2, hm, o))) K149_11 rfl ⟨q6, trivial⟩ ?_
          obtain ⟨r4, q7, e⟩ := zB_s e
          refine zF_blk (m := []) (d := 0) (b := B149_8) (gs := []) (c' := (58, [some (17, 0), some (19, v1), some (0, v2), some (0, v3)], [(0, 0), (0, 0), (0, 10), (16, 1)], (r3.2, hm, o))) K149_8 rfl trivial ?_
          refine zF_call (k := 153) (cl := 6) (n := 4) (i := .invokevirtual 52) (args := [(16, 1), (0, 10), (0, 0), (0, 0)]) (rest := []) (g1 := (r4, hm, o)) (r1 := none) (by decide +kernel) rfl rfl rfl (st' := []) rfl (S153 (Nat.le_trans (by decide) hd) 1 10 0 0 r3.2 _ q7) ?_
          refine zF_blk (m := []) (d := 0) (b := B149_9) (gs := []) (c' := (13, [some (17, 0), some (19, v1), some (0, v2), some (0, (wadd v3 1))], [], (r4, hm, o))) K149_9 rfl trivial ?_
          exact hk0 v1 v2 (wadd v3 1) r4 _ e
        · refine zF_blk (m := []) (d := 0) (b := B149_11) (gs := [¬ (¬ r3.1 = 0)]) (c' := (48, [some (17, 0), some (19, v1), some (0, v2), some (0, v3)], [], (r3.2, hm, o))) K149_11 rfl ⟨q6, trivial⟩ ?_
          refine zF_blk (m := []) (d := 0) (b := B149_10) (gs := []) (c' := (49, [some (17, 0), some (19, v1), some (0, v2), some (0, v3)], [(0, 0)], (r3.2, hm, o))) K149_10 rfl trivial ?_
          exact zF_rbC (by decide +kernel) (Or.inl rfl) e
/-- EchoVale$SentenceText.readCondition(LEchoVale$Valley;I)Z -/
def F149 (v1 : Int) (v2 : Int) (h : zHC) : Option (Int × zHC) := (F150 v1 v2 h).bind fun r1 => if ¬ r1.1 = 0 then F149_0 zFu v1 v2 0 r1.2 else some (0, r1.2)
set_option maxRecDepth 100000 in
theorem S149 {spec : zRn zH2} {hm : zHM} {o : Int → Int} {d : Nat} (hd : 386 ≤ d) (v1 : Int) (v2 : Int) (h : zHC) (v : (Int × zHC)) (e : F149 v1 v2 h = some v) : zRu2 spec d 149 [(17, 0), (19, v1), (0, v2)] (h, hm, o) (some (0, v.1)) (v.2, hm, o) := by
  refine zF_in (D := 385) (mx := 4) (L := [some (17, 0), some (19, v1), some (0, v2), none]) (by decide +kernel) rfl rfl hd (fun d hd => ?_)
  unfold F149 at e
  obtain ⟨r1, q1, e⟩ := zB_s e
  refine zF_blk (m := []) (d := 0) (b := B149_0) (gs := []) (c' := (3, [some (17, 0), some (19, v1), some (0, v2), none], [(0, v2), (19, v1), (17, 0)], (h, hm, o))) K149_0 rfl trivial ?_
  refine zF_call (k := 150) (cl := 7) (n := 3) (i := .invokevirtual 43) (args := [(17, 0), (19, v1), (0, v2)]) (rest := []) (g1 := (r1.2, hm, o)) (r1 := some (0, r1.1)) (by decide +kernel) rfl rfl rfl (st' := [(0, r1.1)]) rfl (S150 (Nat.le_trans (by decide) hd) v1 v2 h _ q1) ?_
  rcases zI_s e with ⟨q2, e⟩ | ⟨q2, e⟩
  · refine zF_blk (m := []) (d := 1) (b := B149_3) (gs := [¬ r1.1 = 0]) (c' := (11, [some (17, 0), some (19, v1), some (0, v2), none], [], (r1.2, hm, o))) K149_3 rfl ⟨q2, trivial⟩ ?_
    refine zF_blk (m := []) (d := 0) (b := B149_1) (gs := []) (c' := (13, [some (17, 0), some (19, v1), some (0, v2), some (0, 0)], [], (r1.2, hm, o))) K149_1 rfl trivial ?_
    exact T149_0 hd zFu v1 v2 0 r1.2 _ e
  · refine zF_blk (m := []) (d := 0) (b := B149_3) (gs := [¬ (¬ r1.1 = 0)]) (c' := (9, [some (17, 0), some (19, v1), some (0, v2), none], [], (r1.2, hm, o))) K149_3 rfl ⟨q2, trivial⟩ ?_
    refine zF_blk (m := []) (d := 0) (b := B149_2) (gs := []) (c' := (10, [some (17, 0), some (19, v1), some (0, v2), none], [(0, 0)], (r1.2, hm, o))) K149_2 rfl trivial ?_
    exact zF_rbC (by decide +kernel) (Or.inl rfl) e
def B148_0 : List zRow := [(0, .aload_n 0, 1, (0, 0, 0)), (1, .getfield 12, 3, (7, 0, 155))]
theorem K148_0 : zRk 148 B148_0 = true := by decide +kernel
def B148_1 : List zRow := [(7, .aload_n 0, 1, (0, 0, 0)), (8, .getfield 18, 3, (7, 1, 23)), (11, .sipush 200, 3, (0, 0, 0))]
theorem K148_1 : zRk 148 B148_1 = true := by decide +kernel
def B148_2 : List zRow := [(17, .aload_n 0, 1, (0, 0, 0)), (18, .aload_n 1, 1, (0, 0, 0)), (19, .iconst 1, 1, (0, 0, 0))]
theorem K148_2 : zRk 148 B148_2 = true := by decide +kernel
def B148_3 : List zRow := [(51, .iconst 0, 1, (0, 0, 0))]
theorem K148_3 : zRk 148 B148_3 = true := by decide +kernel
def B148_4 : List zRow := [(26, .aload_n 0, 1, (0, 0, 0)), (27, .getfield 18, 3, (7, 1, 23))]
theorem K148_4 : zRk 148 B148_4 = true := by decide +kernel
def B148_5 : List zRow := [(36, .aload_n 0, 1, (0, 0, 0)), (37, .getfield 18, 3, (7, 1, 23)), (40, .iconst 1, 1, (0, 0, 0))]
theorem K148_5 : zRk 148 B148_5 = true := by decide +kernel
def B148_6 : List zRow := [(44, .ifCond .eq 7, 3, (0, 0, 0))]
theorem K148_6 : zRk 148 B148_6 = true := by decide +kernel
def B148_7 : List zRow := [(33, .ifCond .ne 14, 3, (0, 0, 0))]
theorem K148_7 : zRk 148 B148_7 = true := by decide +kernel
def B148_8 : List zRow := [(23, .ifCond .eq 28, 3, (0, 0, 0))]
theorem K148_8 : zRk 148 B148_8 = true := by decide +kernel
def B148_9 : List zRow := [(47, .iconst 1, 1, (0, 0, 0)), (48, .goto 4, 3, (0, 0, 0))]
theorem K148_9 : zRk 148 B148_9 = true := by decide +kernel
def F148_0 (h : zHC) : Option (Int × zHC) := some (1, h)
set_option maxRecDepth 100000 in
theorem T148_0 {spec : zRn zH2} {hm : zHM} {o : Int → Int} {d : Nat} (hd : 386 ≤ d) (h : zHC) (v : (Int × zHC)) (e : F148_0 h = some v) : zFin 0 (fun _ => 0) (zRu2 spec d) 148 (some (0, v.1)) (v.2, hm, o) (47, [none, none], [], (h, hm, o)) := by
  unfold F148_0 at e
  refine zF_blk (m := []) (d := 0) (b := B148_9) (gs := []) (c' := (52, [none, none], [(0, 1)], (h, hm, o))) K148_9 rfl trivial ?_
  exact zF_rbC (by decide +kernel) (Or.inr rfl) e
/-- EchoVale$SentenceText.readText(LEchoVale$Valley;)Z -/
def F148 (v1 : Int) (h : zHC) : Option (Int × zHC) := (F54 1 h).bind fun r1 => (F20 200 r1).bind fun r2 => (F149 v1 1 r2).bind fun r3 => if r3.1 = 0 then some (0, r3.2) else (F29 r3.2).bind fun r4 => if ¬ r4 = 0 then F148_0 r3.2 else (F31 1 r3.2).bind fun r5 => if r5.1 = 0 then some (0, r5.2) else F148_0 r5.2
set_option maxRecDepth 100000 in
theorem S148 {spec : zRn zH2} {hm : zHM} {o : Int → Int} {d : Nat} (hd : 387 ≤ d) (v1 : Int) (h : zHC) (v : (Int × zHC)) (e : F148 v1 h = some v) : zRu2 spec d 148 [(17, 0), (19, v1)] (h, hm, o) (some (0, v.1)) (v.2, hm, o) := by
  refine zF_in (D := 386) (mx := 2) (L := [some (17, 0), some (19, v1)]) (by decide +kernel) rfl rfl hd (fun d hd => ?_)
  unfold F148 at e
  obtain ⟨r1, q1, e⟩ := zB_s e
  refine zF_blk (m := []) (d := 0) (b := B148_0) (gs := []) (c' := (4, [some (17, 0), some (19, v1)], [(16, 1)], (h, hm, o))) K148_0 rfl trivial ?_
  refine zF_call (k := 54) (cl := 6) (n := 1) (i := .invokevirtual 22) (args := [(16, 1)]) (rest := []) (g1 := (r1, hm, o)) (r1 := none) (by decide +kernel) rfl rfl rfl (st' := []) rfl (S54 (Nat.le_trans (by decide) hd) 1 h _ q1) ?_
  obtain ⟨r2, q2, e⟩ := zB_s e
  refine zF_blk (m := []) (d := 0) (b := B148_1) (gs := []) (c' := (14, [some (17, 0), some (19, v1)], [(0, 200), (15, 0)], (r1, hm, o))) K148_1 rfl trivial ?_
  refine zF_call (k := 20) (cl := 5) (n := 2) (i := .invokevirtual 25) (args := [(15, 0), (0, 200)]) (rest := []) (g1 := (r2, hm, o)) (r1 := none) (by decide +kernel) rfl rfl rfl (st' := []) rfl (S20 (Nat.le_trans (by decide) hd) 200 r1 _ q2) ?_
  obtain ⟨r3, q3, e⟩ := zB_s e
  refine zF_blk (m := []) (d := 0) (b := B148_2) (gs := []) (c' := (20, [some (17, 0), some (19, v1)], [(0, 1), (19, v1), (17, 0)], (r2, hm, o))) K148_2 rfl trivial ?_
  refine zF_call (k := 149) (cl := 7) (n := 3) (i := .invokevirtual 31) (args := [(17, 0), (19, v1), (0, 1)]) (rest := []) (g1 := (r3.2, hm, o)) (r1 := some (0, r3.1)) (by decide +kernel) rfl rfl rfl (st' := [(0, r3.1)]) rfl (S149 (Nat.le_trans (by decide) hd) v1 1 r2 _ q3) ?_
  rcases zI_s e with ⟨q4, e⟩ | ⟨q4, e⟩
  · refine zF_blk (m := []) (d := 1) (b := B148_8) (gs := [r3.1 = 0]) (c' := (51, [some (17, 0), some (19, v1)], [], (r3.2, hm, o))) K148_8 rfl ⟨q4, trivial⟩ ?_
    refine zF_blk (m := []) (d := 0) (b := B148_3) (gs := []) (c' := (52, [some (17, 0), some (19, v1)], [(0, 0)], (r3.2, hm, o))) K148_3 rfl trivial ?_
    exact zF_rbC (by decide +kernel) (Or.inl rfl) e
  · refine zF_blk (m := []) (d := 0) (b := B148_8) (gs := [¬ (r3.1 = 0)]) (c' := (26, [some (17, 0), some (19, v1)], [], (r3.2, hm, o))) K148_8 rfl ⟨q4, trivial⟩ ?_
    obtain ⟨r4, q5, e⟩ := zB_s e
    refine zF_blk (m := []) (d := 0) (b := B148_4) (gs := []) (c' := (30, [some (17, 0), some (19, v1)], [(15, 0)], (r3.2, hm, o))) K148_4 rfl trivial ?_
    refine zF_call (k := 29) (cl := 5) (n := 1) (i := .invokevirtual 35) (args := [(15, 0)]) (rest := []) (g1 := (r3.2, hm, o)) (r1 := some (0, r4)) (by decide +kernel) rfl rfl rfl (st' := [(0, r4)]) rfl (S29 (Nat.le_trans (by decide) hd)  r3.2 _ q5) ?_
    rcases zI_s e with ⟨q6, e⟩ | ⟨q6, e⟩
    · refine zF_blk (m := []) (d := 1) (b := B148_7) (gs := [¬ r4 = 0]) (c' := (47, [some (17, 0), some (19, v1)], [], (r3.2, hm, o))) K148_7 rfl ⟨q6, trivial⟩ ?_
      refine zF_blk (m := [false, false]) (d := 0) (b := []) (gs := []) (c' := (47, [none, none], [], (r3.2, hm, o))) rfl rfl trivial ?_
      exact T148_0 hd r3.2 _ e
    · refine zF_blk (m := []) (d := 0) (b := B148_7) (gs := [¬ (¬ r4 = 0)]) (c' := (36, [some (17, 0), some (19, v1)], [], (r3.2, hm, o))) K148_7 rfl ⟨q6, trivial⟩ ?_
      obtain ⟨r5, q7, e⟩ := zB_s e
      refine zF_blk (m := []) (d := 0) (b := B148_5) (gs := []) (c' := (41, [some (17, 0), some (19, v1)], [(0, 1), (15, 0)], (r3.2, hm, o))) K148_5 rfl trivial ?_
      refine zF_call (k := 31) (cl := 5) (n := 2) (i := .invokevirtual 39) (args := [(15, 0), (0, 1)]) (rest := []) (g1 := (r5.2, hm, o)) (r1 := some (0, r5.1)) (by decide +kernel) rfl rfl rfl (st' := [(0, r5.1)]) rfl (S31 (Nat.le_trans (by decide) hd) 1 r3.2 _ q7) ?_
      rcases zI_s e with ⟨q8, e⟩ | ⟨q8, e⟩
      · refine zF_blk (m := []) (d := 1) (b := B148_6) (gs := [r5.1 = 0]) (c' := (51, [some (17, 0), some (19, v1)], [], (r5.2, hm, o))) K148_6 rfl ⟨q8, trivial⟩ ?_
        refine zF_blk (m := []) (d := 0) (b := B148_3) (gs := []) (c' := (52, [some (17, 0), some (19, v1)], [(0, 0)], (r5.2, hm, o))) K148_3 rfl trivial ?_
        exact zF_rbC (by decide +kernel) (Or.inl rfl) e
      · refine zF_blk (m := []) (d := 0) (b := B148_6) (gs := [¬ (r5.1 = 0)]) (c' := (47, [some (17, 0), some (19, v1)], [], (r5.2, hm, o))) K148_6 rfl ⟨q8, trivial⟩ ?_
        refine zF_blk (m := [false, false]) (d := 0) (b := []) (gs := []) (c' := (47, [none, none], [], (r5.2, hm, o))) rfl rfl trivial ?_
        exact T148_0 hd r5.2 _ e
def B155_0 : List zRow := [(0, .aload_n 0, 1, (0, 0, 0)), (1, .aload_n 1, 1, (0, 0, 0)), (2, .getfield 19, 3, (6, 0, 0)), (5, .putfield 19, 3, (6, 0, 0)), (8, .aload_n 0, 1, (0, 0, 0)), (9, .aload_n 1, 1, (0, 0, 0)), (10, .getfield 23, 3, (6, 1, 0)), (13, .putfield 23, 3, (6, 1, 0)), (16, .aload_n 1, 1, (0, 0, 0)), (17, .getfield 9, 3, (6, 2, 5243362)), (20, .iconst 0, 1, (0, 0, 0)), (21, .aload_n 0, 1, (0, 0, 0)), (22, .getfield 9, 3, (6, 2, 5243362)), (25, .iconst 0, 1, (0, 0, 0)), (26, .aload_n 0, 1, (0, 0, 0)), (27, .getfield 23, 3, (6, 1, 0)), (30, .iconst 3, 1, (0, 0, 0)), (31, .imul, 1, (0, 0, 0)), (32, .invokestatic 26, 3, (5001, 0, 0))]
theorem K155_0 : zRk 155 B155_0 = true := by decide +kernel
/-- EchoVale$Sentence.copyFrom(LEchoVale$Sentence;)V -/
def F155 (v0 : Int) (v1 : Int) (h : zHC) : Option zHC := zG (0 ≤ (wmul ((hset (hset h 384 v0 0 (h 384 v1 0)) 385 v0 0 (h 385 v1 0)) 385 v0 0) 3)) (zG (0 + (wmul ((hset (hset h 384 v0 0 (h 384 v1 0)) 385 v0 0 (h 385 v1 0)) 385 v0 0) 3) ≤ 120) (zG (0 + (wmul ((hset (hset h 384 v0 0 (h 384 v1 0)) 385 v0 0 (h 385 v1 0)) 385 v0 0) 3) ≤ 120) (some (hcpy (hset (hset h 384 v0 0 (h 384 v1 0)) 385 v0 0 (h 385 v1 0)) 386 v0 386 v1 0 0 (wmul ((hset (hset h 384 v0 0 (h 384 v1 0)) 385 v0 0 (h 385 v1 0)) 385 v0 0) 3)))))
set_option maxRecDepth 100000 in
theorem S155 {spec : zRn zH2} {hm : zHM} {o : Int → Int} {d : Nat} (hd : 1 ≤ d) (v0 : Int) (v1 : Int) (h : zHC) (v : zHC) (e : F155 v0 v1 h = some v) : zRu2 spec d 155 [(16, v0), (16, v1)] (h, hm, o) none (v, hm, o) := by
  refine zF_in (D := 0) (mx := 2) (L := [some (16, v0), some (16, v1)]) (by decide +kernel) rfl rfl hd (fun d hd => ?_)
  unfold F155 at e
  obtain ⟨q1, e⟩ := zG_s e
  obtain ⟨q2, e⟩ := zG_s e
  obtain ⟨q2, e⟩ := zG_s e
  refine zF_blk (m := []) (d := 0) (b := B155_0) (gs := [0 ≤ 0, 0 ≤ 0, 0 ≤ (wmul ((hset (hset h 384 v0 0 (h 384 v1 0)) 385 v0 0 (h 385 v1 0)) 385 v0 0) 3), 0 + (wmul ((hset (hset h 384 v0 0 (h 384 v1 0)) 385 v0 0 (h 385 v1 0)) 385 v0 0) 3) ≤ 120, 0 + (wmul ((hset (hset h 384 v0 0 (h 384 v1 0)) 385 v0 0 (h 385 v1 0)) 385 v0 0) 3) ≤ 120]) (c' := (35, [some (16, v0), some (16, v1)], [], ((hcpy (hset (hset h 384 v0 0 (h 384 v1 0)) 385 v0 0 (h 385 v1 0)) 386 v0 386 v1 0 0 (wmul ((hset (hset h 384 v0 0 (h 384 v1 0)) 385 v0 0 (h 385 v1 0)) 385 v0 0) 3)), hm, o))) K155_0 rfl ⟨by decide, by decide, q1, q2, q2, trivial⟩ ?_
  obtain rfl := Option.some.inj e
  exact zF_rv (by decide +kernel)
def B147_0 : List zRow := [(0, .aload_n 0, 1, (0, 0, 0)), (1, .getfield 49, 3, (11, 5, 31)), (4, .aload_n 0, 1, (0, 0, 0)), (5, .getfield 19, 3, (11, 1, 39))]
theorem K147_0 : zRk 147 B147_0 = true := by decide +kernel
def B147_1 : List zRow := [(34, .aload_n 0, 1, (0, 0, 0)), (35, .getfield 42, 3, (11, 4, 27)), (38, .aload_n 0, 1, (0, 0, 0)), (39, .getfield 49, 3, (11, 5, 31)), (42, .getfield 347, 3, (7, 0, 155))]
theorem K147_1 : zRk 147 B147_1 = true := by decide +kernel
def B147_2 : List zRow := [(48, .aload_n 0, 1, (0, 0, 0)), (49, .getfield 42, 3, (11, 4, 27)), (52, .getfield 351, 3, (6, 0, 0))]
theorem K147_2 : zRk 147 B147_2 = true := by decide +kernel
def B147_3 : List zRow := [(24, .iconst (-1), 1, (0, 0, 0)), (25, .aload_n 0, 1, (0, 0, 0)), (26, .getfield 12, 3, (11, 0, 23)), (29, .getfield 116, 3, (5, 3, 0))]
theorem K147_3 : zRk 147 B147_3 = true := by decide +kernel
def B147_4 : List zRow := [(32, .isub, 1, (0, 0, 0))]
theorem K147_4 : zRk 147 B147_4 = true := by decide +kernel
def B147_5 : List zRow := [(11, .istore_n 1, 1, (0, 0, 0)), (12, .aload_n 0, 1, (0, 0, 0)), (13, .getfield 12, 3, (11, 0, 23)), (16, .iconst 0, 1, (0, 0, 0)), (17, .putfield 105, 3, (5, 1, 0)), (20, .iload_n 1, 1, (0, 0, 0)), (21, .ifCond .ne 13, 3, (0, 0, 0))]
theorem K147_5 : zRk 147 B147_5 = true := by decide +kernel
/-- EchoVale.sentence()I -/
def F147 (h : zHC) : Option (Int × zHC) := (F148 0 h).bind fun r1 => if ¬ r1.1 = 0 then (F155 0 1 (hset r1.2 321 0 0 0)).bind fun r2 => some ((r2 384 0 0), r2) else some ((wsub (-1) (r1.2 323 0 0)), (hset r1.2 321 0 0 0))
set_option maxRecDepth 100000 in
theorem S147 {spec : zRn zH2} {hm : zHM} {o : Int → Int} {d : Nat} (hd : 388 ≤ d) (h : zHC) (v : (Int × zHC)) (e : F147 h = some v) : zRu2 spec d 147 [(21, 0)] (h, hm, o) (some (0, v.1)) (v.2, hm, o) := by
  refine zF_in (D := 387) (mx := 2) (L := [some (21, 0), none]) (by decide +kernel) rfl rfl hd (fun d hd => ?_)
  unfold F147 at e
  obtain ⟨r1, q1, e⟩ := zB_s e
  refine zF_blk (m := []) (d := 0) (b := B147_0) (gs := []) (c' := (8, [some (21, 0), none], [(19, 0), (17, 0)], (h, hm, o))) K147_0 rfl trivial ?_
  refine zF_call (k := 148) (cl := 7) (n := 2) (i := .invokevirtual 344) (args := [(17, 0), (19, 0)]) (rest := []) (g1 := (r1.2, hm, o)) (r1 := some (0, r1.1)) (by decide +kernel) rfl rfl rfl (st' := [(0, r1.1)]) rfl (S148 (Nat.le_trans (by decide) hd) 0 h _ q1) ?_
  rcases zI_s e with ⟨q2, e⟩ | ⟨q2, e⟩
  · refine zF_blk (m := []) (d := 1) (b := B147_5) (gs := [¬ r1.1 = 0]) (c' := (34, [some (21, 0), some (0, r1.1)], [], ((hset r1.2 321 0 0 0), hm, o))) K147_5 rfl ⟨q2, trivial⟩ ?_
    obtain ⟨r2, q3, e⟩ := zB_s e
    refine zF_blk (m := []) (d := 0) (b := B147_1) (gs := []) (c' := (45, [some (21, 0), some (0, r1.1)], [(16, 1), (16, 0)], ((hset r1.2 321 0 0 0), hm, o))) K147_1 rfl trivial ?_
    refine zF_call (k := 155) (cl := 6) (n := 2) (i := .invokevirtual 348) (args := [(16, 0), (16, 1)]) (rest := []) (g1 := (r2, hm, o)) (r1 := none) (by decide +kernel) rfl rfl rfl (st' := []) rfl (S155 (Nat.le_trans (by decide) hd) 0 1 (hset r1.2 321 0 0 0) _ q3) ?_
    refine zF_blk (m := []) (d := 0) (b := B147_2) (gs := []) (c' := (55, [some (21, 0), some (0, r1.1)], [(0, (r2 384 0 0))], (r2, hm, o))) K147_2 rfl trivial ?_
    exact zF_riC (by decide +kernel) e
  · refine zF_blk (m := []) (d := 0) (b := B147_5) (gs := [¬ (¬ r1.1 = 0)]) (c' := (24, [some (21, 0), some (0, r1.1)], [], ((hset r1.2 321 0 0 0), hm, o))) K147_5 rfl ⟨q2, trivial⟩ ?_
    refine zF_blk (m := []) (d := 0) (b := B147_3) (gs := []) (c' := (32, [some (21, 0), some (0, r1.1)], [(0, (r1.2 323 0 0)), (0, (-1))], ((hset r1.2 321 0 0 0), hm, o))) K147_3 rfl trivial ?_
    refine zF_blk (m := []) (d := 0) (b := B147_4) (gs := []) (c' := (33, [some (21, 0), some (0, r1.1)], [(0, (wsub (-1) (r1.2 323 0 0)))], ((hset r1.2 321 0 0 0), hm, o))) K147_4 rfl trivial ?_
    exact zF_riC (by decide +kernel) e
