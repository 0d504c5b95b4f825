/-! Reader.packKeywords: the words of the text, packed. -/
def pkT : List (Nat × Int64) := [(0, 0), (0, 12), (0, 385), (0, 12334), (0, 394692), (1, 0), (1, 3), (1, 108), (1, 3465), (1, 110886), (1, 3548358), (2, 0), (2, 16), (2, 517), (2, 16562), (2, 530003), (2, 16960111), (2, 542723566), (3, 0), (3, 13), (3, 431), (3, 13814), (3, 442053), (4, 0), (4, 3), (4, 97), (4, 3117), (4, 99760), (5, 0), (5, 6), (5, 197), (5, 6316), (5, 202132), (6, 0), (6, 19), (6, 622), (6, 19919), (6, 637431), (7, 0), (7, 15), (7, 503), (7, 16110), (7, 515539), (8, 0), (8, 19), (8, 609), (8, 19497), (8, 623908), (9, 0), (9, 8), (9, 261), (9, 8353), (9, 267314), (9, 8554052), (10, 0), (10, 15), (10, 498), (11, 0), (11, 1), (11, 46), (11, 1476), (12, 0), (12, 14), (12, 463), (12, 14836), (13, 0), (13, 12), (13, 399), (13, 12787), (13, 409204), (14, 0), (14, 10), (14, 335), (14, 10729), (14, 343342), (14, 10986964), (15, 0), (15, 15), (15, 486), (16, 0), (16, 2), (16, 89), (17, 0), (17, 23), (17, 751), (17, 24050), (17, 769620), (17, 24627848), (18, 0), (18, 12), (18, 399), (18, 12789), (18, 409252), (19, 0), (19, 8), (19, 271), (19, 8693), (19, 278194), (20, 0), (20, 5), (20, 163), (20, 5224), (20, 167183), (20, 5349861), (20, 171195571), (21, 0)]
theorem d_pk_0 : decode prog_7_method_2_code 0 = .ok (.bipush 21, 2) := by decide +kernel
theorem d_pk_2 : decode prog_7_method_2_code 2 = .ok (.newarray .long, 2) := by decide +kernel
theorem d_pk_4 : decode prog_7_method_2_code 4 = .ok (.astore_n 0, 1) := by decide +kernel
theorem d_pk_5 : decode prog_7_method_2_code 5 = .ok (.iconst 0, 1) := by decide +kernel
theorem d_pk_6 : decode prog_7_method_2_code 6 = .ok (.istore_n 1, 1) := by decide +kernel
theorem d_pk_7 : decode prog_7_method_2_code 7 = .ok (.lconst 0, 1) := by decide +kernel
theorem d_pk_8 : decode prog_7_method_2_code 8 = .ok (.lstore_n 2, 1) := by decide +kernel
theorem d_pk_9 : decode prog_7_method_2_code 9 = .ok (.iconst 0, 1) := by decide +kernel
theorem d_pk_10 : decode prog_7_method_2_code 10 = .ok (.istore 4, 2) := by decide +kernel
theorem d_pk_12 : decode prog_7_method_2_code 12 = .ok (.iload 4, 2) := by decide +kernel
theorem d_pk_14 : decode prog_7_method_2_code 14 = .ok (.ldc 23, 2) := by decide +kernel
theorem d_pk_16 : decode prog_7_method_2_code 16 = .ok (.invokevirtual 25, 3) := by decide +kernel
theorem d_pk_19 : decode prog_7_method_2_code 19 = .ok (.if_icmp .ge 51, 3) := by decide +kernel
theorem d_pk_22 : decode prog_7_method_2_code 22 = .ok (.iload_n 1, 1) := by decide +kernel
theorem d_pk_23 : decode prog_7_method_2_code 23 = .ok (.bipush 21, 2) := by decide +kernel
theorem d_pk_25 : decode prog_7_method_2_code 25 = .ok (.if_icmp .ge 45, 3) := by decide +kernel
theorem d_pk_28 : decode prog_7_method_2_code 28 = .ok (.ldc 23, 2) := by decide +kernel
theorem d_pk_30 : decode prog_7_method_2_code 30 = .ok (.iload 4, 2) := by decide +kernel
theorem d_pk_32 : decode prog_7_method_2_code 32 = .ok (.invokevirtual 31, 3) := by decide +kernel
theorem d_pk_35 : decode prog_7_method_2_code 35 = .ok (.bipush 32, 2) := by decide +kernel
theorem d_pk_37 : decode prog_7_method_2_code 37 = .ok (.if_icmp .ne 15, 3) := by decide +kernel
theorem d_pk_40 : decode prog_7_method_2_code 40 = .ok (.aload_n 0, 1) := by decide +kernel
theorem d_pk_41 : decode prog_7_method_2_code 41 = .ok (.iload_n 1, 1) := by decide +kernel
theorem d_pk_42 : decode prog_7_method_2_code 42 = .ok (.lload_n 2, 1) := by decide +kernel
theorem d_pk_43 : decode prog_7_method_2_code 43 = .ok (.lastore, 1) := by decide +kernel
theorem d_pk_44 : decode prog_7_method_2_code 44 = .ok (.iinc 1 1, 3) := by decide +kernel
theorem d_pk_47 : decode prog_7_method_2_code 47 = .ok (.lconst 0, 1) := by decide +kernel
theorem d_pk_48 : decode prog_7_method_2_code 48 = .ok (.lstore_n 2, 1) := by decide +kernel
theorem d_pk_49 : decode prog_7_method_2_code 49 = .ok (.goto 15, 3) := by decide +kernel
theorem d_pk_52 : decode prog_7_method_2_code 52 = .ok (.lload_n 2, 1) := by decide +kernel
theorem d_pk_53 : decode prog_7_method_2_code 53 = .ok (.ldc 23, 2) := by decide +kernel
theorem d_pk_55 : decode prog_7_method_2_code 55 = .ok (.iload 4, 2) := by decide +kernel
theorem d_pk_57 : decode prog_7_method_2_code 57 = .ok (.invokevirtual 31, 3) := by decide +kernel
theorem d_pk_60 : decode prog_7_method_2_code 60 = .ok (.invokestatic 35, 3) := by decide +kernel
theorem d_pk_63 : decode prog_7_method_2_code 63 = .ok (.lstore_n 2, 1) := by decide +kernel
theorem d_pk_64 : decode prog_7_method_2_code 64 = .ok (.iinc 4 1, 3) := by decide +kernel
theorem d_pk_67 : decode prog_7_method_2_code 67 = .ok (.goto (-55), 3) := by decide +kernel
theorem d_pk_70 : decode prog_7_method_2_code 70 = .ok (.aload_n 0, 1) := by decide +kernel
theorem d_pk_71 : decode prog_7_method_2_code 71 = .ok (.areturn, 1) := by decide +kernel
theorem d_wl_0 : decode prog_7_method_3_code 0 = .ok (.lload_n 0, 1) := by decide +kernel
theorem d_wl_1 : decode prog_7_method_3_code 1 = .ok (.iconst 5, 1) := by decide +kernel
theorem d_wl_2 : decode prog_7_method_3_code 2 = .ok (.lshl, 1) := by decide +kernel
theorem d_wl_3 : decode prog_7_method_3_code 3 = .ok (.iload_n 2, 1) := by decide +kernel
theorem d_wl_4 : decode prog_7_method_3_code 4 = .ok (.bipush 97, 2) := by decide +kernel
theorem d_wl_6 : decode prog_7_method_3_code 6 = .ok (.isub, 1) := by decide +kernel
theorem d_wl_7 : decode prog_7_method_3_code 7 = .ok (.iconst 1, 1) := by decide +kernel
theorem d_wl_8 : decode prog_7_method_3_code 8 = .ok (.iadd, 1) := by decide +kernel
theorem d_wl_9 : decode prog_7_method_3_code 9 = .ok (.i2l, 1) := by decide +kernel
theorem d_wl_10 : decode prog_7_method_3_code 10 = .ok (.lor, 1) := by decide +kernel
theorem d_wl_11 : decode prog_7_method_3_code 11 = .ok (.lreturn, 1) := by decide +kernel
def pkn (k : Nat) : Nat := (pkT.getD k (0, 0)).1
def pka (k : Nat) : Int64 := (pkT.getD k (0, 0)).2
def pkg (j : Nat) : Int64 := Int64.ofInt (kwf j)
def pkL (a : Int64) (c : Int32) : Int64 := (a <<< ((5 : Int32).toInt64 &&& 63)) ||| (c - 97 + 1).toInt64
def pkf (n : Nat) : Nat → Int64 := fun j => if j < n then pkg j else 0
def pkc (k : Nat) : Bool := Nat.blt (pkn k) 21 && (match decide (st_b.getD k 0 = 32) with
  | true => Nat.beq (pkn (k + 1)) (pkn k + 1) && (decide (pka (k + 1) = 0) && decide (pka k = pkg (pkn k)))
  | false => Nat.beq (pkn (k + 1)) (pkn k) && decide (pka (k + 1) = pkL (pka k) (st_b.getD k 0)))
theorem kq_ok : (List.range 105).all pkc = true := by decide +kernel
theorem kq_end : pkn 105 = 21 ∧ pkn 0 = 0 ∧ pka 0 = 0 := by decide +kernel
theorem kq_rng : (List.range 21).all (fun j => decide (-9223372036854775808 ≤ kwf j) && decide (kwf j < 9223372036854775808)) = true := by decide +kernel
theorem kq_inc {k : Nat} (hk : k < 105) : Int32.ofNat k + Int32.ofInt 1 = Int32.ofNat (k + 1) := by
  have h : (List.range 105).all (fun k => decide (Int32.ofNat k + Int32.ofInt 1 = Int32.ofNat (k + 1))) = true := by decide +kernel
  exact of_decide_eq_true (List.all_eq_true.mp h k (List.mem_range.mpr hk))
theorem kq_lt {k : Nat} (hk : k < 105) : ¬ (105 : Int32) ≤ Int32.ofNat k := by
  have h : (List.range 105).all (fun k => decide (¬ (105 : Int32) ≤ Int32.ofNat k)) = true := by decide +kernel
  exact of_decide_eq_true (List.all_eq_true.mp h k (List.mem_range.mpr hk))
theorem kq_n {n : Nat} (hn : n < 21) : ¬ (21 : Int32) ≤ Int32.ofNat n ∧ vp_in (Int32.ofNat n) 21 ∧ (Int32.ofNat n).toNatClampNeg = n := by
  have h : (List.range 21).all (fun n => decide (¬ (21 : Int32) ≤ Int32.ofNat n) && (decide (¬ (Int32.ofNat n < 0 ∨ 21 ≤ (Int32.ofNat n).toNatClampNeg)) && decide ((Int32.ofNat n).toNatClampNeg = n))) = true := by decide +kernel
  have h1 := List.all_eq_true.mp h n (List.mem_range.mpr hn)
  rw [Bool.and_eq_true, Bool.and_eq_true, decide_eq_true_eq, decide_eq_true_eq, decide_eq_true_eq] at h1
  exact h1
theorem kq_up {n : Nat} : vp_updL (pkf n) n (pkg n) = pkf (n + 1) := by
  funext j
  unfold vp_updL pkf
  by_cases e : j = n
  · subst e
    rw [if_pos rfl, if_pos (Nat.lt_succ_self _)]
  · rw [if_neg e]
    by_cases q : j < n
    · rw [if_pos q, if_pos (by omega)]
    · rw [if_neg q, if_neg (by omega)]
theorem kq_fin : pkf 21 = fun j => Int64.ofInt (kwf j) := by
  funext j
  unfold pkf
  by_cases q : j < 21
  · rw [if_pos q]; rfl
  · rw [if_neg q]
    have e : kw (j : Int) = [] := by
      unfold kw
      rw [show ((j : Int)).toNat = j from by omega, List.getD_eq_getElem?_getD, List.getElem?_eq_none (by show 21 ≤ j; omega)]
      rfl
    unfold kwf
    rw [e]
    rfl
theorem gw_92 : Cond.methodLink "EchoVale$Reader" 35 ⟨"EchoVale$Reader", "withLetter", "(JI)J"⟩ ∈ zGW := zG_at (i := 92) (by decide +kernel) (by decide +kernel)
theorem gw_93 : Cond.static ⟨"EchoVale$Reader", "withLetter", "(JI)J"⟩ ∈ zGW := zG_at (i := 93) (by decide +kernel) (by decide +kernel)
theorem gw_94 : Cond.code ⟨"EchoVale$Reader", "withLetter", "(JI)J"⟩ prog_7_method_3_code 3 (some .long) ∈ zGW := zG_at (i := 94) (by decide +kernel) (by decide +kernel)
abbrev yWl : MethodName := ⟨"EchoVale$Reader", "withLetter", "(JI)J"⟩
set_option maxHeartbeats 2000000 in
theorem sj_wl (l : Launch) {a : Int64} {c0 : Int32} : Met l yWl (Cond.code yWl prog_7_method_3_code 3 (some .long) :: zGW) { frames := 0, cells := 0, slots := 0, locals := 0 } (va_Pc [.long a, .int c0] (fun _ => True)) (k2_QcV (.long (pkL a c0))) 0 0 (fun _ => False) := by
  refine Met.ofW (cc := prog_7_method_3_code) (maxL := 3) (ret := some .long) (by decide) rfl ?_
  intro p e s m args below meth c s₁ B hml hv
  obtain ⟨rfl, -⟩ := hv
  have hx := B.exec
  have hb := B.bytes
  have hr := B.returns
  have hlocks := B.notSynchronized
  have hl := lv_entry ([.long a, .int c0]) (n := 3) (Nat.le_of_ble_eq_true rfl)
  rw [lg_entry_eq]
  generalize (lg_sl ([.long a, .int c0]) ++ List.replicate (3 - (lg_sl ([.long a, .int c0])).length) Slot.unset).toArray = ls at hl ⊢
  have hl : lv_has ls 3 [(0, .long a), (2, .int c0)] := hl
  refine lv_lload_n hx hb d_wl_0 rfl (lv_at hl 0 rfl) ?_
  refine lv_iconst (v := 5) hx hb d_wl_1 rfl ?_
  refine lv_lshl (v := a <<< ((5 : Int32).toInt64 &&& 63)) hx hb d_wl_2 rfl ?_
  refine lv_iload_n hx hb d_wl_3 rfl (lv_at hl 1 rfl) ?_
  refine lv_bipush (v := 97) hx hb d_wl_4 rfl ?_
  refine lv_isub hx hb d_wl_6 ?_
  refine lv_iconst (v := 1) hx hb d_wl_7 rfl ?_
  refine lv_iadd hx hb d_wl_8 ?_
  refine lv_i2l (v := (c0 - 97 + 1).toInt64) hx hb d_wl_9 rfl ?_
  refine lv_lor hx hb d_wl_10 ?_
  exact W.lret (v := pkL a c0) hx hb hr (fun t ht hW => ⟨rfl, ht⟩) (fun _ h => nomatch h) d_wl_11
/-- words that the tables alone decide, of a throw, which aren't good ones -/
def kNG : List Cond := [.castable "java/util/NoSuchElementException" "java/util/NoSuchElementException", .declares (Bundle.initS "java/lang/RuntimeException"), .declares (Bundle.initS "java/lang/Exception"), .declares (Bundle.initS Bundle.tN)]
theorem kNG_warm {u U : State} (hW : u.WarmedH U.vm) (h : ∀ w ∈ kNG, va_Nw w u) : ∀ w ∈ kNG, va_Nw w U := by
  intro w hw
  have h1 := h w hw
  simp only [kNG, List.mem_cons, List.not_mem_nil, or_false] at hw
  rcases hw with rfl | rfl | rfl | rfl
  · exact va_Nw.warmC hW h1
  · exact va_Nw.warmD hW h1
  · exact va_Nw.warmD hW h1
  · exact va_Nw.warmD hW h1
/-- what is known of the old heap, all along -/
def KK (bs : Nat) (sk sv : Nat → Nat) (ac : Nat × Nat × Nat) (U : State) (H : Heap) : Prop := sj bs sk sv U H ∧ vk_R "EchoVale$Reader" 23 st_x (sk 0) U ∧ vk_R "EchoVale" 145 "no such cliff" ac.1 U ∧ vk_R "EchoVale" 175 "no such person" ac.2.1 U ∧ vk_R "EchoVale" 194 "no such saying" ac.2.2 U ∧ vx_Zq Bundle.tN "UNASSIGNED_STACK" Bundle.steD (fun q => bs ≤ q) U H ∧ vx_Zq Bundle.tN "SUPPRESSED_SENTINEL" Bundle.listD (fun q => bs ≤ q) U H ∧ ∀ w ∈ kNG, va_Nw w U
theorem KK_keep {bs : Nat} {sk sv : Nat → Nat} {ac : Nat × Nat × Nat} : zKeep bs (KK bs sk sv ac) := fun u U H H1 hW h hq => ⟨sj_keep u U H H1 hW h.1 hq, vk_R.warm hW h.2.1, vk_R.warm hW h.2.2.1, vk_R.warm hW h.2.2.2.1, vk_R.warm hW h.2.2.2.2.1, (vx_Zq.moved hW.alike h.2.2.2.2.2.1).kept hq, (vx_Zq.moved hW.alike h.2.2.2.2.2.2.1).kept hq, kNG_warm hW h.2.2.2.2.2.2.2⟩
section PK
variable {p : Program} {l : Launch} {e : Env} {R : Room} {s : State} {m : MethodId} {args : Array Value} {below : List Frame} {meth : Method} {c : Code} {Q : State → Prop}
variable {D : va_G} {A : Nat → Prop}
set_option maxHeartbeats 4000000 in
theorem kq_loop {bs : Nat} {sk sv : Nat → Nat} {q : Nat} {cA : ClassId} {ws : va_W} {tys : List (ClassId × FieldType)} (hRf : 8 ≤ R.frames) (hRl : 480 ≤ R.locals) (hRc : 1 ≤ R.cells) (hRs : 21 ≤ R.slots) (hx : p.tables.exec = Jvm.exec) (hb : c.code = prog_7_method_2_code) (hml : c.maxLocals = 5) (hown : s.vm.findClass "EchoVale$Reader" = some m.cls) (hts : ∀ w ∈ zGW, w.before args s = true)
    (hJ : sj bs sk sv s s.heap) (hR : vk_R "EchoVale$Reader" 23 st_x (sk 0) s) (hA : ∀ x, A x → bs ≤ x) (hK : va_K D vwCl (tys ++ [(cA, .long)]) s)
    (kk : ∀ (ls : Array Slot) (H : Heap) (locs : List Loc), lv_has ls 5 [(0, .ref q)] → va_P D vwCl (ws ++ [(q, .inl (cA, 21, .inr (.inl (pkf 21))))]) H → va_D A (ws ++ [(q, .inl (cA, 21, .inr (.inl (pkf 21))))]) → va_S A s.heap H locs → W p l e R s m args below meth c H locs 1 21 Q (F0 m 70 ls [])) :
    ∀ (n k : Nat) (ls : Array Slot) (H : Heap) (locs : List Loc), k + n = 105 → lv_has ls 5 [(4, .int (Int32.ofNat k)), (2, .long (pka k)), (1, .int (Int32.ofNat (pkn k))), (0, .ref q)] → va_P D vwCl (ws ++ [(q, .inl (cA, 21, .inr (.inl (pkf (pkn k)))))]) H → va_D A (ws ++ [(q, .inl (cA, 21, .inr (.inl (pkf (pkn k)))))]) → va_S A s.heap H locs → W p l e R s m args below meth c H locs 1 21 Q (F0 m 12 ls []) := by
  have hq0 : ∀ f : Nat → Int64, (ws ++ [((q, .inl (cA, 21, .inr (.inl f))) : Nat × va_E)])[ws.length]? = some (q, .inl (cA, 21, .inr (.inl f))) := fun f => by simp
  have ht0 : (tys ++ [(cA, FieldType.long)])[tys.length]? = some (cA, .long) := by simp
  have hset : ∀ f g : Nat → Int64, (ws ++ [((q, .inl (cA, 21, .inr (.inl f))) : Nat × va_E)]).set ws.length (q, .inl (cA, 21, .inr (.inl g))) = ws ++ [(q, .inl (cA, 21, .inr (.inl g)))] := fun f g => by simp
  intro n
  induction n with
  | zero =>
    intro k ls H locs hkn hl hP hD hS
    have hk : k = 105 := by omega
    subst hk
    have hJH : sj bs sk sv s H := sj_keep s s s.heap H (State.WarmedH.refl s) hJ (fun a ha hb => hS.2.1 a ha (fun z => hb (hA a z)))
    refine lv_iload hx hb d_pk_12 (lv_at hl 0 rfl) ?_
    refine va_ldcS hx hb hown hR d_pk_14 ?_
    refine W.callR (r := 105) (a := ([.ref (sk 0)] : List Value).toArray) (W.runV (C := "java/lang/String") (As := []) (rest := [.int (Int32.ofNat 105)]) ⟨hx, hb, hml, hown, hts⟩ (sj_len l (bs := bs) (sk := sk) (sv := sv)) ⟨jc (n := 0) hts gw_44 gw_3 gw_47 (by decide +kernel) ⟨by show 1 + 1 ≤ R.frames; omega, by show 8 + (1 + 11) + 20 ≤ R.locals; omega⟩ rfl rfl, hts _ gw_45, hts _ gw_46⟩ ⟨sj_blind, jv hJH 0 (by decide) rfl, fun U hU hW => ⟨rfl, sj_keep s U H U.heap hW hJH (fun a _ _ => by rw [hU])⟩⟩ rfl rfl hl.1 rfl (lv_room (Nat.le_of_ble_eq_true rfl)) d_pk_16 ⟨hRc, hRs⟩) ?_
    refine W.eq (g2 := F0 m 19 ls [.int 105, .int (Int32.ofNat 105)]) rfl ?_
    refine lv_icmp_ge (tgt := 70) hx hb d_pk_19 rfl (fun _ => ?_) (fun z => absurd (by decide) z)
    rw [kq_end.1] at hP hD
    exact kk ls H locs (lv_sub hl [3] rfl) hP hD hS
  | succ n ih =>
    intro k ls H locs hkn hl hP hD hS
    have hk : k < 105 := by omega
    have hc := List.all_eq_true.mp kq_ok k (List.mem_range.mpr hk)
    unfold pkc at hc
    rw [Bool.and_eq_true] at hc
    obtain ⟨c1, c2⟩ := hc
    have c1 : pkn k < 21 := Nat.le_of_ble_eq_true c1
    obtain ⟨n1, n2, n3⟩ := kq_n c1
    have hJH : sj bs sk sv s H := sj_keep s s s.heap H (State.WarmedH.refl s) hJ (fun a ha hb => hS.2.1 a ha (fun z => hb (hA a z)))
    refine lv_iload hx hb d_pk_12 (lv_at hl 0 rfl) ?_
    refine va_ldcS hx hb hown hR d_pk_14 ?_
    refine W.callR (r := 105) (a := ([.ref (sk 0)] : List Value).toArray) (W.runV (C := "java/lang/String") (As := []) (rest := [.int (Int32.ofNat k)]) ⟨hx, hb, hml, hown, hts⟩ (sj_len l (bs := bs) (sk := sk) (sv := sv)) ⟨jc (n := 0) hts gw_44 gw_3 gw_47 (by decide +kernel) ⟨by show 1 + 1 ≤ R.frames; omega, by show 8 + (1 + 11) + 20 ≤ R.locals; omega⟩ rfl rfl, hts _ gw_45, hts _ gw_46⟩ ⟨sj_blind, jv hJH 0 (by decide) rfl, fun U hU hW => ⟨rfl, sj_keep s U H U.heap hW hJH (fun a _ _ => by rw [hU])⟩⟩ rfl rfl hl.1 rfl (lv_room (Nat.le_of_ble_eq_true rfl)) d_pk_16 ⟨hRc, hRs⟩) ?_
    refine W.eq (g2 := F0 m 19 ls [.int 105, .int (Int32.ofNat k)]) rfl ?_
    refine lv_icmp_ge (tgt := 70) hx hb d_pk_19 rfl (fun z => absurd z (kq_lt hk)) (fun _ => ?_)
    refine lv_iload_n hx hb d_pk_22 rfl (lv_at hl 2 rfl) ?_
    refine lv_bipush (v := 21) hx hb d_pk_23 rfl ?_
    refine lv_icmp_ge (tgt := 70) hx hb d_pk_25 rfl (fun z => absurd z n1) (fun _ => ?_)
    refine va_ldcS hx hb hown hR d_pk_28 ?_
    refine lv_iload hx hb d_pk_30 (lv_at hl 0 rfl) ?_
    refine W.callR (r := st_b.getD k 0) (a := ([.ref (sk 0), .int (Int32.ofNat k)] : List Value).toArray) (W.runV (C := "java/lang/String") (As := [.int (Int32.ofNat k)]) (rest := []) ⟨hx, hb, hml, hown, hts⟩ (sj_cha l (bs := bs) (sk := sk) (sv := sv) hk) ⟨jc (n := 1) hts gw_54 gw_3 gw_57 (by decide +kernel) ⟨by show 3 + 1 ≤ R.frames; omega, by show 8 + (2 + 11) + 64 ≤ R.locals; omega⟩ rfl rfl, hts _ gw_55, hts _ gw_56⟩ ⟨sj_blind, jv hJH 0 (by decide) rfl, fun U hU hW => ⟨rfl, sj_keep s U H U.heap hW hJH (fun a _ _ => by rw [hU])⟩⟩ rfl rfl hl.1 rfl (lv_room (Nat.le_of_ble_eq_true rfl)) d_pk_32 ⟨hRc, hRs⟩) ?_
    refine W.eq (g2 := F0 m 35 ls [.int (st_b.getD k 0)]) rfl ?_
    refine lv_bipush (v := 32) hx hb d_pk_35 rfl ?_
    refine lv_icmp_ne (tgt := 52) hx hb d_pk_37 rfl (fun z => ?_) (fun z => ?_)
    · rw [decide_eq_false z] at c2
      dsimp only at c2
      rw [Bool.and_eq_true, decide_eq_true_eq] at c2
      obtain ⟨c3, c4⟩ := c2
      have c3 := Nat.eq_of_beq_eq_true c3
      refine lv_lload_n hx hb d_pk_52 rfl (lv_at hl 1 rfl) ?_
      refine va_ldcS hx hb hown hR d_pk_53 ?_
      refine lv_iload hx hb d_pk_55 (lv_at hl 0 rfl) ?_
      refine W.callR (r := st_b.getD k 0) (a := ([.ref (sk 0), .int (Int32.ofNat k)] : List Value).toArray) (W.runV (C := "java/lang/String") (As := [.int (Int32.ofNat k)]) (rest := [.long (pka k)]) ⟨hx, hb, hml, hown, hts⟩ (sj_cha l (bs := bs) (sk := sk) (sv := sv) hk) ⟨jc (n := 1) hts gw_54 gw_3 gw_57 (by decide +kernel) ⟨by show 3 + 1 ≤ R.frames; omega, by show 8 + (2 + 11) + 64 ≤ R.locals; omega⟩ rfl rfl, hts _ gw_55, hts _ gw_56⟩ ⟨sj_blind, jv hJH 0 (by decide) rfl, fun U hU hW => ⟨rfl, sj_keep s U H U.heap hW hJH (fun a _ _ => by rw [hU])⟩⟩ rfl rfl hl.1 rfl (lv_room (Nat.le_of_ble_eq_true rfl)) d_pk_57 ⟨hRc, hRs⟩) ?_
      refine W.eq (g2 := F0 m 60 ls [.int (st_b.getD k 0), .long (pka k)]) rfl ?_
      refine W.callV (r := .long (pkL (pka k) (st_b.getD k 0))) (a := ([.long (pka k), .int (st_b.getD k 0)] : List Value).toArray) (W.runS (As := [.long (pka k), .int (st_b.getD k 0)]) (rest := []) ⟨hx, hb, hml, hown, hts⟩ (sj_wl l) ⟨jc (n := 2) hts gw_92 gw_2 gw_94 (by decide +kernel) ⟨by show 0 + 1 ≤ R.frames; omega, by show 8 + (3 + 11) + 0 ≤ R.locals; omega⟩ rfl rfl, hts _ gw_93⟩ ⟨fun a U g mk q => ⟨q.1, trivial⟩, fun U hU hW => ⟨rfl, trivial⟩⟩ rfl rfl hl.1 rfl (lv_room (Nat.le_of_ble_eq_true rfl)) d_pk_60 ⟨hRc, hRs⟩) ?_
      refine W.eq (g2 := F0 m 63 ls [.long (pkL (pka k) (st_b.getD k 0))]) rfl ?_
      rw [← c4]
      refine lv_lstore_n (lv' := [(2, .long (pka (k + 1))), (4, .int (Int32.ofNat k)), (1, .int (Int32.ofNat (pkn k))), (0, .ref q)]) hx hb d_pk_63 rfl hl (by decide) rfl (fun ls1 hl1 => ?_)
      refine lv_iinc (k := 1) (v := Int32.ofNat (k + 1)) (lv' := [(4, .int (Int32.ofNat (k + 1))), (2, .long (pka (k + 1))), (1, .int (Int32.ofNat (pkn k))), (0, .ref q)]) hx hb d_pk_64 hl1 rfl (kq_inc hk) (by decide) rfl (fun ls2 hl2 => ?_)
      refine lv_goto (tgt := 12) hx hb d_pk_67 rfl ?_
      rw [← c3] at hl2 hP hD
      exact ih (k + 1) ls2 H locs (by omega) hl2 hP hD hS
    · rw [decide_eq_true z] at c2
      dsimp only at c2
      rw [Bool.and_eq_true, Bool.and_eq_true, decide_eq_true_eq, decide_eq_true_eq] at c2
      obtain ⟨c3, c4, c5⟩ := c2
      have c3 := Nat.eq_of_beq_eq_true c3
      refine lv_aload_n hx hb d_pk_40 rfl (lv_at hl 3 rfl) ?_
      refine lv_iload_n hx hb d_pk_41 rfl (lv_at hl 2 rfl) ?_
      refine lv_lload_n hx hb d_pk_42 rfl (lv_at hl 1 rfl) ?_
      refine va_last hx hb hK hP hD hS ws.length tys.length (hq0 _) ht0 n2 d_pk_43 (fun H1 locs1 hP1 hD1 hS1 => ?_)
      rw [hset, n3, c5, kq_up, ← c3] at hP1 hD1
      refine lv_iinc (k := 2) (v := Int32.ofNat (pkn (k + 1))) (lv' := [(1, .int (Int32.ofNat (pkn (k + 1)))), (4, .int (Int32.ofNat k)), (2, .long (pka k)), (0, .ref q)]) hx hb d_pk_44 hl rfl (by rw [c3]; exact kq_inc (by omega)) (by decide) rfl (fun ls1 hl1 => ?_)
      refine lv_lconst (v := 0) hx hb d_pk_47 rfl ?_
      rw [← c4]
      refine lv_lstore_n (lv' := [(2, .long (pka (k + 1))), (1, .int (Int32.ofNat (pkn (k + 1)))), (4, .int (Int32.ofNat k)), (0, .ref q)]) hx hb d_pk_48 rfl hl1 (by decide) rfl (fun ls2 hl2 => ?_)
      refine lv_goto (tgt := 64) hx hb d_pk_49 rfl ?_
      refine lv_iinc (k := 2) (v := Int32.ofNat (k + 1)) (lv' := [(4, .int (Int32.ofNat (k + 1))), (2, .long (pka (k + 1))), (1, .int (Int32.ofNat (pkn (k + 1)))), (0, .ref q)]) hx hb d_pk_64 hl2 rfl (kq_inc hk) (by decide) rfl (fun ls3 hl3 => ?_)
      refine lv_goto (tgt := 12) hx hb d_pk_67 rfl ?_
      exact ih (k + 1) ls3 H1 locs1 (by omega) hl3 hP1 hD1 hS1
end PK
theorem kq_zm : zmY 2 = ⟨"EchoVale$Reader", "packKeywords", "()[J"⟩ ∧ zmCode 2 = prog_7_method_2_code ∧ zmMax 2 = 5 ∧ zmRet 2 = some (.array .long) := by decide +kernel
set_option maxHeartbeats 4000000 in
theorem z_pack {l : Launch} {bs : Nat} {sk sv : Nat → Nat} {ac : Nat × Nat × Nat} {d : Nat} {h : zH1} (hd : 7 ≤ d) : zMetK l bs (KK bs sk sv ac) (d + 1) 2 [] h (some (2, (h.length : Int))) (h ++ [((21, 21, kwf) : zCe)]) := by
  refine ⟨by simp, by rw [zSl_app]; omega, fun D b as ca sz _ => ?_⟩
  have e1 : (h ++ [((21, 21, kwf) : zCe)]).length - h.length = 1 := by simp
  have e2 : zSl (h ++ [((21, 21, kwf) : zCe)]) - zSl h = 21 := by
    rw [zSl_app]
    show zSl h + 21 - zSl h = 21
    omega
  rw [e1, e2]
  obtain ⟨z1, z2, z3, z4⟩ := kq_zm
  have hwd : zWd 2 = Cond.code ⟨"EchoVale$Reader", "packKeywords", "()[J"⟩ prog_7_method_2_code 5 (some (.array .long)) :: zGW := by
    unfold zWd
    rw [z1, z2, z3, z4]
  rw [hwd, z1]
  refine Met.ofW (cc := prog_7_method_2_code) (maxL := 5) (ret := some (.array .long)) (by decide) rfl ?_
  intro p e s m args below meth c s₁ B hml hv
  obtain ⟨rfl, hsz, ⟨a1, a2, a3, a4, a5, a6⟩, aK, aB, aS⟩ := hv
  have hx := B.exec
  have hb := B.bytes
  have hr := B.returns
  have hts0 := atoms_spec (ws := Cond.code ⟨"EchoVale$Reader", "packKeywords", "()[J"⟩ prog_7_method_2_code 5 (some (.array .long)) :: zGW) B.pre
  have hts : ∀ w ∈ zGW, w.before ((([] : List zAv).map (cv b as)).toArray) s = true := fun w hw => hts0 w (List.mem_cons_of_mem _ hw)
  have hown : s.vm.findClass "EchoVale$Reader" = some m.cls := findClass_of_methodNamed B.named
  have hlocks := B.notSynchronized
  subst hsz
  generalize hAe : va_A (zWs as ca h) s.heap.size = A
  have hA : ∀ q : Nat, s.heap.size ≤ q → A q := fun q h => by rw [← hAe]; exact Or.inr h
  have hAb : ∀ q, A q → bs ≤ q := fun q hq => by
    rw [← hAe] at hq
    rcases hq with ⟨k, ee, hk⟩ | hq
    · obtain ⟨q1, q2⟩ := zWs_inv hk
      rw [q2]
      exact aS k q1
    · exact Nat.le_trans aB hq
  have hD : va_D A (zWs as ca h) := by rw [← hAe]; exact a4.self
  obtain ⟨tys, hK, hty⟩ := a2
  have hS : va_S A s.heap s.heap [] := va_S.rf
  have hl := lv_entry ([] : List Value) (n := 5) (Nat.le_of_ble_eq_true rfl)
  rw [show ((([] : List zAv).map (cv b as)).toArray) = (([] : List Value).toArray) from rfl, lg_entry_eq]
  generalize (lg_sl ([] : List Value) ++ List.replicate (5 - (lg_sl ([] : List Value)).length) Slot.unset).toArray = ls at hl ⊢
  have hl : lv_has ls 5 [] := hl
  refine lv_bipush (v := 21) hx hb d_pk_0 rfl ?_
  refine va_newa (atype := .long) (a0 := (21, .inr (.inl (fun _ => 0)))) (N' := 21) hx hb (hts _ zp_aJ) rfl hK a3 hD hS hA (fun _ => rfl) (by decide) (by decide) (by decide) (by show 0 + 1 ≤ 1; omega) (by show 0 + 21 ≤ 21; omega) d_pk_2 (fun q cA H1 hK1 hP1 hD1 hS1 => ?_)
  refine W.eq (g2 := F0 m 4 ls [.ref q]) rfl ?_
  refine lv_astore_n (lv' := [(0, .ref q)]) hx hb d_pk_4 rfl hl (by decide) rfl (fun ls1 hl1 => ?_)
  refine lv_iconst (v := 0) hx hb d_pk_5 rfl ?_
  refine lv_istore_n (lv' := [(1, .int 0), (0, .ref q)]) hx hb d_pk_6 rfl hl1 (by decide) rfl (fun ls2 hl2 => ?_)
  refine lv_lconst (v := 0) hx hb d_pk_7 rfl ?_
  refine lv_lstore_n (lv' := [(2, .long 0), (1, .int 0), (0, .ref q)]) hx hb d_pk_8 rfl hl2 (by decide) rfl (fun ls3 hl3 => ?_)
  refine lv_iconst (v := 0) hx hb d_pk_9 rfl ?_
  refine lv_istore (lv' := [(4, .int 0), (2, .long 0), (1, .int 0), (0, .ref q)]) hx hb d_pk_10 hl3 (by decide) rfl (fun ls4 hl4 => ?_)
  have f0 : (fun _ => (0 : Int64)) = pkf (pkn 0) := by
    rw [kq_end.2.1]
    rfl
  rw [f0] at hP1 hD1
  refine kq_loop (cA := cA) (q := q) (ws := zWs as ca h) (tys := tys) (by show 8 ≤ d + 1; omega) (by show 480 ≤ 60 * (d + 1); omega) (by show 1 ≤ 1; omega) (by show 21 ≤ 21; omega) hx hb hml hown hts aK.1 aK.2.1 hAb hK1 ?_ 105 0 ls4 H1 [] rfl (by rw [kq_end.2.1, kq_end.2.2]; exact hl4) hP1 hD1 hS1
  intro ls5 H2 locs2 hl5 hP2 hD2 hS2
  rw [kq_fin] at hP2 hD2
  refine lv_aload_n hx hb d_pk_70 rfl (lv_at hl5 0 rfl) ?_
  have hwf : ∀ (k : Nat) (c : zCe), h[k]? = some c → wfc as.length c := fun k c hk => by rw [a1]; exact a5 k c hk
  have hlen : (h ++ [((21, 21, kwf) : zCe)]).length = h.length + 1 := by simp
  have hcell : ∀ (k : Nat) (c : zCe), (h ++ [((21, 21, kwf) : zCe)])[k]? = some c → (k < h.length ∧ h[k]? = some c) ∨ (k = h.length ∧ c = (21, 21, kwf)) := by
    intro k c hk
    by_cases q : k < h.length
    · rw [List.getElem?_append_left q] at hk
      exact Or.inl ⟨q, hk⟩
    · rw [List.getElem?_append_right (by omega)] at hk
      have hz := (List.getElem?_eq_some_iff.mp hk).1
      have hz : k - h.length = 0 := by
        have : k - h.length < 1 := hz
        omega
      rw [hz] at hk
      exact Or.inr ⟨by omega, (Option.some.inj hk).symm⟩
  refine W.aret (v := .ref q) (rt := .array .long) hx hb hr (Or.inr ⟨_, rfl⟩) (Or.inr ⟨_, rfl⟩) (fun t ht hW => ⟨⟨as ++ [q], fun k => if k = h.length then cA else ca k, ?_, List.prefix_append _ _, by simp [a1], ?_, by rw [ht]; exact zP_app a1 hwf hP2, by rw [hAe]; exact zD_app a1 hD2, ?_, ?_⟩, ?_⟩) hS2.2.2 d_pk_71
  · show Outcome.returned (some (.ref q)) = .returned (some (.ref ((as ++ [q]).getD ((h.length : Int)).toNat 0)))
    rw [show ((h.length : Int)).toNat = as.length by rw [a1]; omega, getD_last]
  · refine ⟨tys ++ [(cA, .long)], va_K.moved hW.alike hK1, fun k c hk h20 => ?_⟩
    rcases hcell k c hk with ⟨k1, k2⟩ | ⟨k1, k2⟩
    · obtain ⟨t0, ht0⟩ := hty k c k2 h20
      refine ⟨t0, ?_⟩
      dsimp only
      rw [if_neg (by omega), List.getElem?_append_left (List.getElem?_eq_some_iff.mp ht0).1]
      exact ht0
    · subst k2
      refine ⟨tys.length, ?_⟩
      dsimp only
      rw [if_pos k1]
      simp [zAk]
  · intro k c hk
    rcases hcell k c hk with ⟨k1, k2⟩ | ⟨k1, k2⟩
    · exact wfc_up (by rw [hlen]; omega) (a5 k c k2)
    · subst k2
      refine Or.inr ⟨by decide, by decide, by decide, fun j hj => ?_⟩
      have h1 := List.all_eq_true.mp kq_rng j (List.mem_range.mpr hj)
      rw [Bool.and_eq_true, decide_eq_true_eq, decide_eq_true_eq] at h1
      exact h1
  · intro a ha
    cases ha
    refine ⟨?_, ?_⟩
    · show (0 : Int) ≤ (h.length : Int)
      omega
    · show (h.length : Int) < ((h ++ [((21, 21, kwf) : zCe)]).length : Int)
      rw [hlen]
      omega
  · rw [hAe]
    exact hS2.F ht

