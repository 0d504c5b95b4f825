/-! The one String that the class reads, and the JDK's members that read it. -/
def st_t : Term := .string "EchoVale$Reader" 23
def st_x : String := "land cliff person move camp felt snow owns said heard or and not lost joint of by worth loud hour echoes "
def st_b : List Int32 := [108, 97, 110, 100, 32, 99, 108, 105, 102, 102, 32, 112, 101, 114, 115, 111, 110, 32, 109, 111, 118, 101, 32, 99, 97, 109, 112, 32, 102, 101, 108, 116, 32, 115, 110, 111, 119, 32, 111, 119, 110, 115, 32, 115, 97, 105, 100, 32, 104, 101, 97, 114, 100, 32, 111, 114, 32, 97, 110, 100, 32, 110, 111, 116, 32, 108, 111, 115, 116, 32, 106, 111, 105, 110, 116, 32, 111, 102, 32, 98, 121, 32, 119, 111, 114, 116, 104, 32, 108, 111, 117, 100, 32, 104, 111, 117, 114, 32, 101, 99, 104, 111, 101, 115, 32]
def st_w (j : Nat) : Cond := .eq (.elem (.field st_t "java/lang/String" "value" "[B") (.int (Int32.ofNat j))) (.int (st_b.getD j 0))
def st_f : List Cond := flatC (Jvm.Cond.and given_1 narrow_1)
theorem st_el : (st_f.drop 58).take 105 = (List.range 105).map st_w := by decide +kernel
theorem st_elm {j : Nat} (hj : j < 105) : st_w j ∈ st_f := by
  have h : st_w j ∈ (st_f.drop 58).take 105 := by
    rw [st_el]
    exact List.mem_map.mpr ⟨j, List.mem_range.mpr hj, rfl⟩
  exact List.mem_of_mem_drop (List.mem_of_mem_take h)
theorem zG_at {i : Nat} {w : Cond} (h : tables_1[i]? = some w) (g : goodWord w = true) : w ∈ zGW := List.mem_filter.mpr ⟨List.mem_append_right _ (List.mem_of_getElem? h), g⟩
theorem gw_3 : (Jvm.Cond.initialized "java/lang/String") ∈ zGW := zG_at (i := 3) (by decide +kernel) (by decide +kernel)
theorem gw_4 : (Jvm.Cond.initialized "java/lang/StringLatin1") ∈ zGW := zG_at (i := 4) (by decide +kernel) (by decide +kernel)
theorem gw_5 : (Jvm.Cond.initialized "jdk/internal/util/Preconditions") ∈ zGW := zG_at (i := 5) (by decide +kernel) (by decide +kernel)
theorem gw_2 : (Jvm.Cond.initialized "EchoVale$Reader") ∈ zGW := zG_at (i := 2) (by decide +kernel) (by decide +kernel)
theorem gw_44 : (Jvm.Cond.methodLink "EchoVale$Reader" (25 : Nat) ({ cls := "java/lang/String", name := "length", desc := "()I" } : Jvm.MethodName)) ∈ zGW := zG_at (i := 44) (by decide +kernel) (by decide +kernel)
theorem gw_45 : (Jvm.Cond.instanceMethod ({ cls := "java/lang/String", name := "length", desc := "()I" } : Jvm.MethodName)) ∈ zGW := zG_at (i := 45) (by decide +kernel) (by decide +kernel)
theorem gw_46 : (Jvm.Cond.selects "java/lang/String" ({ cls := "java/lang/String", name := "length", desc := "()I" } : Jvm.MethodName) ({ cls := "java/lang/String", name := "length", desc := "()I" } : Jvm.MethodName)) ∈ zGW := zG_at (i := 46) (by decide +kernel) (by decide +kernel)
theorem gw_47 : (Jvm.Cond.code ({ cls := "java/lang/String", name := "length", desc := "()I" } : Jvm.MethodName) prog_22_method_54_code (1 : Nat) (Option.some Jvm.ClassFile.FieldType.int)) ∈ zGW := zG_at (i := 47) (by decide +kernel) (by decide +kernel)
theorem gw_48 : (Jvm.Cond.methodLink "java/lang/String" (335 : Nat) ({ cls := "java/lang/String", name := "coder", desc := "()B" } : Jvm.MethodName)) ∈ zGW := zG_at (i := 48) (by decide +kernel) (by decide +kernel)
theorem gw_49 : (Jvm.Cond.instanceMethod ({ cls := "java/lang/String", name := "coder", desc := "()B" } : Jvm.MethodName)) ∈ zGW := zG_at (i := 49) (by decide +kernel) (by decide +kernel)
theorem gw_50 : (Jvm.Cond.selects "java/lang/String" ({ cls := "java/lang/String", name := "coder", desc := "()B" } : Jvm.MethodName) ({ cls := "java/lang/String", name := "coder", desc := "()B" } : Jvm.MethodName)) ∈ zGW := zG_at (i := 50) (by decide +kernel) (by decide +kernel)
theorem gw_51 : (Jvm.Cond.code ({ cls := "java/lang/String", name := "coder", desc := "()B" } : Jvm.MethodName) prog_22_method_152_code (1 : Nat) (Option.some Jvm.ClassFile.FieldType.byte)) ∈ zGW := zG_at (i := 51) (by decide +kernel) (by decide +kernel)
theorem gw_52 : (Jvm.Cond.fieldLink "java/lang/String" (38 : Nat) "java/lang/String" "COMPACT_STRINGS" "Z") ∈ zGW := zG_at (i := 52) (by decide +kernel) (by decide +kernel)
theorem gw_54 : (Jvm.Cond.methodLink "EchoVale$Reader" (31 : Nat) ({ cls := "java/lang/String", name := "charAt", desc := "(I)C" } : Jvm.MethodName)) ∈ zGW := zG_at (i := 54) (by decide +kernel) (by decide +kernel)
theorem gw_55 : (Jvm.Cond.instanceMethod ({ cls := "java/lang/String", name := "charAt", desc := "(I)C" } : Jvm.MethodName)) ∈ zGW := zG_at (i := 55) (by decide +kernel) (by decide +kernel)
theorem gw_56 : (Jvm.Cond.selects "java/lang/String" ({ cls := "java/lang/String", name := "charAt", desc := "(I)C" } : Jvm.MethodName) ({ cls := "java/lang/String", name := "charAt", desc := "(I)C" } : Jvm.MethodName)) ∈ zGW := zG_at (i := 56) (by decide +kernel) (by decide +kernel)
theorem gw_57 : (Jvm.Cond.code ({ cls := "java/lang/String", name := "charAt", desc := "(I)C" } : Jvm.MethodName) prog_22_method_56_code (2 : Nat) (Option.some Jvm.ClassFile.FieldType.char)) ∈ zGW := zG_at (i := 57) (by decide +kernel) (by decide +kernel)
theorem gw_58 : (Jvm.Cond.methodLink "java/lang/String" (492 : Nat) ({ cls := "java/lang/String", name := "isLatin1", desc := "()Z" } : Jvm.MethodName)) ∈ zGW := zG_at (i := 58) (by decide +kernel) (by decide +kernel)
theorem gw_59 : (Jvm.Cond.instanceMethod ({ cls := "java/lang/String", name := "isLatin1", desc := "()Z" } : Jvm.MethodName)) ∈ zGW := zG_at (i := 59) (by decide +kernel) (by decide +kernel)
theorem gw_60 : (Jvm.Cond.selects "java/lang/String" ({ cls := "java/lang/String", name := "isLatin1", desc := "()Z" } : Jvm.MethodName) ({ cls := "java/lang/String", name := "isLatin1", desc := "()Z" } : Jvm.MethodName)) ∈ zGW := zG_at (i := 60) (by decide +kernel) (by decide +kernel)
theorem gw_61 : (Jvm.Cond.code ({ cls := "java/lang/String", name := "isLatin1", desc := "()Z" } : Jvm.MethodName) prog_22_method_154_code (1 : Nat) (Option.some Jvm.ClassFile.FieldType.boolean)) ∈ zGW := zG_at (i := 61) (by decide +kernel) (by decide +kernel)
theorem gw_62 : (Jvm.Cond.methodLink "java/lang/String" (495 : Nat) ({ cls := "java/lang/StringLatin1", name := "charAt", desc := "([BI)C" } : Jvm.MethodName)) ∈ zGW := zG_at (i := 62) (by decide +kernel) (by decide +kernel)
theorem gw_63 : (Jvm.Cond.static ({ cls := "java/lang/StringLatin1", name := "charAt", desc := "([BI)C" } : Jvm.MethodName)) ∈ zGW := zG_at (i := 63) (by decide +kernel) (by decide +kernel)
theorem gw_64 : (Jvm.Cond.code ({ cls := "java/lang/StringLatin1", name := "charAt", desc := "([BI)C" } : Jvm.MethodName) prog_23_method_2_code (2 : Nat) (Option.some Jvm.ClassFile.FieldType.char)) ∈ zGW := zG_at (i := 64) (by decide +kernel) (by decide +kernel)
theorem gw_65 : (Jvm.Cond.methodLink "java/lang/StringLatin1" (9 : Nat) ({ cls := "java/lang/String", name := "checkIndex", desc := "(II)V" } : Jvm.MethodName)) ∈ zGW := zG_at (i := 65) (by decide +kernel) (by decide +kernel)
theorem gw_66 : (Jvm.Cond.static ({ cls := "java/lang/String", name := "checkIndex", desc := "(II)V" } : Jvm.MethodName)) ∈ zGW := zG_at (i := 66) (by decide +kernel) (by decide +kernel)
theorem gw_67 : (Jvm.Cond.code ({ cls := "java/lang/String", name := "checkIndex", desc := "(II)V" } : Jvm.MethodName) prog_22_method_155_code (2 : Nat) (Option.none : Option Jvm.ClassFile.FieldType)) ∈ zGW := zG_at (i := 67) (by decide +kernel) (by decide +kernel)
theorem gw_68 : (Jvm.Cond.fieldLink "java/lang/String" (1053 : Nat) "jdk/internal/util/Preconditions" "SIOOBE_FORMATTER" "Ljava/util/function/BiFunction;") ∈ zGW := zG_at (i := 68) (by decide +kernel) (by decide +kernel)
theorem gw_70 : (Jvm.Cond.methodLink "java/lang/String" (1059 : Nat) ({ cls := "jdk/internal/util/Preconditions", name := "checkIndex", desc := "(IILjava/util/function/BiFunction;)I" } : Jvm.MethodName)) ∈ zGW := zG_at (i := 70) (by decide +kernel) (by decide +kernel)
theorem gw_71 : (Jvm.Cond.static ({ cls := "jdk/internal/util/Preconditions", name := "checkIndex", desc := "(IILjava/util/function/BiFunction;)I" } : Jvm.MethodName)) ∈ zGW := zG_at (i := 71) (by decide +kernel) (by decide +kernel)
theorem gw_72 : (Jvm.Cond.code ({ cls := "jdk/internal/util/Preconditions", name := "checkIndex", desc := "(IILjava/util/function/BiFunction;)I" } : Jvm.MethodName) prog_31_method_11_code (3 : Nat) (Option.some Jvm.ClassFile.FieldType.int)) ∈ zGW := zG_at (i := 72) (by decide +kernel) (by decide +kernel)
theorem gw_73 : (Jvm.Cond.methodLink "java/lang/String" (498 : Nat) ({ cls := "java/lang/StringUTF16", name := "charAt", desc := "([BI)C" } : Jvm.MethodName)) ∈ zGW := zG_at (i := 73) (by decide +kernel) (by decide +kernel)
theorem gw_1915 : (Jvm.Cond.fieldLink "java/lang/String" (9 : Nat) "java/lang/String" "value" "[B") ∈ zGW := zG_at (i := 1915) (by decide +kernel) (by decide +kernel)
theorem gw_1916 : (Jvm.Cond.fieldLink "java/lang/String" (15 : Nat) "java/lang/String" "coder" "B") ∈ zGW := zG_at (i := 1916) (by decide +kernel) (by decide +kernel)

abbrev yLen : MethodName := ⟨"java/lang/String", "length", "()I"⟩
abbrev yCod : MethodName := ⟨"java/lang/String", "coder", "()B"⟩
abbrev yChA : MethodName := ⟨"java/lang/String", "charAt", "(I)C"⟩
abbrev yLat : MethodName := ⟨"java/lang/String", "isLatin1", "()Z"⟩
abbrev yLcA : MethodName := ⟨"java/lang/StringLatin1", "charAt", "([BI)C"⟩
abbrev yChk : MethodName := ⟨"java/lang/String", "checkIndex", "(II)V"⟩
abbrev yPre : MethodName := ⟨"jdk/internal/util/Preconditions", "checkIndex", "(IILjava/util/function/BiFunction;)I"⟩
abbrev bLen : ByteArray := prog_22_method_54_code
abbrev bCod : ByteArray := prog_22_method_152_code
abbrev bChA : ByteArray := prog_22_method_56_code
abbrev bLat : ByteArray := prog_22_method_154_code
abbrev bLcA : ByteArray := prog_23_method_2_code
abbrev bChk : ByteArray := prog_22_method_155_code
abbrev bPre : ByteArray := prog_31_method_11_code
theorem d_cod_0 : decode bCod 0 = .ok (.getstatic 38, 3) := by decide +kernel
theorem d_cod_3 : decode bCod 3 = .ok (.ifCond .eq 10, 3) := by decide +kernel
theorem d_cod_6 : decode bCod 6 = .ok (.aload_n 0, 1) := by decide +kernel
theorem d_cod_7 : decode bCod 7 = .ok (.getfield 15, 3) := by decide +kernel
theorem d_cod_10 : decode bCod 10 = .ok (.goto 4, 3) := by decide +kernel
theorem d_cod_14 : decode bCod 14 = .ok (.ireturn, 1) := by decide +kernel
theorem d_len_0 : decode bLen 0 = .ok (.aload_n 0, 1) := by decide +kernel
theorem d_len_1 : decode bLen 1 = .ok (.getfield 9, 3) := by decide +kernel
theorem d_len_4 : decode bLen 4 = .ok (.arraylength, 1) := by decide +kernel
theorem d_len_5 : decode bLen 5 = .ok (.aload_n 0, 1) := by decide +kernel
theorem d_len_6 : decode bLen 6 = .ok (.invokevirtual 335, 3) := by decide +kernel
theorem d_len_9 : decode bLen 9 = .ok (.ishr, 1) := by decide +kernel
theorem d_len_10 : decode bLen 10 = .ok (.ireturn, 1) := by decide +kernel
theorem d_lat_0 : decode bLat 0 = .ok (.getstatic 38, 3) := by decide +kernel
theorem d_lat_3 : decode bLat 3 = .ok (.ifCond .eq 14, 3) := by decide +kernel
theorem d_lat_6 : decode bLat 6 = .ok (.aload_n 0, 1) := by decide +kernel
theorem d_lat_7 : decode bLat 7 = .ok (.getfield 15, 3) := by decide +kernel
theorem d_lat_10 : decode bLat 10 = .ok (.ifCond .ne 7, 3) := by decide +kernel
theorem d_lat_13 : decode bLat 13 = .ok (.iconst 1, 1) := by decide +kernel
theorem d_lat_14 : decode bLat 14 = .ok (.goto 4, 3) := by decide +kernel
theorem d_lat_18 : decode bLat 18 = .ok (.ireturn, 1) := by decide +kernel
theorem d_pre_0 : decode bPre 0 = .ok (.iload_n 0, 1) := by decide +kernel
theorem d_pre_1 : decode bPre 1 = .ok (.ifCond .lt 8, 3) := by decide +kernel
theorem d_pre_4 : decode bPre 4 = .ok (.iload_n 0, 1) := by decide +kernel
theorem d_pre_5 : decode bPre 5 = .ok (.iload_n 1, 1) := by decide +kernel
theorem d_pre_6 : decode bPre 6 = .ok (.if_icmp .lt 10, 3) := by decide +kernel
theorem d_pre_16 : decode bPre 16 = .ok (.iload_n 0, 1) := by decide +kernel
theorem d_pre_17 : decode bPre 17 = .ok (.ireturn, 1) := by decide +kernel
theorem d_chk_0 : decode bChk 0 = .ok (.iload_n 0, 1) := by decide +kernel
theorem d_chk_1 : decode bChk 1 = .ok (.iload_n 1, 1) := by decide +kernel
theorem d_chk_2 : decode bChk 2 = .ok (.getstatic 1053, 3) := by decide +kernel
theorem d_chk_5 : decode bChk 5 = .ok (.invokestatic 1059, 3) := by decide +kernel
theorem d_chk_8 : decode bChk 8 = .ok (.pop, 1) := by decide +kernel
theorem d_chk_9 : decode bChk 9 = .ok (.return_, 1) := by decide +kernel
theorem d_lca_0 : decode bLcA 0 = .ok (.iload_n 1, 1) := by decide +kernel
theorem d_lca_1 : decode bLcA 1 = .ok (.aload_n 0, 1) := by decide +kernel
theorem d_lca_2 : decode bLcA 2 = .ok (.arraylength, 1) := by decide +kernel
theorem d_lca_3 : decode bLcA 3 = .ok (.invokestatic 9, 3) := by decide +kernel
theorem d_lca_6 : decode bLcA 6 = .ok (.aload_n 0, 1) := by decide +kernel
theorem d_lca_7 : decode bLcA 7 = .ok (.iload_n 1, 1) := by decide +kernel
theorem d_lca_8 : decode bLcA 8 = .ok (.baload, 1) := by decide +kernel
theorem d_lca_9 : decode bLcA 9 = .ok (.sipush 255, 3) := by decide +kernel
theorem d_lca_12 : decode bLcA 12 = .ok (.iand, 1) := by decide +kernel
theorem d_lca_13 : decode bLcA 13 = .ok (.i2c, 1) := by decide +kernel
theorem d_lca_14 : decode bLcA 14 = .ok (.ireturn, 1) := by decide +kernel
theorem d_cha_0 : decode bChA 0 = .ok (.aload_n 0, 1) := by decide +kernel
theorem d_cha_1 : decode bChA 1 = .ok (.invokevirtual 492, 3) := by decide +kernel
theorem d_cha_4 : decode bChA 4 = .ok (.ifCond .eq 12, 3) := by decide +kernel
theorem d_cha_7 : decode bChA 7 = .ok (.aload_n 0, 1) := by decide +kernel
theorem d_cha_8 : decode bChA 8 = .ok (.getfield 9, 3) := by decide +kernel
theorem d_cha_11 : decode bChA 11 = .ok (.iload_n 1, 1) := by decide +kernel
theorem d_cha_12 : decode bChA 12 = .ok (.invokestatic 495, 3) := by decide +kernel
theorem d_cha_15 : decode bChA 15 = .ok (.ireturn, 1) := by decide +kernel
/-- what these members read -/
def sj (bs : Nat) (sk sv : Nat → Nat) (U : State) (H : Heap) : Prop := vk_S 1 [105] [st_b] sk sv (fun q => bs ≤ q) U H ∧ va_Z "java/lang/String" "COMPACT_STRINGS" "Z" (.int 1) (fun q => bs ≤ q) U H ∧ va_Zq "jdk/internal/util/Preconditions" "SIOOBE_FORMATTER" "Ljava/util/function/BiFunction;" (fun q => bs ≤ q) U H
theorem sj_keep {bs : Nat} {sk sv : Nat → Nat} : zKeep bs (sj bs sk sv) := fun _ _ _ _ hW h hq => ⟨(vk_S.moved hW.alike h.1).kept hq, (va_Z.moved hW.alike h.2.1).kept hq, (va_Zq.moved hW.alike h.2.2).kept hq⟩
theorem sj_blind {bs : Nat} {sk sv : Nat → Nat} {av : List Value} : FrameBlind (va_Pc av (fun U => sj bs sk sv U U.heap)) := fun a U g mk q => ⟨q.1, sj_keep U (U.calling g mk a) U.heap U.heap (State.WarmedH.refl U) q.2 (fun _ _ _ => rfl)⟩
theorem jc_good {w : Cond} {ws : List Cond} (hw : w ∈ zGW) (h : ∀ x ∈ ws, x = w ∨ x ∈ zGW) : GoodIn zGW ws := zGW_good (fun x hx => (h x hx).elim (fun e => e ▸ hw) id)
theorem jc {R : Room} {s : State} {args : Array Value} {own : String} {idx maxL n : Nat} {y : MethodName} {bytes : ByteArray} {ret : Option FieldType} {rm : Room} (hts : ∀ w ∈ zGW, w.before args s = true) (hlink : Cond.methodLink own idx y ∈ zGW) (hini : Cond.initialized y.cls ∈ zGW) (hcode : Cond.code y bytes maxL ret ∈ zGW)
    (hd : y.cls ≠ "java/lang/invoke/MethodHandle" ∧ y.cls ≠ "java/lang/invoke/VarHandle" ∧ (parseMethodDescriptor y.desc).map (fun d => d.parameters.length) = some n) (hR : rm.frames + 1 ≤ R.frames ∧ 8 + (maxL + 11) + rm.locals ≤ R.locals) (hc : rm.cells = 0) (hs : rm.slots = 0) :
    CallB R s args own idx y bytes maxL ret (Cond.code y bytes maxL ret :: zGW) rm 0 0 n :=
  callB_of n hts (jc_good hcode (fun _ hx => List.mem_cons.mp hx)) rfl hc hs (hts _ hini) (hts _ hlink) hd hR
theorem jv {U : State} {H : Heap} {b : Nat} {bs : Nat} {sk sv : Nat → Nat} (h : sj bs sk sv U H) (i : Nat) (hi : i < 1) (hb : b = sk i) : ∃ cellB : Cell, H[b]? = some cellB ∧ cellB.vm.isStatics = false ∧ U.vm.findClass "java/lang/String" = some cellB.cls := by
  subst hb
  obtain ⟨cell, h1, h2, h3, -⟩ := (h.1.1 i hi).1
  exact ⟨cell, h1, h2, h3⟩
set_option maxHeartbeats 2000000 in
theorem sj_coder (l : Launch) {bs : Nat} {sk sv : Nat → Nat} : Met l yCod (Cond.code yCod bCod 1 (some .byte) :: zGW) { frames := 0, cells := 0, slots := 0, locals := 0 } (va_Pc [.ref (sk 0)] (fun U => sj bs sk sv U U.heap)) (QcRead 0) 0 0 (fun _ => False) := by
  refine Met.ofW (cc := bCod) (maxL := 1) (ret := some .byte) (by decide) rfl ?_
  intro p e s m args below meth c s₁ B hml hv
  obtain ⟨rfl, hJ⟩ := hv
  have hx := B.exec
  have hb := B.bytes
  have hr := B.returns
  have hts := atoms_spec (ws := Cond.code yCod bCod 1 (some .byte) :: zGW) B.pre
  have hown : s.vm.findClass "java/lang/String" = some m.cls := findClass_of_methodNamed B.named
  have hlocks := B.notSynchronized
  have hS : va_S (fun q => bs ≤ q) s.heap s.heap [] := va_S.rf
  have hl := lv_entry ([.ref (sk 0)]) (n := 1) (Nat.le_of_ble_eq_true rfl)
  rw [lg_entry_eq]
  generalize (lg_sl ([.ref (sk 0)]) ++ List.replicate (1 - (lg_sl ([.ref (sk 0)])).length) Slot.unset).toArray = ls at hl ⊢
  have hl : lv_has ls 1 [(0, .ref (sk 0))] := hl
  refine va_gets hx hb hJ.2.1 hS hown (hts _ (List.mem_cons_of_mem _ gw_52)) (fun _ h => h) d_cod_0 ?_
  refine lv_if_eq (tgt := 13) hx hb d_cod_3 rfl (fun q => absurd q (by decide)) (fun _ => ?_)
  refine lv_aload_n hx hb d_cod_6 rfl (lv_at hl 0 rfl) ?_
  refine vk_getf hx hb (hJ.1.1 0 (by decide)).2.1 hS hown (hts _ (List.mem_cons_of_mem _ gw_1916)) (fun _ h => h) d_cod_7 ?_
  refine lv_goto (tgt := 14) hx hb d_cod_10 rfl ?_
  exact W.zret (v := 0) (ty := .byte) hx hb hr (by decide) (fun t ht hW => ⟨rfl, ht⟩) (fun _ h => nomatch h) d_cod_14
set_option maxHeartbeats 2000000 in
theorem sj_lat (l : Launch) {bs : Nat} {sk sv : Nat → Nat} : Met l yLat (Cond.code yLat bLat 1 (some .boolean) :: zGW) { frames := 0, cells := 0, slots := 0, locals := 0 } (va_Pc [.ref (sk 0)] (fun U => sj bs sk sv U U.heap)) (QcRead 1) 0 0 (fun _ => False) := by
  refine Met.ofW (cc := bLat) (maxL := 1) (ret := some .boolean) (by decide) rfl ?_
  intro p e s m args below meth c s₁ B hml hv
  obtain ⟨rfl, hJ⟩ := hv
  have hx := B.exec
  have hb := B.bytes
  have hr := B.returns
  have hts := atoms_spec (ws := Cond.code yLat bLat 1 (some .boolean) :: zGW) B.pre
  have hown : s.vm.findClass "java/lang/String" = some m.cls := findClass_of_methodNamed B.named
  have hlocks := B.notSynchronized
  have hS : va_S (fun q => bs ≤ q) s.heap s.heap [] := va_S.rf
  have hl := lv_entry ([.ref (sk 0)]) (n := 1) (Nat.le_of_ble_eq_true rfl)
  rw [lg_entry_eq]
  generalize (lg_sl ([.ref (sk 0)]) ++ List.replicate (1 - (lg_sl ([.ref (sk 0)])).length) Slot.unset).toArray = ls at hl ⊢
  have hl : lv_has ls 1 [(0, .ref (sk 0))] := hl
  refine va_gets hx hb hJ.2.1 hS hown (hts _ (List.mem_cons_of_mem _ gw_52)) (fun _ h => h) d_lat_0 ?_
  refine lv_if_eq (tgt := 17) hx hb d_lat_3 rfl (fun q => absurd q (by decide)) (fun _ => ?_)
  refine lv_aload_n hx hb d_lat_6 rfl (lv_at hl 0 rfl) ?_
  refine vk_getf hx hb (hJ.1.1 0 (by decide)).2.1 hS hown (hts _ (List.mem_cons_of_mem _ gw_1916)) (fun _ h => h) d_lat_7 ?_
  refine lv_if_ne (tgt := 17) hx hb d_lat_10 rfl (fun q => absurd rfl q) (fun _ => ?_)
  refine lv_iconst (v := 1) hx hb d_lat_13 rfl ?_
  refine lv_goto (tgt := 18) hx hb d_lat_14 rfl ?_
  exact W.zret (v := 1) (ty := .boolean) hx hb hr (by decide) (fun t ht hW => ⟨rfl, ht⟩) (fun _ h => nomatch h) d_lat_18
set_option maxHeartbeats 2000000 in
theorem sj_pre (l : Launch) {i n : Int32} {fv : Value} (h0 : ¬ i < 0) (h1 : i < n) (hfv : fv = .null ∨ ∃ q : Nat, fv = .ref q) : Met l yPre (Cond.code yPre bPre 3 (some .int) :: zGW) { frames := 0, cells := 0, slots := 0, locals := 0 } (va_Pc [.int i, .int n, fv] (fun _ => True)) (QcRead i) 0 0 (fun _ => False) := by
  refine Met.ofW (cc := bPre) (maxL := 3) (ret := some .int) (by decide) rfl ?_
  intro p e s m args below meth c s₁ B hml hv
  obtain ⟨rfl, -⟩ := hv
  have hx := B.exec
  have hb := B.bytes
  have hr := B.returns
  have hlocks := B.notSynchronized
  have hlen : (lg_sl ([.int i, .int n, fv])).length ≤ 3 := by
    rcases hfv with rfl | ⟨q, rfl⟩
    · exact Nat.le_of_ble_eq_true rfl
    · exact Nat.le_of_ble_eq_true rfl
  have hl := lv_entry ([.int i, .int n, fv]) (n := 3) hlen
  rw [lg_entry_eq]
  generalize (lg_sl ([.int i, .int n, fv]) ++ List.replicate (3 - (lg_sl ([.int i, .int n, fv])).length) Slot.unset).toArray = ls at hl ⊢
  have hl : lv_has ls 3 [(0, .int i), (1, .int n)] := by
    refine lv_sub hl [0, 1] ?_
    rcases hfv with rfl | ⟨q, rfl⟩
    · rfl
    · rfl
  refine lv_iload_n hx hb d_pre_0 rfl (lv_at hl 0 rfl) ?_
  refine lv_if_lt (tgt := 9) hx hb d_pre_1 rfl (fun q => absurd q h0) (fun _ => ?_)
  refine lv_iload_n hx hb d_pre_4 rfl (lv_at hl 0 rfl) ?_
  refine lv_iload_n hx hb d_pre_5 rfl (lv_at hl 1 rfl) ?_
  refine lv_icmp_lt (tgt := 16) hx hb d_pre_6 rfl (fun _ => ?_) (fun q => absurd h1 q)
  refine lv_iload_n hx hb d_pre_16 rfl (lv_at hl 0 rfl) ?_
  exact W.iret (v := i) hx hb hr (fun t ht hW => ⟨rfl, ht⟩) (fun _ h => nomatch h) d_pre_17
set_option maxHeartbeats 2000000 in
theorem sj_chk (l : Launch) {bs : Nat} {sk sv : Nat → Nat} {i n : Int32} (h0 : ¬ i < 0) (h1 : i < n) : Met l yChk (Cond.code yChk bChk 2 none :: zGW) { frames := 1, cells := 0, slots := 0, locals := 22 } (va_Pc [.int i, .int n] (fun U => sj bs sk sv U U.heap)) (va_Sv (fun _ => True)) 0 0 (fun _ => False) := by
  refine Met.ofW (cc := bChk) (maxL := 2) (ret := none) (by decide) rfl ?_
  intro p e s m args below meth c s₁ B hml hv
  obtain ⟨rfl, hJ⟩ := hv
  have hx := B.exec
  have hb := B.bytes
  have hr := B.returns
  have hts := atoms_spec (ws := Cond.code yChk bChk 2 none :: zGW) B.pre
  have hts2 : ∀ w ∈ zGW, w.before (([.int i, .int n] : List Value).toArray) s = true := fun w hw => hts w (List.mem_cons_of_mem _ hw)
  have hown : s.vm.findClass "java/lang/String" = some m.cls := findClass_of_methodNamed B.named
  have hlocks := B.notSynchronized
  have hS : va_S (fun q => bs ≤ q) s.heap s.heap [] := va_S.rf
  have hl := lv_entry ([.int i, .int n]) (n := 2) (Nat.le_of_ble_eq_true rfl)
  rw [lg_entry_eq]
  generalize (lg_sl ([.int i, .int n]) ++ List.replicate (2 - (lg_sl ([.int i, .int n])).length) Slot.unset).toArray = ls at hl ⊢
  have hl : lv_has ls 2 [(0, .int i), (1, .int n)] := hl
  refine lv_iload_n hx hb d_chk_0 rfl (lv_at hl 0 rfl) ?_
  refine lv_iload_n hx hb d_chk_1 rfl (lv_at hl 1 rfl) ?_
  have key : ∀ fv : Value, (fv = .null ∨ ∃ q : Nat, fv = .ref q) → va_Z "jdk/internal/util/Preconditions" "SIOOBE_FORMATTER" "Ljava/util/function/BiFunction;" fv (fun q => bs ≤ q) s s.heap → W p l e (headSpec (Cond.code yChk bChk 2 none :: zGW) { frames := 1, cells := 0, slots := 0, locals := 22 }).room s m (([.int i, .int n] : List Value).toArray) below meth c s.heap [] 0 0 (MQ below (va_Sv (fun _ => True)) (([.int i, .int n] : List Value).toArray) s 0 0 (fun _ => False)) (F0 m 2 ls [.int n, .int i]) := by
    intro fv hfv hZ
    refine va_gets hx hb hZ hS hown (hts2 _ gw_68) (fun _ h => h) d_chk_2 ?_
    refine W.callR (r := i) (a := ([.int i, .int n, fv] : List Value).toArray) (W.runS (As := [.int i, .int n, fv]) (rest := []) ⟨hx, hb, hml, hown, hts2⟩ (sj_pre l h0 h1 hfv) ⟨jc (n := 3) hts2 gw_70 gw_5 gw_72 (by decide +kernel) ⟨Nat.le_of_ble_eq_true rfl, Nat.le_of_ble_eq_true rfl⟩ rfl rfl, hts2 _ gw_71⟩ ⟨fun a U g mk q => ⟨q.1, trivial⟩, fun U hU hW => ⟨rfl, trivial⟩⟩ rfl rfl hl.1 rfl (lv_room (Nat.le_of_ble_eq_true rfl)) d_chk_5 ⟨Nat.zero_le _, Nat.zero_le _⟩) ?_
    refine W.eq (g2 := F0 m 8 ls [.int i]) rfl ?_
    refine lv_pop hx hb d_chk_8 rfl ?_
    exact W.vret hx hb hr (fun t ht hW => ⟨rfl, trivial, ht⟩) (fun _ h => nomatch h) d_chk_9
  rcases hJ.2.2 with h | ⟨q, h⟩
  · exact key _ (Or.inl rfl) h
  · exact key _ (Or.inr ⟨q, rfl⟩) h
theorem st_char {k : Nat} (hk : k < 105) : (((st_b.getD k 0) &&& 255).toUInt32 % 65536).toInt32 = st_b.getD k 0 ∧ narrow .char (.int (st_b.getD k 0)) = .int (st_b.getD k 0) := by
  have h : (List.range 105).all (fun k => decide ((((st_b.getD k 0) &&& 255).toUInt32 % 65536).toInt32 = st_b.getD k 0) && decide (narrow .char (.int (st_b.getD k 0)) = .int (st_b.getD k 0))) = true := by decide +kernel
  have h1 := List.all_eq_true.mp h k (List.mem_range.mpr hk)
  rw [Bool.and_eq_true, decide_eq_true_eq, decide_eq_true_eq] at h1
  exact h1
theorem st_k {k : Nat} (hk : k < 105) : ¬ Int32.ofNat k < 0 ∧ Int32.ofNat k < 105 ∧ (Int32.ofNat k).toNatClampNeg = k ∧ vp_in (Int32.ofNat k) 105 := by
  have h : (List.range 105).all (fun k => decide (¬ Int32.ofNat k < 0) && (decide (Int32.ofNat k < 105) && (decide ((Int32.ofNat k).toNatClampNeg = k) && decide (¬ (Int32.ofNat k < 0 ∨ 105 ≤ (Int32.ofNat k).toNatClampNeg))))) = true := by decide +kernel
  have h1 := List.all_eq_true.mp h k (List.mem_range.mpr hk)
  rw [Bool.and_eq_true, Bool.and_eq_true, Bool.and_eq_true, decide_eq_true_eq, decide_eq_true_eq, decide_eq_true_eq, decide_eq_true_eq] at h1
  exact ⟨h1.1, h1.2.1, h1.2.2.1, h1.2.2.2⟩
set_option maxHeartbeats 2000000 in
theorem sj_lca (l : Launch) {bs : Nat} {sk sv : Nat → Nat} {k : Nat} (hk : k < 105) : Met l yLcA (Cond.code yLcA bLcA 2 (some .char) :: zGW) { frames := 2, cells := 0, slots := 0, locals := 43 } (va_Pc [.ref (sv 0), .int (Int32.ofNat k)] (fun U => sj bs sk sv U U.heap)) (QcRead (st_b.getD k 0)) 0 0 (fun _ => False) := by
  obtain ⟨k1, k2, k3, k4⟩ := st_k hk
  refine Met.ofW (cc := bLcA) (maxL := 2) (ret := some .char) (by decide) rfl ?_
  intro p e s m args below meth c s₁ B hml hv
  obtain ⟨rfl, hJ⟩ := hv
  have hx := B.exec
  have hb := B.bytes
  have hr := B.returns
  have hts := atoms_spec (ws := Cond.code yLcA bLcA 2 (some .char) :: zGW) B.pre
  have hts2 : ∀ w ∈ zGW, w.before (([.ref (sv 0), .int (Int32.ofNat k)] : List Value).toArray) s = true := fun w hw => hts w (List.mem_cons_of_mem _ hw)
  have hown : s.vm.findClass "java/lang/StringLatin1" = some m.cls := findClass_of_methodNamed B.named
  have hlocks := B.notSynchronized
  have hS : va_S (fun q => bs ≤ q) s.heap s.heap [] := va_S.rf
  have hl := lv_entry ([.ref (sv 0), .int (Int32.ofNat k)]) (n := 2) (Nat.le_of_ble_eq_true rfl)
  rw [lg_entry_eq]
  generalize (lg_sl ([.ref (sv 0), .int (Int32.ofNat k)]) ++ List.replicate (2 - (lg_sl ([.ref (sv 0), .int (Int32.ofNat k)])).length) Slot.unset).toArray = ls at hl ⊢
  have hl : lv_has ls 2 [(0, .ref (sv 0)), (1, .int (Int32.ofNat k))] := hl
  have hT := (hJ.1.1 0 (by decide)).2.2.2
  refine lv_iload_n hx hb d_lca_0 rfl (lv_at hl 1 rfl) ?_
  refine lv_aload_n hx hb d_lca_1 rfl (lv_at hl 0 rfl) ?_
  refine va_tlen (v := 105) hx hb hT hS rfl d_lca_2 ?_
  refine va_csv (post := fun _ => True) (a := ([.int (Int32.ofNat k), .int 105] : List Value).toArray) (W.runS (As := [.int (Int32.ofNat k), .int 105]) (rest := []) ⟨hx, hb, hml, hown, hts2⟩ (sj_chk l (bs := bs) (sk := sk) (sv := sv) k1 k2) ⟨jc (n := 2) hts2 gw_65 gw_3 gw_67 (by decide +kernel) ⟨Nat.le_of_ble_eq_true rfl, Nat.le_of_ble_eq_true rfl⟩ rfl rfl, hts2 _ gw_66⟩ ⟨sj_blind, fun U hU hW => ⟨rfl, sj_keep s U s.heap U.heap hW hJ (fun a _ _ => by rw [hU])⟩⟩ rfl rfl hl.1 rfl (lv_room (Nat.le_of_ble_eq_true rfl)) d_lca_3 ⟨Nat.zero_le _, Nat.zero_le _⟩) (fun _ => ?_)
  refine lv_aload_n hx hb d_lca_6 rfl (lv_at hl 0 rfl) ?_
  refine lv_iload_n hx hb d_lca_7 rfl (lv_at hl 1 rfl) ?_
  refine va_tb (v := .int (st_b.getD k 0)) hx hb hT hS k4 (by rw [k3]; rfl) d_lca_8 ?_
  refine lv_sipush (v := 255) hx hb d_lca_9 rfl ?_
  refine lv_iand hx hb d_lca_12 ?_
  refine lv_i2c (v := st_b.getD k 0) hx hb d_lca_13 (st_char hk).1 ?_
  exact W.zret (v := st_b.getD k 0) (ty := .char) hx hb hr (st_char hk).2 (fun t ht hW => ⟨rfl, ht⟩) (fun _ h => nomatch h) d_lca_14
set_option maxHeartbeats 2000000 in
theorem sj_cha (l : Launch) {bs : Nat} {sk sv : Nat → Nat} {k : Nat} (hk : k < 105) : Met l yChA (Cond.code yChA bChA 2 (some .char) :: zGW) { frames := 3, cells := 0, slots := 0, locals := 64 } (va_Pc [.ref (sk 0), .int (Int32.ofNat k)] (fun U => sj bs sk sv U U.heap)) (QcRead (st_b.getD k 0)) 0 0 (fun _ => False) := by
  refine Met.ofW (cc := bChA) (maxL := 2) (ret := some .char) (by decide) rfl ?_
  intro p e s m args below meth c s₁ B hml hv
  obtain ⟨rfl, hJ⟩ := hv
  have hx := B.exec
  have hb := B.bytes
  have hr := B.returns
  have hts := atoms_spec (ws := Cond.code yChA bChA 2 (some .char) :: zGW) B.pre
  have hts2 : ∀ w ∈ zGW, w.before (([.ref (sk 0), .int (Int32.ofNat k)] : List Value).toArray) s = true := fun w hw => hts w (List.mem_cons_of_mem _ hw)
  have hown : s.vm.findClass "java/lang/String" = some m.cls := findClass_of_methodNamed B.named
  have hlocks := B.notSynchronized
  have hS : va_S (fun q => bs ≤ q) s.heap s.heap [] := va_S.rf
  have hl := lv_entry ([.ref (sk 0), .int (Int32.ofNat k)]) (n := 2) (Nat.le_of_ble_eq_true rfl)
  rw [lg_entry_eq]
  generalize (lg_sl ([.ref (sk 0), .int (Int32.ofNat k)]) ++ List.replicate (2 - (lg_sl ([.ref (sk 0), .int (Int32.ofNat k)])).length) Slot.unset).toArray = ls at hl ⊢
  have hl : lv_has ls 2 [(0, .ref (sk 0)), (1, .int (Int32.ofNat k))] := hl
  refine lv_aload_n hx hb d_cha_0 rfl (lv_at hl 0 rfl) ?_
  refine W.callR (r := 1) (a := ([.ref (sk 0)] : List Value).toArray) (W.runV (C := "java/lang/String") (As := []) (rest := []) ⟨hx, hb, hml, hown, hts2⟩ (sj_lat l (bs := bs) (sk := sk) (sv := sv)) ⟨jc (n := 0) hts2 gw_58 gw_3 gw_61 (by decide +kernel) ⟨Nat.le_of_ble_eq_true rfl, Nat.le_of_ble_eq_true rfl⟩ rfl rfl, hts2 _ gw_59, hts2 _ gw_60⟩ ⟨sj_blind, jv hJ 0 (by decide) rfl, fun U hU hW => ⟨rfl, sj_keep s U s.heap U.heap hW hJ (fun a _ _ => by rw [hU])⟩⟩ rfl rfl hl.1 rfl (lv_room (Nat.le_of_ble_eq_true rfl)) d_cha_1 ⟨Nat.zero_le _, Nat.zero_le _⟩) ?_
  refine W.eq (g2 := F0 m 4 ls [.int 1]) rfl ?_
  refine lv_if_eq (tgt := 16) hx hb d_cha_4 rfl (fun q => absurd q (by decide)) (fun _ => ?_)
  refine lv_aload_n hx hb d_cha_7 rfl (lv_at hl 0 rfl) ?_
  refine vk_getf hx hb (hJ.1.1 0 (by decide)).2.2.1 hS hown (hts2 _ gw_1915) (fun _ h => h) d_cha_8 ?_
  refine lv_iload_n hx hb d_cha_11 rfl (lv_at hl 1 rfl) ?_
  refine W.callR (r := st_b.getD k 0) (a := ([.ref (sv 0), .int (Int32.ofNat k)] : List Value).toArray) (W.runS (As := [.ref (sv 0), .int (Int32.ofNat k)]) (rest := []) ⟨hx, hb, hml, hown, hts2⟩ (sj_lca l (bs := bs) (sk := sk) (sv := sv) hk) ⟨jc (n := 2) hts2 gw_62 gw_4 gw_64 (by decide +kernel) ⟨Nat.le_of_ble_eq_true rfl, Nat.le_of_ble_eq_true rfl⟩ rfl rfl, hts2 _ gw_63⟩ ⟨sj_blind, fun U hU hW => ⟨rfl, sj_keep s U s.heap U.heap hW hJ (fun a _ _ => by rw [hU])⟩⟩ rfl rfl hl.1 rfl (lv_room (Nat.le_of_ble_eq_true rfl)) d_cha_12 ⟨Nat.zero_le _, Nat.zero_le _⟩) ?_
  exact W.zret (v := st_b.getD k 0) (ty := .char) hx hb hr (st_char hk).2 (fun t ht hW => ⟨rfl, ht⟩) (fun _ h => nomatch h) d_cha_15
set_option maxHeartbeats 2000000 in
theorem sj_len (l : Launch) {bs : Nat} {sk sv : Nat → Nat} : Met l yLen (Cond.code yLen bLen 1 (some .int) :: zGW) { frames := 1, cells := 0, slots := 0, locals := 20 } (va_Pc [.ref (sk 0)] (fun U => sj bs sk sv U U.heap)) (QcRead 105) 0 0 (fun _ => False) := by
  refine Met.ofW (cc := bLen) (maxL := 1) (ret := some .int) (by decide) rfl ?_
  intro p e s m args below meth c s₁ B hml hv
  obtain ⟨rfl, hJ⟩ := hv
  have hx := B.exec
  have hb := B.bytes
  have hr := B.returns
  have hts := atoms_spec (ws := Cond.code yLen bLen 1 (some .int) :: zGW) B.pre
  have hts2 : ∀ w ∈ zGW, w.before (([.ref (sk 0)] : List Value).toArray) s = true := fun w hw => hts w (List.mem_cons_of_mem _ hw)
  have hown : s.vm.findClass "java/lang/String" = some m.cls := findClass_of_methodNamed B.named
  have hlocks := B.notSynchronized
  have hS : va_S (fun q => bs ≤ q) s.heap s.heap [] := va_S.rf
  have hl := lv_entry ([.ref (sk 0)]) (n := 1) (Nat.le_of_ble_eq_true rfl)
  rw [lg_entry_eq]
  generalize (lg_sl ([.ref (sk 0)]) ++ List.replicate (1 - (lg_sl ([.ref (sk 0)])).length) Slot.unset).toArray = ls at hl ⊢
  have hl : lv_has ls 1 [(0, .ref (sk 0))] := hl
  have hT := (hJ.1.1 0 (by decide)).2.2.2
  refine lv_aload_n hx hb d_len_0 rfl (lv_at hl 0 rfl) ?_
  refine vk_getf hx hb (hJ.1.1 0 (by decide)).2.2.1 hS hown (hts2 _ gw_1915) (fun _ h => h) d_len_1 ?_
  refine va_tlen (v := 105) hx hb hT hS rfl d_len_4 ?_
  refine lv_aload_n hx hb d_len_5 rfl (lv_at hl 0 rfl) ?_
  refine W.callR (r := 0) (a := ([.ref (sk 0)] : List Value).toArray) (W.runV (C := "java/lang/String") (As := []) (rest := [.int 105]) ⟨hx, hb, hml, hown, hts2⟩ (sj_coder l (bs := bs) (sk := sk) (sv := sv)) ⟨jc (n := 0) hts2 gw_48 gw_3 gw_51 (by decide +kernel) ⟨Nat.le_of_ble_eq_true rfl, Nat.le_of_ble_eq_true rfl⟩ rfl rfl, hts2 _ gw_49, hts2 _ gw_50⟩ ⟨sj_blind, jv hJ 0 (by decide) rfl, fun U hU hW => ⟨rfl, sj_keep s U s.heap U.heap hW hJ (fun a _ _ => by rw [hU])⟩⟩ rfl rfl hl.1 rfl (lv_room (Nat.le_of_ble_eq_true rfl)) d_len_6 ⟨Nat.zero_le _, Nat.zero_le _⟩) ?_
  refine W.eq (g2 := F0 m 9 ls [.int 0, .int 105]) rfl ?_
  refine lv_ishr hx hb d_len_9 ?_
  refine lv_topi (fun r er => ?_)
  have er : r = 105 := by rw [er]; decide
  subst er
  exact W.iret (v := 105) hx hb hr (fun t ht hW => ⟨rfl, ht⟩) (fun _ h => nomatch h) d_len_10
