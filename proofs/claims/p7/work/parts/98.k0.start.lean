/-! The law's entry: the claim's words, and the walk put together. -/
/-! THE CLAIM OUT OF ONE WALK OF THE LAW'S BODY.  -/
def R_law : String := "EchoValeLaw"
def lw_P (b : Addr) (xs : List Int32) (args : Array Value) (s : State) : Prop := args = #[.ref b] ∧ s.IntsAt b xs ∧ xs.length ≤ 3072 ∧ (Jvm.Cond.and given_1 narrow_1).before args s = true
def lw_Q (_ : Array Value) (s : State) (o : Outcome) (t : State) : Prop := o = .returned (some (.int 1)) ∧ Framed s o t [] 601024 7293034
def lw_Z (below : List Frame) (a : Array Value) (s : State) : State → Prop := fun t => ∃ o, t.status = .running ∧ Ended t below o ∧ lw_Q a s o t
/-- the law's own end, with 1 on the stack, nothing written that was there before, its room as the claim has it -/
theorem lw_ret {p : Program} {l : Launch} {e : Env} {s : State} {m : MethodId} {below : List Frame} {meth : Method} {c : Code} {b : Nat} (hx : p.tables.exec = Jvm.exec) (hb : c.code = code) (hr : meth.sig.returnType = ret) (hlocks : meth.locks = false) {pc : Nat} {H : Heap} {ls : Array Slot} (hdg : decode code pc = .ok (.ireturn, 1)) : W p l e room_1 s m #[Value.ref b] below meth c H [] 601024 7293034 (lw_Z below #[Value.ref b] s) (F0 m pc ls [.int 1]) := by
  intro T hT X
  obtain ⟨fs, hret, hrun, hended, hW, hframe⟩ := X.leave (v := some (.int 1)) (hlocks := hlocks) (fun h => by rw [hr] at h; cases h)
  have hmeth' : T.vm.method? m = some meth := X.method'
  refine ⟨T.setFrames fs, ?_, .returned (some (.int 1)), hrun, hended, rfl, ⟨_, rfl⟩, hW, hframe⟩
  jvm_step X.here [X.here.top, hx, hb, hdg, hmeth', hr, ret, narrow_b1]
  (try refine ⟨rfl, ?_⟩); (try refine ⟨rfl, ?_⟩)
  first | (intro acts; rw [hret _ acts rfl rfl rfl]) | rw [hret _ _ rfl rfl rfl]
  exact Steps.refl _
/-- what holds at the law's entry: the machine, the code, the tables' words (any of lw_tbl by 'hts w (by decide +kernel)'), the script of L ints xs at the cell b, what the Statement gives of the start (any of its parts by flat_of_before) -/
def lw_At (p : Program) (s : State) (m : MethodId) (meth : Method) (c : Code) (b L : Nat) (xs : Nat → Int32) : Prop :=
  p.tables.exec = Jvm.exec ∧ c.code = code ∧ meth.sig.returnType = ret ∧ c.maxLocals = 7 ∧ s.vm.findClass R_law = some m.cls ∧ (∀ w ∈ lw_tbl, w.before #[Value.ref b] s = true) ∧ va_X b L xs s s.heap ∧ b < s.heap.size ∧ meth.locks = false ∧ (Jvm.Cond.and given_1 narrow_1).before #[Value.ref b] s = true ∧ meth.name = "law"
theorem zInst {ci : Nat} (h : ci < 13) : Cond.instantiable (zOw ci) (zNf ci) ∈ lw_tbl := by
  match ci, h with
  | 0, _ => exact tb_in (i := 272) (by decide +kernel)
  | 1, _ => exact tb_in (i := 324) (by decide +kernel)
  | 2, _ => exact tb_in (i := 445) (by decide +kernel)
  | 3, _ => exact tb_in (i := 390) (by decide +kernel)
  | 4, _ => exact tb_in (i := 418) (by decide +kernel)
  | 5, _ => exact tb_in (i := 35) (by decide +kernel)
  | 6, _ => exact tb_in (i := 286) (by decide +kernel)
  | 7, _ => exact tb_in (i := 308) (by decide +kernel)
  | 8, _ => exact tb_in (i := 369) (by decide +kernel)
  | 9, _ => exact tb_in (i := 145) (by decide +kernel)
  | 10, _ => exact tb_in (i := 252) (by decide +kernel)
  | 11, _ => exact tb_in (i := 27) (by decide +kernel)
  | 12, _ => exact tb_in (i := 1247) (by decide +kernel)
theorem zKc {args : Array Value} {s : State} (hts : ∀ w ∈ lw_tbl, w.before args s = true) (c0 : ClassId) : ∃ D : va_G, va_K D vwCl [] s := by
  have hk : ∀ ci : Nat, ∃ cC : ClassId, ∃ iS : Nat → Nat, ci < 13 → u_Kn s (zOw ci) (zTX ci) (zNf ci) cC iS := by
    intro ci
    by_cases h : ci < 13
    · obtain ⟨cC, iS, q⟩ := u_known (ws := zGW) (args := args) (s := s) (C := zOw ci) (T := zTX ci) (N := zNf ci) (n := zNf ci) (fun w hw => hts w (List.mem_filter.mp hw).1) (zCl_in h) (hts _ (zInst h))
      exact ⟨cC, iS, fun _ => q⟩
    · exact ⟨c0, fun _ => 0, fun q => absurd q h⟩
  refine ⟨(fun ci => Classical.choose (hk ci), fun ci => Classical.choose (Classical.choose_spec (hk ci))), fun c q hq => ?_, fun k q hq => by cases hq⟩
  have hc : c < 13 := (List.getElem?_eq_some_iff.mp hq).1
  rw [zCl_at hc] at hq
  cases hq
  exact Classical.choose_spec (Classical.choose_spec (hk c)) hc
theorem wh_l0 {l : Launch} (hflags : l.flags = flags0) : l.stackTraces = false := by
  show (!l.flags.contains noTraceFlag) = false
  rw [hflags]
  decide +kernel
theorem wh_cr {h : zH1} (hk : zChk h = true) : zCR zlO zlA True (23, Lh 0, [], zGs h) (23, [some (5, 0), some (2, 0), some (2, 172), some (2, 196), some (0, 0), none, none], [], h) := by
  have ho : zOk h = true := by
    unfold zChk at hk
    simp only [Bool.and_eq_true] at hk
    exact hk.2.1
  refine ⟨rfl, ⟨rfl, fun i a ha => ?_⟩, trivial, zOk_s ho⟩
  match i with
  | 0 => cases ha; exact ⟨_, rfl, Or.inr (Or.inr (Or.inl ⟨rfl, rfl, trivial⟩))⟩
  | 1 => cases ha; exact ⟨_, rfl, Or.inr (Or.inr (Or.inr (Or.inr (Or.inl ⟨11, by decide, rfl, by decide, by decide, by decide⟩))))⟩
  | 2 => cases ha; exact ⟨_, rfl, Or.inr (Or.inr (Or.inr (Or.inr (Or.inl ⟨12, by decide, rfl, by decide, by decide, by decide⟩))))⟩
  | 3 => cases ha; exact ⟨_, rfl, Or.inr (Or.inr (Or.inr (Or.inl ⟨rfl, by decide⟩)))⟩
  | 4 => cases ha; exact ⟨_, rfl, Or.inl ⟨rfl, rfl⟩⟩
  | 5 => cases ha
  | 6 => cases ha
  | k + 7 => cases ha
theorem whole_start {p : Program} {e : Env} {s : State} {m : MethodId} {below : List Frame} {meth : Method} {c : Code} (l : Launch) (hflags : l.flags = flags0) {b L : Nat} {xs : Nat → Int32} (hL : L ≤ 3072) (C0 : lw_At p s m meth c b L xs) : W p l e room_1 s m #[Value.ref b] below meth c s.heap [] 0 0 (lw_Z below #[Value.ref b] s) (entryFrame m ([Value.ref b] : List Value).toArray 7) := by
  obtain ⟨hx, hb, hr, hml, hown, hts, hX, hbl, hlk, hgv, hnm⟩ := C0
  obtain ⟨sk, sv, ac, hKK⟩ := KK_of hts hgv
  obtain ⟨D, hK⟩ := zKc hts m.cls
  have X : zCx p room_1 s m #[Value.ref b] meth c (fun q => s.heap.size ≤ q) s.heap b L xs 295 := ⟨hx, hb.trans (by rfl), hml.trans (by rfl), by rw [show zOw (zmC 295) = R_law from by decide +kernel]; exact hown, fun w hw => hts w (List.mem_filter.mp hw).1, kn_of hts, fun _ h => h, hnm.trans (by decide +kernel), fun _ => ⟨hX, hbl, Nat.not_le.mpr hbl, by omega⟩, by decide, by decide⟩
  have hX0 : wX p l room_1 s m #[Value.ref b] meth c b L xs sk sv ac := ⟨by decide, by decide, X, hKK, hL, wh_l0 hflags⟩
  obtain ⟨h3, k1, k2, k3, n, c', hS, rfl⟩ := st_run (Ls := L) (xs := fun j => (xs j).toInt)
  have hl := lv_entry ([Value.ref b] : List Value) (n := 7) (Nat.le_of_ble_eq_true rfl)
  rw [lg_entry_eq]
  generalize (lg_sl ([Value.ref b] : List Value) ++ List.replicate (7 - (lg_sl ([Value.ref b] : List Value)).length) Slot.unset).toArray = ls at hl ⊢
  have hF : zFR b (zmC 295 = 16) [] 0 [some (5, 0), none, none, none, none, none, none] [] ls (zmMax 295) := by
    refine ⟨⟨hl.1, hl.2.1, fun i a ha => ?_⟩, rfl, fun i a ha => ?_, fun a ha => by cases ha⟩
    · have := zEntry_in (b := b) (as := []) (n := 6) [(5, 0)] 0 i a ha
      rw [Nat.zero_add] at this
      exact hl.2.2 _ this
    · match i with
      | 0 => cases ha; exact (show zmC 295 = 16 from by decide +kernel)
      | 1 => cases ha
      | 2 => cases ha
      | 3 => cases ha
      | 4 => cases ha
      | 5 => cases ha
      | 6 => cases ha
      | k + 7 => cases ha
  have hH : zHR s D (fun q => s.heap.size ≤ q) s.heap [] (fun _ => m.cls) [] s.heap [] := ⟨rfl, ⟨[], hK, fun k c h => by cases h⟩, (fun k q h => by cases h), ⟨(fun i j p q h => by cases h), fun k q h => by cases h⟩, va_S.rf, fun k c h => by cases h⟩
  have key : zGoal p l e room_1 s m #[Value.ref b] below meth c (lw_Z below #[Value.ref b] s) D (fun q => s.heap.size ≤ q) s.heap b 295 0 0 [] (0, [some (5, 0), none, none, none, none, none, none], [], []) := by
    refine z_reachK (d := 14) (bs := s.heap.size) (K := KK s.heap.size sk sv ac) (by decide) (by decide) KK_keep ⟨hKK, Nat.le_refl _, fun q h => h⟩ X (hm_K 14) hS (Nat.zero_le _) (Nat.zero_le _) (by show h3.length - 0 ≤ 601024; omega) (by show zSl h3 - 0 ≤ 7293034; omega) ?_
    intro as' ca' ls' H' locs' hH' hF' hp'
    exact w_loop (KC := 601024) (KS := 7293034) (by decide) (by decide) hX0 (fun ls2 H2 locs2 j1 j2 h1 h2 hq => va_forget hq (W.widen h1 h2 (lw_ret hx hb hr hlk (by decide +kernel)))) 513 0 (zGs h3).1 (zGs h3).2.1 (zGs h3).2.2 h3 _ as' ca' ls' H' locs' _ _ (by decide) (by omega) (st_RG k1) (wh_cr k1) (by omega) hH' hF' (by show h3.length - 0 + 513 ≤ 601024; omega) (by show zSl h3 - 0 + 6 * 513 ≤ 7293034; omega)
  exact key [] (fun _ => m.cls) ls s.heap [] hH hF (List.prefix_refl _)
