section
/-! ===== BEGIN words of one list among another's, by their places ===== -/
theorem goodIn_r {big : List Cond} (ws : List Cond) (ps : List Nat) (hp : ws = ps.filterMap (fun i => big[i]?)) (h : ws.all goodWord = true) : GoodIn big ws := by
  intro w hw
  have h1 := List.all_eq_true.mp h w hw
  rw [hp] at hw
  obtain ⟨i, -, hi⟩ := List.mem_filterMap.mp hw
  have hm : w ∈ big := by first | exact List.mem_of_getElem? hi | exact List.getElem?_mem hi
  exact ⟨hm, good_of_word h1⟩
theorem goodIn_app {big a b : List Cond} (ha : GoodIn big a) (hb : GoodIn big b) : GoodIn big (a ++ b) := fun w h => (List.mem_append.mp h).elim (ha w) (hb w)
theorem goodIn_ca {big a b : List Cond} {c : Cond} (ha : GoodIn big (c :: a)) (hb : GoodIn big b) : GoodIn big (c :: (a ++ b)) := fun w h => (List.mem_cons.mp h).elim (fun e => ha w (List.mem_cons.mpr (Or.inl e))) (fun h => (List.mem_append.mp h).elim (fun h => ha w (List.mem_cons.mpr (Or.inr h))) (hb w))
theorem goodIn_sub {big ws : List Cond} (hm : ∀ w ∈ ws, w ∈ big) (h : ws.all goodWord = true) : GoodIn big ws := fun w hw => ⟨hm w hw, good_of_word (List.all_eq_true.mp h w hw)⟩
/-! ===== END ===== -/

/-! ===== BEGIN exceptions that leave a method, and their catching by the caller (launches without stack traces) ===== -/
section VXA
/-! The laws vx_back, vx_callV, vx_callS, vx_callSW, vx_throw0, vx_throwS follow proofs of the library, with one case more: JvmDerived/Free/Laws.lean (Back.of_free), Shelf42/LK1.lean (callV, callS), Shelf/KitTraced.lean (throwNew0V, throwNewS). -/
/-- where a method has thrown q: the class by its name, the cell, what was written, the world -/
def vx_T (XC : String → State → State → Prop) (st : State) (q : Addr) (t : State) (mc ms : Nat) (free : Addr → Prop) : Prop :=
  ∃ (E : String) (ce : Cell) (L : List Loc), XC E st t ∧ t.heap[q]? = some ce ∧ ce.vm = .none ∧ st.vm.findClass E = some ce.cls ∧ st.WarmedH t.vm ∧ st.sameButNew ({ t with vm := st.vm } : State) L mc ms ∧ ∀ z ∈ L, free z.base
def vx_Q (Qc : Array Value → State → Outcome → State → Prop) (XC : String → State → State → Prop) (mc ms : Nat) (free : Addr → Prop) : Array Value → State → Outcome → State → Prop := fun a st o t =>
  (Qc a st o t ∧ ∃ L, FrameEnd st o t L mc ms ∧ ∀ q ∈ L, free q.base) ∨ ∃ q, o = .threw q ∧ vx_T XC st q t mc ms free
/-- a callee that returns or throws -/
def vx_Met (l : Launch) (y : MethodName) (ws : List Cond) (rm : Room) (Pc : Array Value → State → Prop) (Qc : Array Value → State → Outcome → State → Prop) (XC : String → State → State → Prop) (mc ms : Nat) (free : Addr → Prop) : Prop :=
  MetFree l y (headSpec ws rm) Pc (fun _ _ _ _ _ => True) (vx_Q Qc XC mc ms free)
def vx_Post (XC : String → State → State → Prop) (mc ms : Nat) (free : Addr → Prop) : Pt → Array Value → Addr → Pt → Prop := fun A a q B =>
  ∃ (g : JFrame) (mk : MethodId) (t : State) (L : List Loc) (E : String) (ce : Cell), B.U.heap = t.heap ∧ B.U.vm = t.vm ∧ XC E (A.U.calling g mk a) t ∧ t.heap[q]? = some ce ∧ ce.vm = .none ∧ A.U.vm.findClass E = some ce.cls ∧ B.locs = A.locs ++ L ∧ (∀ z ∈ L, free z.base) ∧ B.cells = A.cells + mc ∧ B.slots = A.slots + ms
def vx_Back (l : Launch) (R : Room) (p : Program) (e : Env) (below : List Frame) (s : State) (sargs : Array Value) (y : MethodName) (len W9 : Nat)
    (Pre : Pt → Array Value → Prop) (Post : Pt → Array Value → Option Value → Pt → Prop) (PostX : Pt → Array Value → Addr → Pt → Prop) : Prop :=
  ∀ (m : MethodId) (meth : Method) (c : Code) (A : Pt) (g : JFrame) (ig : Instr) (mk : MethodId) (a : Array Value),
    Stand p l e R s m sargs below meth c A.U A.locs A.cells A.slots → g.method = m → g.locals.size = c.maxLocals → decode c.code g.pc = .ok (ig, len) →
    2 * g.monitorRoom + (g.stack.map fun v => v.category).sum ≤ W9 → A.U.methodNamed? y = some mk → Pre A a →
    (∃ (v : Option Value) (B : Pt), Stand p l e R s m sargs below meth c B.U B.locs B.cells B.slots ∧ Post A a v B ∧
      Steps p.tables e below (doInvoke e (A.U.setTop g) [] mk a).1 (B.U.setTop { g with pc := g.pc + len, stack := v.toList ++ g.stack })) ∨
    (∃ (q : Addr) (B : Pt), Stand p l e R s m sargs below meth c B.U B.locs B.cells B.slots ∧ PostX A a q B ∧
      Steps p.tables e below (doInvoke e (A.U.setTop g) [] mk a).1 ((B.U.setTop g).pushFrame (.throwing q)))
section Payer
variable {l : Launch} {R : Room} {p : Program} {e : Env} {below : List Frame} {s : State} {sargs : Array Value} {y : MethodName} {len W9 : Nat}
theorem vx_back {ws : List Cond} {rm : Room} {Pc : Array Value → State → Prop} {Qc : Array Value → State → Outcome → State → Prop} {XC : String → State → State → Prop} {mc ms : Nat} {free : Addr → Prop} {bytes : ByteArray} {maxL : Nat} {ret : Option FieldType}
    (hM : vx_Met l y ws rm Pc Qc XC mc ms free) (hblind : FrameBlind Pc) (hrc : rm.cells = mc) (hrs : rm.slots = ms)
    (hframes : rm.frames + 1 ≤ R.frames) (hlocals : W9 + (maxL + 11) + rm.locals ≤ R.locals)
    (hws : ∀ w ∈ ws, ∀ a' U, s.WarmedH U.vm → w.before a' U = true) (hcode : Cond.code y bytes maxL ret ∈ ws) (hinit : ∀ a' U, s.WarmedH U.vm → (Cond.initialized y.cls).before a' U = true) :
    vx_Back l R p e below s sargs y len W9 (PreOf R mc ms Pc) (PostOf Qc mc ms free) (vx_Post XC mc ms free) := by
  intro m meth c A g ig mk a X hg hsize hdg hW hn hp
  have h1 : (headSpec ws rm).pre.before a A.U = true := atoms_intro fun w hw => hws w hw _ _ X.warmed
  have h2 : (Cond.code y bytes maxL ret).before a A.U = true := hws _ hcode _ _ X.warmed
  have h3 : (Cond.initialized y.cls).before a A.U = true := hinit _ _ X.warmed
  have h4 : A.cells + (headSpec ws rm).room.cells ≤ R.cells := by rw [show (headSpec ws rm).room.cells = mc from hrc]; exact hp.1
  have h5 : A.slots + (headSpec ws rm).room.slots ≤ R.slots := by rw [show (headSpec ws rm).room.slots = ms from hrs]; exact hp.2.1
  have hPc : Pc a (A.U.calling g mk a) := hblind _ _ _ _ hp.2.2
  obtain ⟨U, Ls, c0, s0⟩ := A
  dsimp only [Pt.U, Pt.locs, Pt.cells, Pt.slots] at h1 h2 h3 h4 h5 X hn hPc ⊢
  obtain ⟨methY, cY, hmY, hcY, -, hlY, -, -, -, -⟩ := Cond.code_spec hn h2
  obtain ⟨kY, hkY, -⟩ := className_of_methodNamed hn
  have hinitY : kY.init = .initialized := Cond.initialized_spec (findClass_of_methodNamed hn) hkY h3
  have h : At U g.method c below := by rw [hg]; exact X.here
  have hlocals9 : W9 + (maxL + 11) + (headSpec ws rm).room.locals ≤ R.locals := hlocals
  have happ : (headSpec ws rm).appliesLoose y e.platform (U.calling g mk a) = true :=
    Spec.appliesLoose_calling (g := g) h hdg hn hkY hinitY
      (X.room_calling (g := g) (R' := (headSpec ws rm).room) hsize hmY hcY hframes (by rw [hlY]; omega) h4 h5) h1
  obtain ⟨mid, hmid⟩ := h.above
  have hfr : (U.setTop g).frames = (.java g :: mid) ++ below := by rw [State.frames_setTop' g h.top, hmid]; rfl
  obtain ⟨o, s₂, hsteps, -, hend, hq⟩ := Steps.callFree hM p X.admits X.cas X.clock (acts := []) hfr happ hPc trivial
  have hq' : vx_Q Qc XC mc ms free a (U.calling g mk a) o s₂ := hq
  rw [State.frames_setTop' g h.top] at hend
  obtain ⟨g₀, hg0⟩ := Option.isSome_iff_exists.mp h.top
  obtain ⟨r, hr⟩ := State.topJava?_eq_some.mp hg0
  have hr' : (({ U with heap := s₂.heap, slotsUsed := s₂.slotsUsed } : State).setVm s₂.vm).frames = .java g₀ :: r := hr
  rcases hq' with ⟨hqc, L, hfe, hL⟩ | ⟨q, rfl, E, ce, L, hx, hce, hcv, hcl, hW₂, hsm, hL⟩
  · obtain ⟨⟨v, rfl⟩, hW₂, e2, q2, q3, q4, q5, q6⟩ := id hfe
    have e3 : s₂ = ({ (U.calling g mk a).setFrames s₂.frames with heap := s₂.heap, slotsUsed := s₂.slotsUsed } : State).setVm s₂.vm := by
      have : s₂ = ({ s₂ with vm := (U.calling g mk a).vm } : State).setVm s₂.vm := rfl
      rw [e2] at this
      exact this
    obtain ⟨c₂, i₂, len₂, hc₂, hd₂, hf₂⟩ := hend
    have hW' : U.WarmedH s₂.vm := hW₂
    have hcc : c₂ = c := by
      have h1 : s₂.code? g.method = U.code? g.method := by
        rw [State.code?_eq, State.code?_eq, hW'.alike.method?]
      exact Option.some.inj (hc₂.symm.trans (h1.trans h.code))
    subst hcc
    have hlen : len₂ = len := by rw [hdg] at hd₂; cases hd₂; rfl
    subst hlen
    have hs₂ : s₂ = (({ U with heap := s₂.heap, slotsUsed := s₂.slotsUsed } : State).setVm s₂.vm).setTop { g with pc := g.pc + len₂, stack := v.toList ++ g.stack } := by
      refine e3.trans ?_
      rw [hf₂, State.calling_eq h.top, State.setFrames_setFrames, State.setTop_of_frames _ hr', hr]
      rfl
    have hsame : U.sameButNew ({ U with heap := s₂.heap, slotsUsed := s₂.slotsUsed } : State) L mc ms := by
      refine ⟨?_, q2, q3, q4, q5, q6⟩
      obtain ⟨t, ht, -⟩ := State.frames_cons hr
      show ({ U with heap := s₂.heap, slotsUsed := s₂.slotsUsed } : State) = { U.setFrames U.frames with heap := s₂.heap, slotsUsed := s₂.slotsUsed }
      rw [State.setFrames_self ht]
    subst hg
    refine Or.inl ⟨v, ⟨(({ U with heap := s₂.heap, slotsUsed := s₂.slotsUsed } : State).setVm s₂.vm), Ls ++ L, c0 + mc, s0 + ms⟩,
      ⟨X.admits, X.cas, X.clock, X.frames, X.room, X.hears, X.method, X.code, (X.here.setHeapUsed s₂.heap s₂.slotsUsed).setVm hW'.alike, X.tail, State.WarmedH.trans X.warmed hW', X.limits, X.bytes, X.same.trans (hsame.setVm s.vm)⟩,
      ⟨g, mk, s₂, L, rfl, rfl, hqc, rfl, hL, rfl, rfl⟩, ?_⟩
    show Steps p.tables e below _ ((({ U with heap := s₂.heap, slotsUsed := s₂.slotsUsed } : State).setVm s₂.vm).setTop { g with pc := g.pc + len₂, stack := v.toList ++ g.stack })
    rw [← hs₂]
    exact hsteps
  · obtain ⟨e2, q2, q3, q4, q5, q6⟩ := id hsm
    have e3 : s₂ = ({ (U.calling g mk a).setFrames s₂.frames with heap := s₂.heap, slotsUsed := s₂.slotsUsed } : State).setVm s₂.vm := by
      have : s₂ = ({ s₂ with vm := (U.calling g mk a).vm } : State).setVm s₂.vm := rfl
      rw [e2] at this
      exact this
    have hf₂ : s₂.frames = .throwing q :: .java g :: U.frames.tail := hend
    have hW' : U.WarmedH s₂.vm := hW₂
    have hs₂ : s₂ = ((({ U with heap := s₂.heap, slotsUsed := s₂.slotsUsed } : State).setVm s₂.vm).setTop g).pushFrame (.throwing q) := by
      refine e3.trans ?_
      rw [hf₂, State.calling_eq h.top, State.setFrames_setFrames, State.pushFrame, State.frames_setTop _ hr', State.setTop_of_frames _ hr', State.setFrames_setFrames, hr]
      rfl
    have hsame : U.sameButNew ({ U with heap := s₂.heap, slotsUsed := s₂.slotsUsed } : State) L mc ms := by
      refine ⟨?_, q2, q3, q4, q5, q6⟩
      obtain ⟨t, ht, -⟩ := State.frames_cons hr
      show ({ U with heap := s₂.heap, slotsUsed := s₂.slotsUsed } : State) = { U.setFrames U.frames with heap := s₂.heap, slotsUsed := s₂.slotsUsed }
      rw [State.setFrames_self ht]
    subst hg
    refine Or.inr ⟨q, ⟨(({ U with heap := s₂.heap, slotsUsed := s₂.slotsUsed } : State).setVm s₂.vm), Ls ++ L, c0 + mc, s0 + ms⟩,
      ⟨X.admits, X.cas, X.clock, X.frames, X.room, X.hears, X.method, X.code, (X.here.setHeapUsed s₂.heap s₂.slotsUsed).setVm hW'.alike, X.tail, State.WarmedH.trans X.warmed hW', X.limits, X.bytes, X.same.trans (hsame.setVm s.vm)⟩,
      ⟨g, mk, s₂, L, E, ce, rfl, rfl, hx, hce, hcv, hcl, rfl, hL, rfl, rfl⟩, ?_⟩
    show Steps p.tables e below _ (((({ U with heap := s₂.heap, slotsUsed := s₂.slotsUsed } : State).setVm s₂.vm).setTop g).pushFrame (.throwing q))
    rw [← hs₂]
    exact hsteps
end Payer
section Calls
variable {p : Program} {l : Launch} {e : Env} {R : Room} {s : State} {m : MethodId} {args : Array Value} {below : List Frame} {meth : Method} {c : Code} {T : State} {locs : List Loc} {cells slots : Nat}
theorem vx_callV (X : Stand p l e R s m args below meth c T locs cells slots) (hexec : p.tables.exec = Jvm.exec) {own C : String} {index : Nat} {y : MethodName} {bytes : ByteArray} {maxL : Nat} {ret : Option FieldType}
    (hown : s.vm.findClass own = some m.cls) (hlink : (Cond.methodLink own index y).before args s = true) (hinst : (Cond.instanceMethod y).before args s = true) (hsel : (Cond.selects C y y).before args s = true)
    (hcode : (Cond.code y bytes maxL ret).before args s = true) (hy : y.cls ≠ "java/lang/invoke/MethodHandle" ∧ y.cls ≠ "java/lang/invoke/VarHandle")
    {W9 : Nat} {Pre : Pt → Array Value → Prop} {Post : Pt → Array Value → Option Value → Pt → Prop} {PostX : Pt → Array Value → Addr → Pt → Prop} (hK : vx_Back l R p e below s args y 3 W9 Pre Post PostX)
    {b : Addr} {cellB : Cell} (hcell : T.heap[b]? = some cellB) (hobj : cellB.vm.isStatics = false) (hcls : s.vm.findClass C = some cellB.cls)
    {g : JFrame} (hg : g.method = m) (hsize : g.locals.size = c.maxLocals) {argsL rest : List Value} (hlen : ∀ sig, parseMethodDescriptor y.desc = some sig → argsL.length = sig.parameters.length)
    (hstack : g.stack = argsL.reverse ++ .ref b :: rest) (hW : 2 * g.monitorRoom + (rest.map fun v => v.category).sum ≤ W9) (hdg : decode c.code g.pc = .ok (.invokevirtual index, 3))
    (hpre : ∀ vm₁, s.WarmedH vm₁ → Pre ⟨T.setVm vm₁, locs, cells, slots⟩ (Value.ref b :: argsL).toArray) :
    (∃ (v : Option Value) (vm₁ : Vm) (B : Pt), s.WarmedH vm₁ ∧ Stand p l e R s m args below meth c B.U B.locs B.cells B.slots ∧ Post ⟨T.setVm vm₁, locs, cells, slots⟩ (Value.ref b :: argsL).toArray v B ∧
      ∀ target, Steps p.tables e below (B.U.setTop { g with pc := g.pc + 3, stack := v.toList ++ rest }) target → Steps p.tables e below (T.setTop g) target) ∨
    (∃ (q : Addr) (vm₁ : Vm) (B : Pt), s.WarmedH vm₁ ∧ Stand p l e R s m args below meth c B.U B.locs B.cells B.slots ∧ PostX ⟨T.setVm vm₁, locs, cells, slots⟩ (Value.ref b :: argsL).toArray q B ∧
      Steps p.tables e below (T.setTop g) ((B.U.setTop { g with stack := rest }).pushFrame (.throwing q))) := by
  obtain ⟨mk, methM, hnamed, hmethM, hstM, habM⟩ := Cond.instanceMethod_spec hinst
  obtain ⟨methM', cM, hmethM', -, -, -, -, -, -, hsigM⟩ := Cond.code_spec hnamed hcode
  cases hmethM.symm.trans hmethM'
  obtain ⟨c2, r2, m2, q1, q2, q3, q4, kP, hkP, hkPi⟩ := Cond.selects_spec hsel
  cases hcls.symm.trans q1
  cases (State.methodFound?_of_named hnamed hy).symm.trans q2
  cases hnamed.symm.trans q3
  have hselP : selectMethod e.platform s.vm cellB.cls mk = .method mk := by rw [Launch.admits_selectMethod X.admits]; exact q4
  obtain ⟨vm₁, X₁, hstep₁⟩ := X.invokevirtual hexec hown hlink hnamed hmethM hstM hkP hkPi hy (a := b) (cell := cellB) hcell
    (fun z h => by rw [h] at hobj; cases hobj) hselP hmethM habM hkP hkPi (g := g) hg (argsL := argsL) (rest := rest) (hlen _ hsigM) hstack hdg
  rcases hK m meth c ⟨T.setVm vm₁, locs, cells, slots⟩ { g with stack := rest } (.invokevirtual index) mk (Value.ref b :: argsL).toArray X₁ hg hsize hdg hW (X₁.named hnamed) (hpre vm₁ X₁.warmed) with ⟨v, B, X', hpost, hsteps⟩ | ⟨q, B, X', hpost, hsteps⟩
  · exact Or.inl ⟨v, vm₁, B, X₁.warmed, X', hpost, fun target h => hstep₁ _ fun acts => by rw [doInvoke_state]; exact hsteps.trans h⟩
  · exact Or.inr ⟨q, vm₁, B, X₁.warmed, X', hpost, hstep₁ _ fun acts => by rw [doInvoke_state]; exact hsteps⟩
theorem vx_callS (X : Stand p l e R s m args below meth c T locs cells slots) (hexec : p.tables.exec = Jvm.exec) {own : String} {index : Nat} {y : MethodName} {bytes : ByteArray} {maxL : Nat} {ret : Option FieldType}
    (hown : s.vm.findClass own = some m.cls) (hlink : (Cond.methodLink own index y).before args s = true) (hstat : (Cond.static y).before args s = true) (hinit : (Cond.initialized y.cls).before args s = true)
    (hcode : (Cond.code y bytes maxL ret).before args s = true) (hy : y.cls ≠ "java/lang/invoke/MethodHandle" ∧ y.cls ≠ "java/lang/invoke/VarHandle")
    {W9 : Nat} {Pre : Pt → Array Value → Prop} {Post : Pt → Array Value → Option Value → Pt → Prop} {PostX : Pt → Array Value → Addr → Pt → Prop} (hK : vx_Back l R p e below s args y 3 W9 Pre Post PostX)
    {g : JFrame} (hg : g.method = m) (hsize : g.locals.size = c.maxLocals) {argsL rest : List Value} (hlen : ∀ sig, parseMethodDescriptor y.desc = some sig → argsL.length = sig.parameters.length)
    (hstack : g.stack = argsL.reverse ++ rest) (hW : 2 * g.monitorRoom + (rest.map fun v => v.category).sum ≤ W9) (hdg : decode c.code g.pc = .ok (.invokestatic index, 3))
    (hpre : ∀ vm₁, s.WarmedH vm₁ → Pre ⟨T.setVm vm₁, locs, cells, slots⟩ argsL.toArray) :
    (∃ (v : Option Value) (vm₁ : Vm) (B : Pt), s.WarmedH vm₁ ∧ Stand p l e R s m args below meth c B.U B.locs B.cells B.slots ∧ Post ⟨T.setVm vm₁, locs, cells, slots⟩ argsL.toArray v B ∧
      ∀ target, Steps p.tables e below (B.U.setTop { g with pc := g.pc + 3, stack := v.toList ++ rest }) target → Steps p.tables e below (T.setTop g) target) ∨
    (∃ (q : Addr) (vm₁ : Vm) (B : Pt), s.WarmedH vm₁ ∧ Stand p l e R s m args below meth c B.U B.locs B.cells B.slots ∧ PostX ⟨T.setVm vm₁, locs, cells, slots⟩ argsL.toArray q B ∧
      Steps p.tables e below (T.setTop g) ((B.U.setTop { g with stack := rest }).pushFrame (.throwing q))) := by
  obtain ⟨mk, hnamed⟩ := Cond.code_named hcode
  obtain ⟨methM, cM, hmethM, -, -, -, -, -, -, hsigM⟩ := Cond.code_spec hnamed hcode
  have hstatic : methM.isStatic = true := Cond.static_spec hnamed hmethM hstat
  obtain ⟨kP, hkP, -⟩ := className_of_methodNamed hnamed
  have hinitP : kP.init = .initialized := Cond.initialized_spec (findClass_of_methodNamed hnamed) hkP hinit
  obtain ⟨vm₁, X₁, hstep₁⟩ := X.invokestatic hexec hown hlink hnamed hmethM hstatic hkP hinitP hy (g := g) hg (argsL := argsL) (rest := rest) (hlen _ hsigM) hstack hdg
  rcases hK m meth c ⟨T.setVm vm₁, locs, cells, slots⟩ { g with stack := rest } (.invokestatic index) mk argsL.toArray X₁ hg hsize hdg hW (X₁.named hnamed) (hpre vm₁ X₁.warmed) with ⟨v, B, X', hpost, hsteps⟩ | ⟨q, B, X', hpost, hsteps⟩
  · exact Or.inl ⟨v, vm₁, B, X₁.warmed, X', hpost, fun target h => hstep₁ _ fun acts => by rw [doInvoke_state]; exact hsteps.trans h⟩
  · exact Or.inr ⟨q, vm₁, B, X₁.warmed, X', hpost, hstep₁ _ fun acts => by rw [doInvoke_state]; exact hsteps⟩
end Calls
theorem vx_cls {s : State} {T : State} {vm₁ : Vm} {E : String} {k : ClassId} (hW : s.WarmedH vm₁) (h : (T.setVm vm₁).vm.findClass E = some k) : s.vm.findClass E = some k := by
  have h1 : vm₁.findClass E = some k := h
  rw [hW.alike.findClass] at h1
  exact h1
/-- the method's frame g, with q thrown over it -/
def vx_W (p : Program) (l : Launch) (e : Env) (R : Room) (s : State) (m : MethodId) (args : Array Value) (below : List Frame) (meth : Method) (c : Code) (H : Heap) (locs : List Loc) (cells slots : Nat) (Q : State → Prop) (g : JFrame) (q : Addr) : Prop :=
  ∀ T : State, T.heap = H → Stand p l e R s m args below meth c T locs cells slots → ∃ t, Steps p.tables e below ((T.setTop g).pushFrame (.throwing q)) t ∧ Q t
def vx_Run (p : Program) (l : Launch) (e : Env) (R : Room) (s : State) (m : MethodId) (args : Array Value) (below : List Frame) (meth : Method) (c : Code) (H : Heap) (locs : List Loc) (cells slots mc ms : Nat) (g : JFrame) (rest : List Value) (Qa : State → Outcome → State → Prop) (XC : String → State → State → Prop) (free : Addr → Prop) : Prop :=
  ∀ T : State, T.heap = H → Stand p l e R s m args below meth c T locs cells slots →
    (∃ (v : Option Value) (st₀ t T' : State) (L : List Loc), st₀.heap = H ∧ Stand p l e R s m args below meth c T' (locs ++ L) (cells + mc) (slots + ms) ∧ (∀ q ∈ L, free q.base) ∧ T'.heap = t.heap ∧ T'.vm = t.vm ∧ Qa st₀ (.returned v) t ∧
      Goes p e below T g T' { g with pc := g.pc + 3, stack := v.toList ++ rest }) ∨
    (∃ (q : Addr) (st₀ t T' : State) (L : List Loc) (E : String) (ce : Cell), st₀.heap = H ∧ Stand p l e R s m args below meth c T' (locs ++ L) (cells + mc) (slots + ms) ∧ (∀ z ∈ L, free z.base) ∧ T'.heap = t.heap ∧ T'.vm = t.vm ∧ XC E st₀ t ∧ t.heap[q]? = some ce ∧ ce.vm = .none ∧ s.vm.findClass E = some ce.cls ∧
      Steps p.tables e below (T.setTop g) ((T'.setTop { g with stack := rest }).pushFrame (.throwing q)))
def vx_X {S : Type} (px : S → Prop) (B : String → S → State → Prop) (A : Nat → Prop) : String → State → State → Prop := fun E st t => ∃ u : S, px u ∧ B E u t ∧ va_F A st t
section Runs
variable {p : Program} {l : Launch} {e : Env} {R : Room} {s : State} {m : MethodId} {args : Array Value} {below : List Frame} {meth : Method} {c : Code} {H : Heap} {locs : List Loc} {cells slots : Nat}
variable {y : MethodName} {bytes cc : ByteArray} {maxL nL mc ms n index : Nat} {ret : Option FieldType} {ws : List Cond} {rm : Room} {Pc : Array Value → State → Prop} {Qc : Array Value → State → Outcome → State → Prop} {XC : String → State → State → Prop} {free : Addr → Prop} {Ts : List Cond} {own C : String} {b : Addr} {As rest : List Value} {g : JFrame}
theorem vx_callBack (cb : CallB R s args own index y bytes maxL ret ws rm mc ms n) (hM : vx_Met l y ws rm Pc Qc XC mc ms free) (hbl : FrameBlind Pc) : vx_Back l R p e below s args y 3 8 (PreOf R mc ms Pc) (PostOf Qc mc ms free) (vx_Post XC mc ms free) := by
  obtain ⟨hrc, hrs, hfr, hlo, hws, hcw, -, hini, -⟩ := cb
  exact vx_back (bytes := bytes) (maxL := maxL) (ret := ret) hM hbl hrc hrs hfr hlo hws hcw (fun a' U hW => word_at hW (Or.inl (by first | rfl | simp [Cond.onTables, Cond.keeps, Cond.steady])) hini)
theorem vx_runV (S : CallFix p m c cc nL s args Ts own) (hM : vx_Met l y ws rm Pc Qc XC mc ms free) (cw : CallW R s args own C index y bytes maxL ret ws rm mc ms n) (hp : PreV s H C b Pc As)
    (hg : g.method = m) (hn : As.length = n) (hsize : g.locals.size = nL) (hstack : g.stack = As.reverse ++ .ref b :: rest) (hW : 2 * g.monitorRoom + (rest.map fun v => v.category).sum ≤ 8) (hdg : decode cc g.pc = .ok (.invokevirtual index, 3)) (hf : cells + mc ≤ R.cells ∧ slots + ms ≤ R.slots) :
    vx_Run p l e R s m args below meth c H locs cells slots mc ms g rest (Qc (Value.ref b :: As).toArray) XC free := by
  have hK : vx_Back l R p e below s args y 3 8 (PreOf R mc ms Pc) (PostOf Qc mc ms free) (vx_Post XC mc ms free) := vx_callBack cw.1 hM hp.1
  obtain ⟨⟨-, -, -, -, -, -, hcode, -, hy, hlen, hl⟩, hin, hse⟩ := cw
  obtain ⟨hx, hb, hml, ho, -⟩ := S
  obtain ⟨-, ⟨cellB, hcB, hoB, hclB⟩, hPc⟩ := hp
  intro T hT X
  rcases vx_callV X hx (C := C) (bytes := bytes) (maxL := maxL) (ret := ret) ho hl hin hse hcode hy hK (by rw [hT]; exact hcB) hoB hclB hg (hsize.trans hml.symm) (argsL := As) (rest := rest) (fun sig h => hn.trans (hlen sig h)) hstack hW (by rw [hb]; exact hdg)
    (fun vm₁ hW₁ => ⟨hf.1, hf.2, hPc (T.setVm vm₁) hT hW₁⟩) with ⟨v, vm₁, ⟨U', l2, c2, s2⟩, hW₁, X', ⟨g', mk, t, L, e1, e2, hq, h1, hL, h2, h3⟩, st⟩ | ⟨q, vm₁, ⟨U', l2, c2, s2⟩, hW₁, X', ⟨g', mk, t, L, E, ce, e1, e2, hq, hce, hcv, hcl, h1, hL, h2, h3⟩, st⟩
  · dsimp only [Pt.U, Pt.locs, Pt.cells, Pt.slots] at X' e1 e2 h1 h2 h3 st
    subst h1; subst h2; subst h3
    exact Or.inl ⟨v, (T.setVm vm₁).calling g' mk (Value.ref b :: As).toArray, t, U', L, hT, X', hL, e1, e2, hq, st⟩
  · dsimp only [Pt.U, Pt.locs, Pt.cells, Pt.slots] at X' e1 e2 h1 h2 h3 st hcl
    subst h1; subst h2; subst h3
    exact Or.inr ⟨q, (T.setVm vm₁).calling g' mk (Value.ref b :: As).toArray, t, U', L, E, ce, hT, X', hL, e1, e2, hq, hce, hcv, vx_cls hW₁ hcl, st⟩
theorem vx_runS (S : CallFix p m c cc nL s args Ts own) (hM : vx_Met l y ws rm Pc Qc XC mc ms free) (cw : CallB R s args own index y bytes maxL ret ws rm mc ms n ∧ (Cond.static y).before args s = true) (hp : PreS s H Pc As)
    (hg : g.method = m) (hn : As.length = n) (hsize : g.locals.size = nL) (hstack : g.stack = As.reverse ++ rest) (hW : 2 * g.monitorRoom + (rest.map fun v => v.category).sum ≤ 8) (hdg : decode cc g.pc = .ok (.invokestatic index, 3)) (hf : cells + mc ≤ R.cells ∧ slots + ms ≤ R.slots) :
    vx_Run p l e R s m args below meth c H locs cells slots mc ms g rest (Qc As.toArray) XC free := by
  have hK : vx_Back l R p e below s args y 3 8 (PreOf R mc ms Pc) (PostOf Qc mc ms free) (vx_Post XC mc ms free) := vx_callBack cw.1 hM hp.1
  obtain ⟨⟨-, -, -, -, -, -, hcode, hini, hy, hlen, hl⟩, hstt⟩ := cw
  obtain ⟨hx, hb, hml, ho, -⟩ := S
  intro T hT X
  rcases vx_callS X hx (bytes := bytes) (maxL := maxL) (ret := ret) ho hl hstt hini hcode hy hK hg (hsize.trans hml.symm) (argsL := As) (rest := rest) (fun sig h => hn.trans (hlen sig h)) hstack hW (by rw [hb]; exact hdg)
    (fun vm₁ hW₁ => ⟨hf.1, hf.2, hp.2 (T.setVm vm₁) hT hW₁⟩) with ⟨v, vm₁, ⟨U', l2, c2, s2⟩, hW₁, X', ⟨g', mk, t, L, e1, e2, hq, h1, hL, h2, h3⟩, st⟩ | ⟨q, vm₁, ⟨U', l2, c2, s2⟩, hW₁, X', ⟨g', mk, t, L, E, ce, e1, e2, hq, hce, hcv, hcl, h1, hL, h2, h3⟩, st⟩
  · dsimp only [Pt.U, Pt.locs, Pt.cells, Pt.slots] at X' e1 e2 h1 h2 h3 st
    subst h1; subst h2; subst h3
    exact Or.inl ⟨v, (T.setVm vm₁).calling g' mk As.toArray, t, U', L, hT, X', hL, e1, e2, hq, st⟩
  · dsimp only [Pt.U, Pt.locs, Pt.cells, Pt.slots] at X' e1 e2 h1 h2 h3 st hcl
    subst h1; subst h2; subst h3
    exact Or.inr ⟨q, (T.setVm vm₁).calling g' mk As.toArray, t, U', L, E, ce, hT, X', hL, e1, e2, hq, hce, hcv, vx_cls hW₁ hcl, st⟩
end Runs
section Rows
variable {p : Program} {l : Launch} {e : Env} {R : Room} {s : State} {m : MethodId} {args : Array Value} {below : List Frame} {meth : Method} {c : Code} {H : Heap} {locs : List Loc} {cells slots : Nat} {Q : State → Prop}
variable {mc ms : Nat} {free : Addr → Prop} {A0 A1 : Nat → Prop} {H0 : Heap} {a : Array Value} {pc : Nat} {ls : Array Slot} {st0 rest : List Value}
theorem vx_keep {st₀ t T' : State} {L : List Loc} (h0 : st₀.heap = H) (e1 : T'.heap = t.heap) (hS : va_S A0 H0 H locs) (hA : ∀ q, q < H.size → A1 q → A0 q) (hf : ∀ q, free q → A0 q) (hL : ∀ q ∈ L, free q.base) (hF : va_F A1 st₀ t) :
    H.size ≤ T'.heap.size ∧ (∀ q : Nat, q < H.size → ¬ A1 q → T'.heap[q]? = H[q]?) ∧ va_S A0 H0 T'.heap (locs ++ L) := by
  obtain ⟨hz, hk⟩ := hF
  rw [h0] at hz hk
  exact ⟨by rw [e1]; exact hz, fun q h1 h2 => by rw [e1]; exact hk q h1 h2,
    ⟨Nat.le_trans hS.1 (by rw [e1]; exact hz), fun q h1 h2 => by rw [e1, hk q (Nat.lt_of_lt_of_le h1 hS.1) (fun z => h2 (hA q (Nat.lt_of_lt_of_le h1 hS.1) z))]; exact hS.2.1 q h1 h2, fun q hq => by
      rcases List.mem_append.mp hq with h | h
      · exact hS.2.2 q h
      · exact hf _ (hL q h)⟩⟩
theorem vx_calli {S SX : Type} {post : Int32 → S → Prop} {px : SX → Prop} {B : S → State → Prop} {BX : String → SX → State → Prop} {AX : Nat → Prop} (hr : vx_Run p l e R s m args below meth c H locs cells slots mc ms (F0 m pc ls st0) rest (va_Qi post B A1 a) (vx_X px BX AX) free) (hS : va_S A0 H0 H locs) (hA : ∀ q, q < H.size → A1 q → A0 q) (hf : ∀ q, free q → A0 q) (hAX : ∀ q, q < H.size → AX q → A0 q)
    (kx : ∀ (E : String) (ce : Cell) (q9 : Addr) (u : SX) (t : State) (H1 : Heap) (locs1 : List Loc), t.heap = H1 → s.vm.Alike t.vm → px u → BX E u t → H.size ≤ H1.size → (∀ q : Nat, q < H.size → ¬ AX q → H1[q]? = H[q]?) → va_S A0 H0 H1 locs1 → H1[q9]? = some ce → ce.vm = .none → s.vm.findClass E = some ce.cls → vx_W p l e R s m args below meth c H1 locs1 (cells + mc) (slots + ms) Q (F0 m pc ls rest) q9)
    (kk : ∀ (r : Int32) (u : S) (t : State) (H1 : Heap) (locs1 : List Loc), t.heap = H1 → s.vm.Alike t.vm → post r u → B u t → H.size ≤ H1.size → (∀ q : Nat, q < H.size → ¬ A1 q → H1[q]? = H[q]?) → va_S A0 H0 H1 locs1 → W p l e R s m args below meth c H1 locs1 (cells + mc) (slots + ms) Q (F0 m (pc + 3) ls (.int r :: rest))) : W p l e R s m args below meth c H locs cells slots Q (F0 m pc ls st0) := by
  intro T hT X
  rcases hr T hT X with ⟨v, st₀, t, T', L, h0, X', hL, e1, e2, ⟨⟨r, u, hv, hp, hb⟩, hF⟩, st⟩ | ⟨q, st₀, t, T', L, E, ce, h0, X', hL, e1, e2, ⟨u, hp, hb, hF⟩, hce, hcv, hcl, st⟩
  · cases hv
    obtain ⟨k1, k2, k3⟩ := vx_keep h0 e1 hS hA hf hL hF
    obtain ⟨t2, a1, b1⟩ := kk r u t T'.heap (locs ++ L) e1.symm (by rw [← e2]; exact X'.warmed.alike) hp hb k1 k2 k3 T' rfl X'
    exact ⟨t2, st t2 a1, b1⟩
  · obtain ⟨k1, k2, k3⟩ := vx_keep h0 e1 hS hAX hf hL hF
    obtain ⟨t2, a1, b1⟩ := kx E ce q u t T'.heap (locs ++ L) e1.symm (by rw [← e2]; exact X'.warmed.alike) hp hb k1 k2 k3 (by rw [e1]; exact hce) hcv hcl T' rfl X'
    exact ⟨t2, st.trans a1, b1⟩
theorem vx_calll {S SX : Type} {post : Int64 → S → Prop} {px : SX → Prop} {B : S → State → Prop} {BX : String → SX → State → Prop} {AX : Nat → Prop} (hr : vx_Run p l e R s m args below meth c H locs cells slots mc ms (F0 m pc ls st0) rest (va_Ql post B A1 a) (vx_X px BX AX) free) (hS : va_S A0 H0 H locs) (hA : ∀ q, q < H.size → A1 q → A0 q) (hf : ∀ q, free q → A0 q) (hAX : ∀ q, q < H.size → AX q → A0 q)
    (kx : ∀ (E : String) (ce : Cell) (q9 : Addr) (u : SX) (t : State) (H1 : Heap) (locs1 : List Loc), t.heap = H1 → s.vm.Alike t.vm → px u → BX E u t → H.size ≤ H1.size → (∀ q : Nat, q < H.size → ¬ AX q → H1[q]? = H[q]?) → va_S A0 H0 H1 locs1 → H1[q9]? = some ce → ce.vm = .none → s.vm.findClass E = some ce.cls → vx_W p l e R s m args below meth c H1 locs1 (cells + mc) (slots + ms) Q (F0 m pc ls rest) q9)
    (kk : ∀ (r : Int64) (u : S) (t : State) (H1 : Heap) (locs1 : List Loc), t.heap = H1 → s.vm.Alike t.vm → post r u → B u t → H.size ≤ H1.size → (∀ q : Nat, q < H.size → ¬ A1 q → H1[q]? = H[q]?) → va_S A0 H0 H1 locs1 → W p l e R s m args below meth c H1 locs1 (cells + mc) (slots + ms) Q (F0 m (pc + 3) ls (.long r :: rest))) : W p l e R s m args below meth c H locs cells slots Q (F0 m pc ls st0) := by
  intro T hT X
  rcases hr T hT X with ⟨v, st₀, t, T', L, h0, X', hL, e1, e2, ⟨⟨r, u, hv, hp, hb⟩, hF⟩, st⟩ | ⟨q, st₀, t, T', L, E, ce, h0, X', hL, e1, e2, ⟨u, hp, hb, hF⟩, hce, hcv, hcl, st⟩
  · cases hv
    obtain ⟨k1, k2, k3⟩ := vx_keep h0 e1 hS hA hf hL hF
    obtain ⟨t2, a1, b1⟩ := kk r u t T'.heap (locs ++ L) e1.symm (by rw [← e2]; exact X'.warmed.alike) hp hb k1 k2 k3 T' rfl X'
    exact ⟨t2, st t2 a1, b1⟩
  · obtain ⟨k1, k2, k3⟩ := vx_keep h0 e1 hS hAX hf hL hF
    obtain ⟨t2, a1, b1⟩ := kx E ce q u t T'.heap (locs ++ L) e1.symm (by rw [← e2]; exact X'.warmed.alike) hp hb k1 k2 k3 (by rw [e1]; exact hce) hcv hcl T' rfl X'
    exact ⟨t2, st.trans a1, b1⟩
theorem vx_callf {S SX : Type} {post : UInt32 → S → Prop} {px : SX → Prop} {B : S → State → Prop} {BX : String → SX → State → Prop} {AX : Nat → Prop} (hr : vx_Run p l e R s m args below meth c H locs cells slots mc ms (F0 m pc ls st0) rest (va_Qf post B A1 a) (vx_X px BX AX) free) (hS : va_S A0 H0 H locs) (hA : ∀ q, q < H.size → A1 q → A0 q) (hf : ∀ q, free q → A0 q) (hAX : ∀ q, q < H.size → AX q → A0 q)
    (kx : ∀ (E : String) (ce : Cell) (q9 : Addr) (u : SX) (t : State) (H1 : Heap) (locs1 : List Loc), t.heap = H1 → s.vm.Alike t.vm → px u → BX E u t → H.size ≤ H1.size → (∀ q : Nat, q < H.size → ¬ AX q → H1[q]? = H[q]?) → va_S A0 H0 H1 locs1 → H1[q9]? = some ce → ce.vm = .none → s.vm.findClass E = some ce.cls → vx_W p l e R s m args below meth c H1 locs1 (cells + mc) (slots + ms) Q (F0 m pc ls rest) q9)
    (kk : ∀ (r : UInt32) (u : S) (t : State) (H1 : Heap) (locs1 : List Loc), t.heap = H1 → s.vm.Alike t.vm → post r u → B u t → H.size ≤ H1.size → (∀ q : Nat, q < H.size → ¬ A1 q → H1[q]? = H[q]?) → va_S A0 H0 H1 locs1 → W p l e R s m args below meth c H1 locs1 (cells + mc) (slots + ms) Q (F0 m (pc + 3) ls (.float r :: rest))) : W p l e R s m args below meth c H locs cells slots Q (F0 m pc ls st0) := by
  intro T hT X
  rcases hr T hT X with ⟨v, st₀, t, T', L, h0, X', hL, e1, e2, ⟨⟨r, u, hv, hp, hb⟩, hF⟩, st⟩ | ⟨q, st₀, t, T', L, E, ce, h0, X', hL, e1, e2, ⟨u, hp, hb, hF⟩, hce, hcv, hcl, st⟩
  · cases hv
    obtain ⟨k1, k2, k3⟩ := vx_keep h0 e1 hS hA hf hL hF
    obtain ⟨t2, a1, b1⟩ := kk r u t T'.heap (locs ++ L) e1.symm (by rw [← e2]; exact X'.warmed.alike) hp hb k1 k2 k3 T' rfl X'
    exact ⟨t2, st t2 a1, b1⟩
  · obtain ⟨k1, k2, k3⟩ := vx_keep h0 e1 hS hAX hf hL hF
    obtain ⟨t2, a1, b1⟩ := kx E ce q u t T'.heap (locs ++ L) e1.symm (by rw [← e2]; exact X'.warmed.alike) hp hb k1 k2 k3 (by rw [e1]; exact hce) hcv hcl T' rfl X'
    exact ⟨t2, st.trans a1, b1⟩
theorem vx_calld {S SX : Type} {post : UInt64 → S → Prop} {px : SX → Prop} {B : S → State → Prop} {BX : String → SX → State → Prop} {AX : Nat → Prop} (hr : vx_Run p l e R s m args below meth c H locs cells slots mc ms (F0 m pc ls st0) rest (va_Qd post B A1 a) (vx_X px BX AX) free) (hS : va_S A0 H0 H locs) (hA : ∀ q, q < H.size → A1 q → A0 q) (hf : ∀ q, free q → A0 q) (hAX : ∀ q, q < H.size → AX q → A0 q)
    (kx : ∀ (E : String) (ce : Cell) (q9 : Addr) (u : SX) (t : State) (H1 : Heap) (locs1 : List Loc), t.heap = H1 → s.vm.Alike t.vm → px u → BX E u t → H.size ≤ H1.size → (∀ q : Nat, q < H.size → ¬ AX q → H1[q]? = H[q]?) → va_S A0 H0 H1 locs1 → H1[q9]? = some ce → ce.vm = .none → s.vm.findClass E = some ce.cls → vx_W p l e R s m args below meth c H1 locs1 (cells + mc) (slots + ms) Q (F0 m pc ls rest) q9)
    (kk : ∀ (r : UInt64) (u : S) (t : State) (H1 : Heap) (locs1 : List Loc), t.heap = H1 → s.vm.Alike t.vm → post r u → B u t → H.size ≤ H1.size → (∀ q : Nat, q < H.size → ¬ A1 q → H1[q]? = H[q]?) → va_S A0 H0 H1 locs1 → W p l e R s m args below meth c H1 locs1 (cells + mc) (slots + ms) Q (F0 m (pc + 3) ls (.double r :: rest))) : W p l e R s m args below meth c H locs cells slots Q (F0 m pc ls st0) := by
  intro T hT X
  rcases hr T hT X with ⟨v, st₀, t, T', L, h0, X', hL, e1, e2, ⟨⟨r, u, hv, hp, hb⟩, hF⟩, st⟩ | ⟨q, st₀, t, T', L, E, ce, h0, X', hL, e1, e2, ⟨u, hp, hb, hF⟩, hce, hcv, hcl, st⟩
  · cases hv
    obtain ⟨k1, k2, k3⟩ := vx_keep h0 e1 hS hA hf hL hF
    obtain ⟨t2, a1, b1⟩ := kk r u t T'.heap (locs ++ L) e1.symm (by rw [← e2]; exact X'.warmed.alike) hp hb k1 k2 k3 T' rfl X'
    exact ⟨t2, st t2 a1, b1⟩
  · obtain ⟨k1, k2, k3⟩ := vx_keep h0 e1 hS hAX hf hL hF
    obtain ⟨t2, a1, b1⟩ := kx E ce q u t T'.heap (locs ++ L) e1.symm (by rw [← e2]; exact X'.warmed.alike) hp hb k1 k2 k3 (by rw [e1]; exact hce) hcv hcl T' rfl X'
    exact ⟨t2, st.trans a1, b1⟩
theorem vx_callv {S SX : Type} {post : S → Prop} {px : SX → Prop} {B : S → State → Prop} {BX : String → SX → State → Prop} {AX : Nat → Prop} (hr : vx_Run p l e R s m args below meth c H locs cells slots mc ms (F0 m pc ls st0) rest (va_Qv post B A1 a) (vx_X px BX AX) free) (hS : va_S A0 H0 H locs) (hA : ∀ q, q < H.size → A1 q → A0 q) (hf : ∀ q, free q → A0 q) (hAX : ∀ q, q < H.size → AX q → A0 q)
    (kx : ∀ (E : String) (ce : Cell) (q9 : Addr) (u : SX) (t : State) (H1 : Heap) (locs1 : List Loc), t.heap = H1 → s.vm.Alike t.vm → px u → BX E u t → H.size ≤ H1.size → (∀ q : Nat, q < H.size → ¬ AX q → H1[q]? = H[q]?) → va_S A0 H0 H1 locs1 → H1[q9]? = some ce → ce.vm = .none → s.vm.findClass E = some ce.cls → vx_W p l e R s m args below meth c H1 locs1 (cells + mc) (slots + ms) Q (F0 m pc ls rest) q9)
    (kk : ∀ (u : S) (t : State) (H1 : Heap) (locs1 : List Loc), t.heap = H1 → s.vm.Alike t.vm → post u → B u t → H.size ≤ H1.size → (∀ q : Nat, q < H.size → ¬ A1 q → H1[q]? = H[q]?) → va_S A0 H0 H1 locs1 → W p l e R s m args below meth c H1 locs1 (cells + mc) (slots + ms) Q (F0 m (pc + 3) ls (rest))) : W p l e R s m args below meth c H locs cells slots Q (F0 m pc ls st0) := by
  intro T hT X
  rcases hr T hT X with ⟨v, st₀, t, T', L, h0, X', hL, e1, e2, ⟨⟨u, hv, hp, hb⟩, hF⟩, st⟩ | ⟨q, st₀, t, T', L, E, ce, h0, X', hL, e1, e2, ⟨u, hp, hb, hF⟩, hce, hcv, hcl, st⟩
  · cases hv
    obtain ⟨k1, k2, k3⟩ := vx_keep h0 e1 hS hA hf hL hF
    obtain ⟨t2, a1, b1⟩ := kk u t T'.heap (locs ++ L) e1.symm (by rw [← e2]; exact X'.warmed.alike) hp hb k1 k2 k3 T' rfl X'
    exact ⟨t2, st t2 a1, b1⟩
  · obtain ⟨k1, k2, k3⟩ := vx_keep h0 e1 hS hAX hf hL hF
    obtain ⟨t2, a1, b1⟩ := kx E ce q u t T'.heap (locs ++ L) e1.symm (by rw [← e2]; exact X'.warmed.alike) hp hb k1 k2 k3 (by rw [e1]; exact hce) hcv hcl T' rfl X'
    exact ⟨t2, st.trans a1, b1⟩
/-- caught by the row x of this method's table; the rows ahead don't take it -/
theorem vx_catch {own name : String} {E : String} {ce : Cell} {q : Addr} (hown : s.vm.findClass own = some m.cls) (pre : List ExceptionTableEntry) (x : ExceptionTableEntry) (suf : List ExceptionTableEntry) (hsplit : c.exceptionTable.toList = pre ++ x :: suf)
    (hpass : ∀ z ∈ pre, covers z pc = false ∨ (z.catchType ≠ 0 ∧ ∃ nm : String, (Cond.classLink own z.catchType nm).before args s = true ∧ va_Nc E nm s)) (hx : covers x pc = true) (h0 : x.catchType ≠ 0)
    (hlink : (Cond.classLink own x.catchType name).before args s = true) (hcast : (Cond.castable E name).before args s = true) (hcell : H[q]? = some ce) (hv : ce.vm = .none) (hcl : s.vm.findClass E = some ce.cls)
    (kk : W p l e R s m args below meth c H locs cells slots Q (F0 m x.handlerPc ls [.ref q])) : vx_W p l e R s m args below meth c H locs cells slots Q (F0 m pc ls rest) q := by
  intro T hT X
  have hpl : e.platform.magicAccessors = ({} : Platform).magicAccessors := by rw [X.admits.platform]
  obtain ⟨c3, c4, hc3, hc4, hasg⟩ := Cond.castable_spec hcast
  cases Option.some.inj (hc3.symm.trans hcl)
  obtain ⟨c5, hc5, hcl5⟩ := Cond.classLink_spec hown hlink e.platform hpl
  cases Option.some.inj (hc4.symm.trans hc5)
  obtain ⟨vm', X', st⟩ := X.thenCaughtThrough q (g := F0 m pc ls rest) rfl (Steps.refl _) (by rw [hT]; exact hcell) (by rw [hv]; rfl) (by obtain ⟨k9, h9, -⟩ := Vm.findClass_spec hcl; exact ⟨k9, h9⟩) pre x suf hsplit
    (fun z hz => by
      rcases hpass z hz with h | ⟨hz0, nm, hl1, hn1⟩
      · exact Or.inl h
      · obtain ⟨c6, hc6, hcl6⟩ := Cond.classLink_spec hown hl1 e.platform hpl
        obtain ⟨a8, b8, h1, h2, h3⟩ := hn1
        cases Option.some.inj (h1.symm.trans hcl)
        cases Option.some.inj (h2.symm.trans hc6)
        exact Or.inr ⟨hz0, _, hcl6, h3⟩) hx (Or.inr ⟨h0, c4, hcl5, hasg⟩)
  obtain ⟨t, a1, b1⟩ := kk (T.setVm vm') hT X'
  exact ⟨t, st.trans a1, b1⟩
end Rows
section Ends
variable {p : Program} {l : Launch} {e : Env} {R : Room} {s : State} {m : MethodId} {args : Array Value} {below : List Frame} {meth : Method} {c : Code} {H : Heap} {locs : List Loc} {cells slots : Nat} {Q : State → Prop}
variable {mc ms : Nat} {free : Addr → Prop} {A0 A1 : Nat → Prop} {H0 : Heap} {a : Array Value} {ls : Array Slot} {st0 rest : List Value}
variable {Qc : Array Value → State → Outcome → State → Prop} {XC : String → State → State → Prop}
/-- what a body that may throw owes at its end -/
def vx_MQ (below : List Frame) (Qc : Array Value → State → Outcome → State → Prop) (XC : String → State → State → Prop) (a : Array Value) (s : State) (mc ms : Nat) (free : Addr → Prop) : State → Prop := fun t =>
  ∃ o, t.status = .running ∧ Ended t below o ∧ vx_Q Qc XC mc ms free a s o t
theorem vx_ret {g : JFrame} {mc ms : Nat} (k : W p l e R s m args below meth c H locs cells slots (MQ below Qc args s mc ms free) g) : W p l e R s m args below meth c H locs cells slots (vx_MQ below Qc XC args s mc ms free) g := by
  intro T hT X
  obtain ⟨t, a1, o, b1, b2, b3, b4⟩ := k T hT X
  exact ⟨t, a1, o, b1, b2, Or.inl ⟨b3, b4⟩⟩
/-- not caught here: it goes on to the caller -/
theorem vx_widen {g : JFrame} {q : Addr} {k n : Nat} (h1 : cells ≤ k) (h2 : slots ≤ n) (kk : vx_W p l e R s m args below meth c H locs k n Q g q) : vx_W p l e R s m args below meth c H locs cells slots Q g q := fun T hT X => kk T hT (stand_widen X h1 h2)
theorem vx_out {pc : Nat} {E : String} {ce : Cell} {q : Addr} {mc ms : Nat} (hout : ∀ x ∈ c.exceptionTable.toList, covers x pc = false) (hlocks : meth.locks = false) (hcell : H[q]? = some ce) (hv : ce.vm = .none) (hcl : s.vm.findClass E = some ce.cls)
    (hx : ∀ t : State, t.heap = H → s.vm.Alike t.vm → XC E s t) (hf : ∀ z ∈ locs, free z.base) (hc : cells ≤ mc) (hs : slots ≤ ms) :
    vx_W p l e R s m args below meth c H locs cells slots (vx_MQ below Qc XC args s mc ms free) (F0 m pc ls rest) q := by
  intro T hT X
  obtain ⟨st1, hrun, hend, hW, hsm⟩ := X.leaveThrown q (g := F0 m pc ls rest) rfl rfl rfl hout hlocks
  have hcell9 : (T.setFrames (.throwing q :: below)).heap[q]? = some ce := by
    show T.heap[q]? = some ce
    rw [hT]; exact hcell
  exact ⟨_, st1, .threw q, hrun, hend, Or.inr ⟨q, rfl, E, ce, locs, hx _ hT hW.alike, hcell9, hv, hcl, hW, hsm.mono hc hs, hf⟩⟩
theorem vx_frame {U : State} {k n : Nat} (h : s.sameButNew ({ U with vm := s.vm } : State) locs k n) : s.heap.size ≤ U.heap.size ∧ ∀ q : Nat, q < s.heap.size → (∀ z ∈ locs, z.base ≠ q) → U.heap[q]? = s.heap[q]? := by
  obtain ⟨-, h2, -, -, -, h6⟩ := h
  refine ⟨h2, fun q hq hz => ?_⟩
  obtain ⟨c9, e1, e2, e3, e4⟩ := h6 q _ (Array.getElem?_eq_getElem hq)
  have hs : c9.slots = (s.heap[q]).slots := Array.ext_getElem? fun i => e4 i fun hm => hz _ hm rfl
  have h9 : c9 = s.heap[q] := by
    rw [hs] at e2
    exact e2
  have e5 : U.heap[q]? = some c9 := e1
  rw [e5, h9, Array.getElem?_eq_getElem hq]
/-- the words of a throw but the four that speak of the heap -/
def vx_no (w : Cond) : Bool := decide (w ≠ .isRef (.static Bundle.tN "UNASSIGNED_STACK" Bundle.steD)) && decide (w ≠ .isRef (.static Bundle.tN "SUPPRESSED_SENTINEL" Bundle.listD)) && decide (w ≠ .laysStatic Bundle.tN "UNASSIGNED_STACK" Bundle.steD) && decide (w ≠ .laysStatic Bundle.tN "SUPPRESSED_SENTINEL" Bundle.listD)
def vx_at0 (own : String) (ic : Nat) (X : String) (names : List String) : List Cond := (Bundle.ownAtoms0 own ic X names).filter vx_no
def vx_atS (own : String) (ic : Nat) (X : String) (names : List String) : List Cond := (Bundle.ownAtoms own ic X names).filter vx_no
/-- a word that the tables alone decide, or a good one -/
def vx_ot (w : Cond) : Bool := w.onTables || goodWord w
theorem vx_ot_at {args a' : Array Value} {s U : State} {w : Cond} (hW : s.WarmedH U.vm) (hvm : s.vm = U.vm) (hg : vx_ot w = true) (h : w.before args s = true) : w.before a' U = true := by
  simp only [vx_ot, Bool.or_eq_true] at hg
  rcases hg with hg | hg
  · exact va_tabs hg hvm h
  · exact word_at hW (good_of_word hg) h
/-- a list's words: the good ones out of the method's own list, the others by premises of their own -/
theorem vx_hat {args : Array Value} {s : State} {L B : List Cond} (h1 : ∀ w ∈ L.filter goodWord, w.before args s = true) (h2 : ∀ w ∈ L.filter (fun w => !goodWord w), w ∈ B) (h3 : ∀ w ∈ B, w.before args s = true) : ∀ w ∈ L, w.before args s = true := by
  intro w hw
  by_cases g : goodWord w = true
  · exact h1 w (List.mem_filter.mpr ⟨hw, g⟩)
  · refine h3 w (h2 w (List.mem_filter.mpr ⟨hw, ?_⟩))
    show (!goodWord w) = true
    cases hgw : goodWord w
    · rfl
    · exact absurd hgw g
theorem vx_c {args : Array Value} {s : State} {w : Cond} {B : List Cond} (h : w.before args s = true) (t : ∀ w ∈ B, w.before args s = true) : ∀ w' ∈ w :: B, w'.before args s = true := fun w' h' => (List.mem_cons.mp h').elim (fun e => by rw [e]; exact h) (t w')
theorem vx_n {args : Array Value} {s : State} : ∀ w ∈ ([] : List Cond), w.before args s = true := fun _ h => nomatch h
theorem vx_own {args : Array Value} {s : State} {L : List Cond} (h1 : ∀ w ∈ L.filter vx_no, w.before args s = true)
    (hU : (Cond.isRef (.static Bundle.tN "UNASSIGNED_STACK" Bundle.steD)).before args s = true) (hN : (Cond.isRef (.static Bundle.tN "SUPPRESSED_SENTINEL" Bundle.listD)).before args s = true)
    (lU : (Cond.laysStatic Bundle.tN "UNASSIGNED_STACK" Bundle.steD).before args s = true) (lN : (Cond.laysStatic Bundle.tN "SUPPRESSED_SENTINEL" Bundle.listD).before args s = true) : ∀ w ∈ L, w.before args s = true := by
  intro w hw
  by_cases e1 : w = .isRef (.static Bundle.tN "UNASSIGNED_STACK" Bundle.steD)
  · rw [e1]; exact hU
  · by_cases e2 : w = .isRef (.static Bundle.tN "SUPPRESSED_SENTINEL" Bundle.listD)
    · rw [e2]; exact hN
    · by_cases e3 : w = .laysStatic Bundle.tN "UNASSIGNED_STACK" Bundle.steD
      · rw [e3]; exact lU
      · by_cases e4 : w = .laysStatic Bundle.tN "SUPPRESSED_SENTINEL" Bundle.listD
        · rw [e4]; exact lN
        · exact h1 w (List.mem_filter.mpr ⟨hw, by unfold vx_no; rw [decide_eq_true e1, decide_eq_true e2, decide_eq_true e3, decide_eq_true e4]; rfl⟩)
/-- where a static field lies, its class's statics cell in H -/
def vx_L (C n d : String) (A : Nat → Prop) (U : State) (H : Heap) : Prop := ∃ (c : ClassId) (k : Class) (i : Nat) (f : Field) (a : Nat) (cell : Cell), U.vm.findClass C = some c ∧ U.fieldFound? C n d = some (c, k, i, f) ∧ f.isStatic = true ∧ k.statics = some a ∧ H[a]? = some cell ∧ cell.vm.isStatics = true ∧ cell.cls = c ∧ f.slot < cell.slots.size ∧ k.staticTypes[f.slot]? = some f.type ∧ ¬ A a
theorem vx_L.moved {C n d : String} {A : Nat → Prop} {u U : State} {H : Heap} (hvm : u.vm.Alike U.vm) (h : vx_L C n d A u H) : vx_L C n d A U H := by
  obtain ⟨c, k, i, f, a, cell, h1, h2, h3, h4, h5, h6, h7, h8, h9, h10⟩ := h
  obtain ⟨k', hi', he⟩ := State.fieldFound?_setVm hvm h2
  exact ⟨c, k', i, f, a, cell, by rw [hvm.findClass]; exact h1, hi', h3, by rw [he]; exact h4, h5, h6, h7, h8, by rw [he]; exact h9, h10⟩
theorem vx_L.kept {C n d : String} {A : Nat → Prop} {U : State} {H H1 : Heap} (h : vx_L C n d A U H) (hq : ∀ a : Nat, a < H.size → ¬ A a → H1[a]? = H[a]?) : vx_L C n d A U H1 := by
  obtain ⟨c, k, i, f, a, cell, h1, h2, h3, h4, h5, h6, h7, h8, h9, h10⟩ := h
  exact ⟨c, k, i, f, a, cell, h1, h2, h3, h4, by rw [hq a (Array.getElem?_eq_some_iff.mp h5).1 h10]; exact h5, h6, h7, h8, h9, h10⟩
theorem vx_L.narrow {C n d : String} {A B : Nat → Prop} {U : State} {H : Heap} (h : vx_L C n d A U H) (hAB : ∀ q, B q → A q) : vx_L C n d B U H := by
  obtain ⟨c, k, i, f, a, cell, h1, h2, h3, h4, h5, h6, h7, h8, h9, h10⟩ := h
  exact ⟨c, k, i, f, a, cell, h1, h2, h3, h4, h5, h6, h7, h8, h9, fun z => h10 (hAB _ z)⟩
theorem vx_L.word {C n d : String} {A : Nat → Prop} {s : State} {args : Array Value} (h : vx_L C n d A s s.heap) : (Cond.laysStatic C n d).before args s = true := by
  obtain ⟨c, k, i, f, a, cell, h1, h2, h3, h4, h5, h6, h7, h8, h9, -⟩ := h
  show (Cond.laysStatic C n d).holds args s none s [] = true
  exact Cond.laysStatic_of h1 h2 h3 h4 h5 h6 h7 h8 h9
/-- .. and what it holds: null or some reference -/
def vx_Zq (C n d : String) (A : Nat → Prop) (U : State) (H : Heap) : Prop := va_Zq C n d A U H ∧ vx_L C n d A U H
theorem vx_Zq.moved {C n d : String} {A : Nat → Prop} {u U : State} {H : Heap} (hvm : u.vm.Alike U.vm) (h : vx_Zq C n d A u H) : vx_Zq C n d A U H := ⟨va_Zq.moved hvm h.1, vx_L.moved hvm h.2⟩
theorem vx_Zq.kept {C n d : String} {A : Nat → Prop} {U : State} {H H1 : Heap} (h : vx_Zq C n d A U H) (hq : ∀ a : Nat, a < H.size → ¬ A a → H1[a]? = H[a]?) : vx_Zq C n d A U H1 := ⟨va_Zq.kept h.1 hq, vx_L.kept h.2 hq⟩
theorem vx_Zq.narrow {C n d : String} {A B : Nat → Prop} {U : State} {H : Heap} (h : vx_Zq C n d A U H) (hAB : ∀ q, B q → A q) : vx_Zq C n d B U H := ⟨va_Zq.narrow h.1 hAB, vx_L.narrow h.2 hAB⟩
theorem vx_Zqof {args : Array Value} {s : State} {C n d : String} {A : Nat → Prop} (hl : (Cond.laysStatic C n d).before args s = true) (hini : (Cond.initialized C).before args s = true) (h : (Cond.isRef (.static C n d)).before args s = true) (hA : ∀ a : Nat, a < s.heap.size → ¬ A a) : vx_Zq C n d A s s.heap := by
  refine ⟨va_Zqof hl hini h hA, ?_⟩
  obtain ⟨c, k, i, f, a, cell, h1, h2, h3, h4, h5, h6, h7, h8, h9⟩ := Cond.laysStatic_spec hl
  exact ⟨c, k, i, f, a, cell, h1, h2, h3, h4, h5, h6, h7, h8, h9, hA a (Array.getElem?_eq_some_iff.mp h5).1⟩
theorem vx_isRef {C n d : String} {v : Value} {A : Nat → Prop} {s : State} {args : Array Value} (h : va_Z C n d v A s s.heap) (hv : v.isRef = true) : (Cond.isRef (.static C n d)).before args s = true := by
  obtain ⟨cf, kf, fi, f, a, cell, h1, h2, h3, h4, h5, h6, h7, -⟩ := h
  have he : (Term.static C n d).eval args s none [] s = some v := by
    simp [Term.eval, State.fieldNamed?, h1, h2, h4, h5, h6, h7]
  simp only [Cond.before, Cond.holds, Cond.value, he]
  cases v <;> simp_all [Value.isRef]
theorem vx_isRefq {C n d : String} {A : Nat → Prop} {s : State} {args : Array Value} (h : va_Zq C n d A s s.heap) : (Cond.isRef (.static C n d)).before args s = true := by
  rcases h with h | ⟨t, h⟩
  · exact vx_isRef h rfl
  · exact vx_isRef h rfl
/-- the same frame, seen from here: as if the method were called anew in this heap -/
theorem vx_rebase {T : State} (X : Stand p l e R s m args below meth c T locs cells slots) {R' : Room} (hf : R'.frames ≤ R.frames) (hl : R'.locals ≤ R.locals) (hc : cells + R'.cells ≤ R.cells) (hs : slots + R'.slots ≤ R.slots) :
    Stand p l e R' ((T.setVm s.vm).setFrames (.invoking m args :: below)) m args below meth c T [] 0 0 := by
  have htop : (T.setVm s.vm).topJava?.isSome := X.here.top
  have hF : ((T.setVm s.vm).setFrames (.invoking m args :: below)).frames = .invoking m args :: below := State.frames_setFrames _ (State.cur_lt_of_top htop)
  obtain ⟨g₀, hg0⟩ := Option.isSome_iff_exists.mp htop
  obtain ⟨r, hr⟩ := State.topJava?_eq_some.mp hg0
  have hl9 : e.platform.stackLimits (T.setVm s.vm).me = e.platform.stackLimits s.me := X.limits
  have hb9 : (T.setVm s.vm).me.stackBytes = s.me.stackBytes := X.bytes
  refine ⟨X.admits, X.cas, X.clock, hF, ?_, X.hears, X.method, X.code, X.here, X.tail, X.warmed, ?_, ?_, ?_⟩
  · have h := X.room
    have hU : ((T.setVm s.vm).setFrames (.invoking m args :: below)).localsInUse = s.localsInUse := by
      rw [State.localsInUse_invoking hF (meth := meth) (c := c) X.method X.code, State.localsInUse_invoking X.frames X.method X.code]
    simp only [State.hasRoom, Bool.and_eq_true, decide_eq_true_eq] at h ⊢
    obtain ⟨⟨⟨⟨h1, h2, h3, h4, h5, h6⟩, h7⟩, h8⟩, h9⟩ := h
    rw [X.frames, List.length_cons] at h2 h3
    have q1 := X.heapSize
    have q2 := X.used
    simp only [hF, hU, List.length_cons, State.stackLimits_setFrames, State.stackBytes_setFrames, hl9, hb9]
    refine ⟨⟨⟨⟨by omega, by omega, by omega, by omega, by omega, h6⟩, ?_⟩, ?_⟩, X.book⟩
    · show T.heap.size + R'.cells ≤ e.platform.maxCells
      omega
    · show T.slotsUsed + R'.slots ≤ e.platform.maxSlots
      omega
  · rw [State.stackLimits_setFrames]; rfl
  · rw [State.stackBytes_setFrames]; rfl
  · refine ⟨?_, Nat.le_refl _, Nat.le_refl _, ?_, ?_, fun a c9 h9 => ⟨c9, h9, rfl, rfl, fun _ _ => rfl⟩⟩
    · obtain ⟨t, ht, -⟩ := State.frames_cons hr
      show T.setVm s.vm = { ((T.setVm s.vm).setFrames (.invoking m args :: below)).setFrames (T.setVm s.vm).frames with heap := T.heap, slotsUsed := T.slotsUsed }
      rw [State.setFrames_setFrames, State.setFrames_self ht]
      rfl
    · show T.slotsUsed = T.slotsUsed + ((T.heap.toList.drop T.heap.size).map (·.slots.size)).sum
      rw [List.drop_eq_nil_of_le (Nat.le_of_eq Array.length_toList)]
      rfl
    · show ((T.heap.toList.drop T.heap.size).map (·.slots.size)).sum ≤ 0
      rw [List.drop_eq_nil_of_le (Nat.le_of_eq Array.length_toList)]
      exact Nat.le_refl _
/-- 'throw new E()': new; dup; invokespecial; athrow -/
theorem vx_throw0 {cc : ByteArray} {pc : Nat} (hexec : p.tables.exec = Jvm.exec) (hb : c.code = cc) (hl : l.stackTraces = false) {own cls : String} {names : List String} {ik ic mc ms : Nat} {A : Nat → Prop}
    (hown : s.vm.findClass own = some m.cls) (hcls : Bundle.fit cls = true) (hnames : ∀ n ∈ names, Bundle.fit n = true)
    (hk : (Cond.classLink own ik cls).before args s = true) (hini : (Cond.initialized cls).before args s = true) (hat : ∀ w ∈ vx_at0 own ic cls names, w.before args s = true)
    (hgood : ∀ w ∈ Cond.classLink own ik cls :: Cond.initialized cls :: vx_at0 own ic cls names, vx_ot w = true)
    (hU : vx_Zq Bundle.tN "UNASSIGNED_STACK" Bundle.steD A s s.heap) (hN : vx_Zq Bundle.tN "SUPPRESSED_SENTINEL" Bundle.listD A s s.heap) (hS : va_S A s.heap H locs) (hsize : ls.size = c.maxLocals)
    (d0 : decode cc pc = .ok (.new ik, 3)) (d3 : decode cc (pc + 3) = .ok (.dup, 1)) (d4 : decode cc (pc + 4) = .ok (.invokespecial ic, 3)) (d7 : decode cc (pc + 7) = .ok (.athrow, 1))
    (hout : ∀ x ∈ c.exceptionTable.toList, covers x (pc + 7) = false)
    (hRframes : names.length + 3 < R.frames) (hRlocals : (rest.map fun v => v.category).sum + (13 * (names.length + 1) + 42) ≤ R.locals) (hRcells : cells + 1 ≤ R.cells) (hRslots : slots + 6 ≤ R.slots) (hlocks : meth.locks = false)
    (hx : ∀ t : State, s.vm.Alike t.vm → H.size ≤ t.heap.size → (∀ q : Nat, q < H.size → t.heap[q]? = H[q]?) → XC cls s t)
    (hf : ∀ z ∈ locs, free z.base) (hc : cells + 1 ≤ mc) (hs : slots + 6 ≤ ms) :
    W p l e R s m args below meth c H locs cells slots (vx_MQ below Qc XC args s mc ms free) (F0 m pc ls rest) := by
  intro T hT X
  have htr : e.platform.stackTraces = false := (show e.platform.stackTraces = l.stackTraces by rw [X.admits.platform]).trans hl
  have Y := vx_rebase X (R' := { frames := R.frames, locals := R.locals, cells := 1, slots := 6 }) (Nat.le_refl _) (Nat.le_refl _) hRcells hRslots
  obtain ⟨s', hA⟩ : ∃ z, z = (T.setVm s.vm).setFrames (.invoking m args :: below) := ⟨_, rfl⟩
  rw [← hA] at Y
  have hvm : s'.vm = s.vm := by rw [hA]; rfl
  have hhp : s'.heap = H := by rw [hA]; exact hT
  have hW0 : s.WarmedH s'.vm := by rw [hvm]; exact State.WarmedH.refl s
  have hat' : ∀ w ∈ vx_at0 own ic cls names, w.before args s' = true := fun w hw => vx_ot_at hW0 hvm.symm (hgood w (List.mem_cons_of_mem _ (List.mem_cons_of_mem _ hw))) (hat w hw)
  have hk' : (Cond.classLink own ik cls).before args s' = true := vx_ot_at hW0 hvm.symm (hgood _ List.mem_cons_self) hk
  have hini' : (Cond.initialized cls).before args s' = true := vx_ot_at hW0 hvm.symm (hgood _ (List.mem_cons_of_mem _ List.mem_cons_self)) hini
  have hU' : vx_Zq Bundle.tN "UNASSIGNED_STACK" Bundle.steD A s' s'.heap := by rw [hhp]; exact vx_Zq.moved hW0.alike (hU.kept hS.2.1)
  have hN' : vx_Zq Bundle.tN "SUPPRESSED_SENTINEL" Bundle.listD A s' s'.heap := by rw [hhp]; exact vx_Zq.moved hW0.alike (hN.kept hS.2.1)
  have h : ∀ w ∈ Bundle.ownAtoms0 own ic cls names, w.before args s' = true := vx_own hat' (vx_isRefq hU'.1) (vx_isRefq hN'.1) hU'.2.word hN'.2.word
  have hown' : s'.vm.findClass own = some m.cls := by rw [hvm]; exact hown
  have hins : (Cond.instantiable cls 6).before args s' = true := h _ (by simp [Bundle.ownAtoms0])
  obtain ⟨vm₁, cX, kX, hfX, hkX, -, -, X₁, st1⟩ := Y.newCold hexec (own := own) (C := cls) (index := ik) (n := 6) hown' hk' hins hini'
    (g := F0 m pc ls rest) rfl (by rw [hb]; exact d0) (Nat.le_refl _) (Nat.le_refl _)
  generalize hT1 : (T.setVm vm₁).pushCell { cls := cX, slots := kX.instanceTypes.map defaultValue, vm := .none } = T1 at X₁ st1
  have hcat : (Value.ref T.heap.size).category = 1 := rfl
  have hcellA : T1.heap[T.heap.size]? = some (freshCell cX kX) := by rw [← hT1]; exact State.heap_pushCell_size _ _
  have d3' : decode c.code (pc + 3) = .ok (.dup, 1) := by rw [hb]; exact d3
  obtain ⟨U, hsteps, hrun, hend, hW, hsame, ce, hce, hO⟩ := X₁.ctorThrow0 hexec htr (own := own) (cls := cls) (names := names) (ic := ic) hown' hcls hnames h (fun x hx => nomatch hx) hfX hkX hcellA (by rw [hhp, hT]; exact Nat.le_refl _)
    (g := { method := m, pc := pc + 4, locals := ls, stack := .ref T.heap.size :: .ref T.heap.size :: rest, locked := none }) rfl hsize rfl rfl (rest := rest) rfl
    (by rw [hb]; exact d4) (by rw [hb]; exact d7) hout hRframes (by simp only [List.map_cons, List.sum_cons, hcat]; omega) hlocks
  obtain ⟨f1, f2⟩ := vx_frame hsame
  rw [hhp] at f1 f2
  have hWs : s.WarmedH U.vm := State.WarmedH.trans hW0 hW
  have hcl : s.vm.findClass cls = some ce.cls := by
    have h9 := hO.cls
    rw [hvm] at h9
    exact h9
  have hall : s.sameButNew ({ U with vm := s.vm } : State) locs mc ms := by
    subst hA
    obtain ⟨e1, e2⟩ := hsame
    rw [State.setFrames_setFrames] at e1
    have h2 : (T.setVm s.vm).sameButNew ({ U with vm := s.vm } : State) [] (0 + 1) (0 + 6) := ⟨e1, e2⟩
    have h3 := X.same.trans h2
    rw [List.append_nil] at h3
    exact h3.mono hc hs
  refine ⟨U, ?_, .threw T.heap.size, hrun, hend, Or.inr ⟨T.heap.size, rfl, cls, ce, locs, hx U hWs.alike f1 (fun q hq => f2 q hq (fun z hz => nomatch hz)), hce, hO.vm, hcl, hWs, hall, hf⟩⟩
  refine st1 _ ?_
  show Steps p.tables e below (T1.setTop { method := m, pc := pc + 3, locals := ls, stack := .ref T.heap.size :: rest, locked := none }) _
  jvm_step X₁.here [X₁.here.top, hexec, d3', Value.category]
  exact hsteps
/-- 'throw new E("text")': new; dup; ldc; invokespecial; athrow -/
theorem vx_throwS {cc : ByteArray} {pc : Nat} (hexec : p.tables.exec = Jvm.exec) (hb : c.code = cc) (hl : l.stackTraces = false) {own cls text : String} {names : List String} {ik is ic mc ms sa : Nat} {A : Nat → Prop}
    (hown : s.vm.findClass own = some m.cls) (hcls : Bundle.fit cls = true) (hnames : ∀ n ∈ names, Bundle.fit n = true)
    (hk : (Cond.classLink own ik cls).before args s = true) (hini : (Cond.initialized cls).before args s = true) (hstr : vk_R own is text sa s) (hat : ∀ w ∈ vx_atS own ic cls names, w.before args s = true)
    (hgood : ∀ w ∈ Cond.classLink own ik cls :: Cond.initialized cls :: vx_atS own ic cls names, vx_ot w = true)
    (hU : vx_Zq Bundle.tN "UNASSIGNED_STACK" Bundle.steD A s s.heap) (hN : vx_Zq Bundle.tN "SUPPRESSED_SENTINEL" Bundle.listD A s s.heap) (hS : va_S A s.heap H locs) (hsize : ls.size = c.maxLocals)
    (d0 : decode cc pc = .ok (.new ik, 3)) (d3 : decode cc (pc + 3) = .ok (.dup, 1)) (d4 : decode cc (pc + 4) = .ok (.ldc is, 2)) (d6 : decode cc (pc + 6) = .ok (.invokespecial ic, 3)) (d9 : decode cc (pc + 9) = .ok (.athrow, 1))
    (hout : ∀ x ∈ c.exceptionTable.toList, covers x (pc + 9) = false)
    (hRframes : names.length + 3 < R.frames) (hRlocals : (rest.map fun v => v.category).sum + (13 * (names.length + 1) + 43) ≤ R.locals) (hRcells : cells + 1 ≤ R.cells) (hRslots : slots + 6 ≤ R.slots) (hlocks : meth.locks = false)
    (hx : ∀ t : State, s.vm.Alike t.vm → H.size ≤ t.heap.size → (∀ q : Nat, q < H.size → t.heap[q]? = H[q]?) → XC cls s t)
    (hf : ∀ z ∈ locs, free z.base) (hc : cells + 1 ≤ mc) (hs : slots + 6 ≤ ms) :
    W p l e R s m args below meth c H locs cells slots (vx_MQ below Qc XC args s mc ms free) (F0 m pc ls rest) := by
  intro T hT X
  have htr : e.platform.stackTraces = false := (show e.platform.stackTraces = l.stackTraces by rw [X.admits.platform]).trans hl
  have Y := vx_rebase X (R' := { frames := R.frames, locals := R.locals, cells := 1, slots := 6 }) (Nat.le_refl _) (Nat.le_refl _) hRcells hRslots
  obtain ⟨s', hA⟩ : ∃ z, z = (T.setVm s.vm).setFrames (.invoking m args :: below) := ⟨_, rfl⟩
  rw [← hA] at Y
  have hvm : s'.vm = s.vm := by rw [hA]; rfl
  have hhp : s'.heap = H := by rw [hA]; exact hT
  have hW0 : s.WarmedH s'.vm := by rw [hvm]; exact State.WarmedH.refl s
  have hat' : ∀ w ∈ vx_atS own ic cls names, w.before args s' = true := fun w hw => vx_ot_at hW0 hvm.symm (hgood w (List.mem_cons_of_mem _ (List.mem_cons_of_mem _ hw))) (hat w hw)
  have hk' : (Cond.classLink own ik cls).before args s' = true := vx_ot_at hW0 hvm.symm (hgood _ List.mem_cons_self) hk
  have hini' : (Cond.initialized cls).before args s' = true := vx_ot_at hW0 hvm.symm (hgood _ (List.mem_cons_of_mem _ List.mem_cons_self)) hini
  have hU' : vx_Zq Bundle.tN "UNASSIGNED_STACK" Bundle.steD A s' s'.heap := by rw [hhp]; exact vx_Zq.moved hW0.alike (hU.kept hS.2.1)
  have hN' : vx_Zq Bundle.tN "SUPPRESSED_SENTINEL" Bundle.listD A s' s'.heap := by rw [hhp]; exact vx_Zq.moved hW0.alike (hN.kept hS.2.1)
  have h : ∀ w ∈ Bundle.ownAtoms own ic cls names, w.before args s' = true := vx_own hat' (vx_isRefq hU'.1) (vx_isRefq hN'.1) hU'.2.word hN'.2.word
  have hown' : s'.vm.findClass own = some m.cls := by rw [hvm]; exact hown
  have hins : (Cond.instantiable cls 6).before args s' = true := h _ (by simp [Bundle.ownAtoms])
  obtain ⟨vm₁, cX, kX, hfX, hkX, -, -, X₁, st1⟩ := Y.newCold hexec (own := own) (C := cls) (index := ik) (n := 6) hown' hk' hins hini'
    (g := F0 m pc ls rest) rfl (by rw [hb]; exact d0) (Nat.le_refl _) (Nat.le_refl _)
  generalize hT1 : (T.setVm vm₁).pushCell { cls := cX, slots := kX.instanceTypes.map defaultValue, vm := .none } = T1 at X₁ st1
  have hcat : (Value.ref T.heap.size).category = 1 := rfl
  have hcellA : T1.heap[T.heap.size]? = some (freshCell cX kX) := by rw [← hT1]; exact State.heap_pushCell_size _ _
  have d3' : decode c.code (pc + 3) = .ok (.dup, 1) := by rw [hb]; exact d3
  have d4' : decode c.code (pc + 4) = .ok (.ldc is, 2) := by rw [hb]; exact d4
  have hstr' : vk_R own is text sa s' := vk_R.warm hW0 hstr
  obtain ⟨U, hsteps, hrun, hend, hW, hsame, ce, hce, hO⟩ := X₁.ctorThrowS hexec htr (own := own) (cls := cls) (names := names) (ic := ic) hown' hcls hnames h (fun x hx => nomatch hx) hfX hkX hcellA (by rw [hhp, hT]; exact Nat.le_refl _) (msg := .ref sa) rfl
    (g := { method := m, pc := pc + 6, locals := ls, stack := .ref sa :: .ref T.heap.size :: .ref T.heap.size :: rest, locked := none }) rfl hsize rfl rfl (rest := rest) rfl
    (by rw [hb]; exact d6) (by rw [hb]; exact d9) hout hRframes (by simp only [List.map_cons, List.sum_cons, hcat]; omega) hlocks
  obtain ⟨f1, f2⟩ := vx_frame hsame
  rw [hhp] at f1 f2
  have hWs : s.WarmedH U.vm := State.WarmedH.trans hW0 hW
  have hcl : s.vm.findClass cls = some ce.cls := by
    have h9 := hO.cls
    rw [hvm] at h9
    exact h9
  have hall : s.sameButNew ({ U with vm := s.vm } : State) locs mc ms := by
    subst hA
    obtain ⟨e1, e2⟩ := hsame
    rw [State.setFrames_setFrames] at e1
    have h2 : (T.setVm s.vm).sameButNew ({ U with vm := s.vm } : State) [] (0 + 1) (0 + 6) := ⟨e1, e2⟩
    have h3 := X.same.trans h2
    rw [List.append_nil] at h3
    exact h3.mono hc hs
  refine ⟨U, ?_, .threw T.heap.size, hrun, hend, Or.inr ⟨T.heap.size, rfl, cls, ce, locs, hx U hWs.alike f1 (fun q hq => f2 q hq (fun z hz => nomatch hz)), hce, hO.vm, hcl, hWs, hall, hf⟩⟩
  refine st1 _ ?_
  show Steps p.tables e below (T1.setTop { method := m, pc := pc + 3, locals := ls, stack := .ref T.heap.size :: rest, locked := none }) _
  jvm_step X₁.here [X₁.here.top, hexec, d3', Value.category]
  exact X₁.ldcString hexec (own := own) (text := text) (index := is) (a := sa) hown' hstr'.1 hstr'.2
    (g := { method := m, pc := pc + 4, locals := ls, stack := .ref T.heap.size :: .ref T.heap.size :: rest, locked := none }) rfl d4' _ hsteps
/-- 'throw new E("text")', the text by a wide index -/
theorem vx_throwSW {cc : ByteArray} {pc : Nat} (hexec : p.tables.exec = Jvm.exec) (hb : c.code = cc) (hl : l.stackTraces = false) {own cls text : String} {names : List String} {ik is ic mc ms sa : Nat} {A : Nat → Prop}
    (hown : s.vm.findClass own = some m.cls) (hcls : Bundle.fit cls = true) (hnames : ∀ n ∈ names, Bundle.fit n = true)
    (hk : (Cond.classLink own ik cls).before args s = true) (hini : (Cond.initialized cls).before args s = true) (hstr : vk_R own is text sa s) (hat : ∀ w ∈ vx_atS own ic cls names, w.before args s = true)
    (hgood : ∀ w ∈ Cond.classLink own ik cls :: Cond.initialized cls :: vx_atS own ic cls names, vx_ot w = true)
    (hU : vx_Zq Bundle.tN "UNASSIGNED_STACK" Bundle.steD A s s.heap) (hN : vx_Zq Bundle.tN "SUPPRESSED_SENTINEL" Bundle.listD A s s.heap) (hS : va_S A s.heap H locs) (hsize : ls.size = c.maxLocals)
    (d0 : decode cc pc = .ok (.new ik, 3)) (d3 : decode cc (pc + 3) = .ok (.dup, 1)) (d4 : decode cc (pc + 4) = .ok (.ldc_w is, 3)) (d7 : decode cc (pc + 7) = .ok (.invokespecial ic, 3)) (d10 : decode cc (pc + 10) = .ok (.athrow, 1))
    (hout : ∀ x ∈ c.exceptionTable.toList, covers x (pc + 10) = false)
    (hRframes : names.length + 3 < R.frames) (hRlocals : (rest.map fun v => v.category).sum + (13 * (names.length + 1) + 43) ≤ R.locals) (hRcells : cells + 1 ≤ R.cells) (hRslots : slots + 6 ≤ R.slots) (hlocks : meth.locks = false)
    (hx : ∀ t : State, s.vm.Alike t.vm → H.size ≤ t.heap.size → (∀ q : Nat, q < H.size → t.heap[q]? = H[q]?) → XC cls s t)
    (hf : ∀ z ∈ locs, free z.base) (hc : cells + 1 ≤ mc) (hs : slots + 6 ≤ ms) :
    W p l e R s m args below meth c H locs cells slots (vx_MQ below Qc XC args s mc ms free) (F0 m pc ls rest) := by
  intro T hT X
  have htr : e.platform.stackTraces = false := (show e.platform.stackTraces = l.stackTraces by rw [X.admits.platform]).trans hl
  have Y := vx_rebase X (R' := { frames := R.frames, locals := R.locals, cells := 1, slots := 6 }) (Nat.le_refl _) (Nat.le_refl _) hRcells hRslots
  obtain ⟨s', hA⟩ : ∃ z, z = (T.setVm s.vm).setFrames (.invoking m args :: below) := ⟨_, rfl⟩
  rw [← hA] at Y
  have hvm : s'.vm = s.vm := by rw [hA]; rfl
  have hhp : s'.heap = H := by rw [hA]; exact hT
  have hW0 : s.WarmedH s'.vm := by rw [hvm]; exact State.WarmedH.refl s
  have hat' : ∀ w ∈ vx_atS own ic cls names, w.before args s' = true := fun w hw => vx_ot_at hW0 hvm.symm (hgood w (List.mem_cons_of_mem _ (List.mem_cons_of_mem _ hw))) (hat w hw)
  have hk' : (Cond.classLink own ik cls).before args s' = true := vx_ot_at hW0 hvm.symm (hgood _ List.mem_cons_self) hk
  have hini' : (Cond.initialized cls).before args s' = true := vx_ot_at hW0 hvm.symm (hgood _ (List.mem_cons_of_mem _ List.mem_cons_self)) hini
  have hU' : vx_Zq Bundle.tN "UNASSIGNED_STACK" Bundle.steD A s' s'.heap := by rw [hhp]; exact vx_Zq.moved hW0.alike (hU.kept hS.2.1)
  have hN' : vx_Zq Bundle.tN "SUPPRESSED_SENTINEL" Bundle.listD A s' s'.heap := by rw [hhp]; exact vx_Zq.moved hW0.alike (hN.kept hS.2.1)
  have h : ∀ w ∈ Bundle.ownAtoms own ic cls names, w.before args s' = true := vx_own hat' (vx_isRefq hU'.1) (vx_isRefq hN'.1) hU'.2.word hN'.2.word
  have hown' : s'.vm.findClass own = some m.cls := by rw [hvm]; exact hown
  have hins : (Cond.instantiable cls 6).before args s' = true := h _ (by simp [Bundle.ownAtoms])
  obtain ⟨vm₁, cX, kX, hfX, hkX, -, -, X₁, st1⟩ := Y.newCold hexec (own := own) (C := cls) (index := ik) (n := 6) hown' hk' hins hini'
    (g := F0 m pc ls rest) rfl (by rw [hb]; exact d0) (Nat.le_refl _) (Nat.le_refl _)
  generalize hT1 : (T.setVm vm₁).pushCell { cls := cX, slots := kX.instanceTypes.map defaultValue, vm := .none } = T1 at X₁ st1
  have hcat : (Value.ref T.heap.size).category = 1 := rfl
  have hcellA : T1.heap[T.heap.size]? = some (freshCell cX kX) := by rw [← hT1]; exact State.heap_pushCell_size _ _
  have d3' : decode c.code (pc + 3) = .ok (.dup, 1) := by rw [hb]; exact d3
  have d4' : decode c.code (pc + 4) = .ok (.ldc_w is, 3) := by rw [hb]; exact d4
  have hstr' : vk_R own is text sa s' := vk_R.warm hW0 hstr
  obtain ⟨U, hsteps, hrun, hend, hW, hsame, ce, hce, hO⟩ := X₁.ctorThrowS hexec htr (own := own) (cls := cls) (names := names) (ic := ic) hown' hcls hnames h (fun x hx => nomatch hx) hfX hkX hcellA (by rw [hhp, hT]; exact Nat.le_refl _) (msg := .ref sa) rfl
    (g := { method := m, pc := pc + 7, locals := ls, stack := .ref sa :: .ref T.heap.size :: .ref T.heap.size :: rest, locked := none }) rfl hsize rfl rfl (rest := rest) rfl
    (by rw [hb]; exact d7) (by rw [hb]; exact d10) hout hRframes (by simp only [List.map_cons, List.sum_cons, hcat]; omega) hlocks
  obtain ⟨f1, f2⟩ := vx_frame hsame
  rw [hhp] at f1 f2
  have hWs : s.WarmedH U.vm := State.WarmedH.trans hW0 hW
  have hcl : s.vm.findClass cls = some ce.cls := by
    have h9 := hO.cls
    rw [hvm] at h9
    exact h9
  have hall : s.sameButNew ({ U with vm := s.vm } : State) locs mc ms := by
    subst hA
    obtain ⟨e1, e2⟩ := hsame
    rw [State.setFrames_setFrames] at e1
    have h2 : (T.setVm s.vm).sameButNew ({ U with vm := s.vm } : State) [] (0 + 1) (0 + 6) := ⟨e1, e2⟩
    have h3 := X.same.trans h2
    rw [List.append_nil] at h3
    exact h3.mono hc hs
  refine ⟨U, ?_, .threw T.heap.size, hrun, hend, Or.inr ⟨T.heap.size, rfl, cls, ce, locs, hx U hWs.alike f1 (fun q hq => f2 q hq (fun z hz => nomatch hz)), hce, hO.vm, hcl, hWs, hall, hf⟩⟩
  refine st1 _ ?_
  show Steps p.tables e below (T1.setTop { method := m, pc := pc + 3, locals := ls, stack := .ref T.heap.size :: rest, locked := none }) _
  jvm_step X₁.here [X₁.here.top, hexec, d3', Value.category]
  exact X₁.ldcStringW hexec (own := own) (text := text) (index := is) (a := sa) hown' hstr'.1 hstr'.2
    (g := { method := m, pc := pc + 4, locals := ls, stack := .ref T.heap.size :: .ref T.heap.size :: rest, locked := none }) rfl d4' _ hsteps
end Ends
section Bodies
variable {l : Launch}
theorem vx_ofW {y : MethodName} {ws ws' : List Cond} {rm : Room} {Pc : Array Value → State → Prop} {Qc : Array Value → State → Outcome → State → Prop} {XC : String → State → State → Prop} {mc ms : Nat} {free : Addr → Prop} {cc : ByteArray} {maxL : Nat} {ret : Option FieldType}
    (hy : plainName y.cls = true) (hw : ws = Cond.code y cc maxL ret :: ws')
    (body : ∀ p e s m args below meth c s₁, BodyLoose p l y (headSpec ws rm) cc maxL ret e s m args below meth c s₁ → c.maxLocals = maxL → (∀ x ∈ c.exceptionTable.toList, False) → Pc args s →
      W p l e (headSpec ws rm).room s m args below meth c s.heap [] 0 0 (vx_MQ below Qc XC args s mc ms free) (entryFrame m args maxL)) : vx_Met l y ws rm Pc Qc XC mc ms free := by
  refine MetFree.of_bodyS (code := cc) (maxLocals := maxL) (ret := ret) hy ?_ ?_
  · intro args s m h hn
    obtain ⟨meth, c, h1, h2, h3, h4, h5, h6, -, -⟩ := Cond.code_spec hn (atoms_spec (ws := ws) h _ (by rw [hw]; exact List.mem_cons_self))
    exact ⟨meth, c, h1, h2, h3, h4, h5, h6⟩
  · intro p e s m args below meth c s₁ B hml hP _
    have hh0 : s₁.heap = s.heap := by rw [B.state]; rfl
    have ht : ∀ x ∈ c.exceptionTable.toList, False := by
      obtain ⟨meth9, c9, h1, h2, -, -, -, -, h7, -⟩ := Cond.code_spec B.named (atoms_spec (ws := ws) B.pre _ (by rw [hw]; exact List.mem_cons_self))
      cases Option.some.inj (h1.symm.trans B.method)
      cases Option.some.inj (h2.symm.trans (Stand.of_body B).code)
      intro x hx
      rw [Array.isEmpty_iff.mp h7] at hx
      cases hx
    obtain ⟨t, a1, o, b1, b2, b3⟩ := body p e s m args below meth c s₁ B hml ht hP s₁ hh0 (Stand.of_body B)
    exact ⟨t, o, a1, b1, b2, b3⟩
/-- the table of a body with handlers -/
theorem vx_table {p : Program} {x y : MethodName} {S : Spec} {cc bytes : ByteArray} {maxL maxL' : Nat} {ret ret' : Option FieldType} {e : Env} {s s₁ : State} {m : MethodId} {args : Array Value} {below : List Frame} {meth : Method} {c : Code} {hh : List (Nat × Nat × Nat × Nat)}
    (B : BodyLoose p l y S cc maxL ret e s m args below meth c s₁) (h : (Cond.codeWith y bytes maxL' ret' hh).before args s = true) : c.exceptionTable.toList = tableOf hh := by
  obtain ⟨m9, meth9, c9, hn9, h1, h2, -, -, h6, -⟩ := Cond.codeWith_spec h
  cases Option.some.inj (hn9.symm.trans B.named)
  cases Option.some.inj (h1.symm.trans B.method)
  cases Option.some.inj (h2.symm.trans (Stand.of_body B).code)
  rw [← h6, table_eq]
end Bodies
end VXA
/-! ===== END ===== -/
/-! ===== BEGIN a static call of a method with an exception table ===== -/
section VXS
variable {p : Program} {l : Launch} {e : Env} {R : Room} {s : State} {m : MethodId} {args : Array Value} {below : List Frame} {meth : Method} {c : Code} {T : State} {H : Heap} {locs : List Loc} {cells slots : Nat}
abbrev vx_CSW (R : Room) (s : State) (args : Array Value) (own : String) (index : Nat) (y : MethodName) (bytes : ByteArray) (maxL : Nat) (ret : Option FieldType) (hh : List (Nat × Nat × Nat × Nat)) (ws : List Cond) (rm : Room) (mc ms n : Nat) : Prop :=
  (rm.cells = mc ∧ rm.slots = ms ∧ rm.frames + 1 ≤ R.frames ∧ 8 + (maxL + 11) + rm.locals ≤ R.locals ∧ (∀ w ∈ ws, ∀ (a' : Array Value) (U : State), s.WarmedH U.vm → w.before a' U = true) ∧ Cond.codeWith y bytes maxL ret hh ∈ ws) ∧
  (Cond.codeWith y bytes maxL ret hh).before args s = true ∧ (Cond.initialized y.cls).before args s = true ∧ (y.cls ≠ "java/lang/invoke/MethodHandle" ∧ y.cls ≠ "java/lang/invoke/VarHandle") ∧
  (∀ sig, parseMethodDescriptor y.desc = some sig → n = sig.parameters.length) ∧ (Cond.methodLink own index y).before args s = true ∧ (Cond.static y).before args s = true
theorem vx_cwSW {own : String} {index maxL mc ms : Nat} {y : MethodName} {bytes : ByteArray} {ret : Option FieldType} {hh : List (Nat × Nat × Nat × Nat)} {Ts ws ws' : List Cond} {rm : Room} (n : Nat) (ht : ∀ w ∈ Ts, w.before args s = true) (hT : GoodIn Ts (va_wsS own index y ws)) (hw : ws = Cond.codeWith y bytes maxL ret hh :: ws') (hrc : rm.cells = mc) (hrs : rm.slots = ms)
    (hd : y.cls ≠ "java/lang/invoke/MethodHandle" ∧ y.cls ≠ "java/lang/invoke/VarHandle" ∧ (parseMethodDescriptor y.desc).map (fun d => d.parameters.length) = some n) (hR : rm.frames + 1 ≤ R.frames ∧ 8 + (maxL + 11) + rm.locals ≤ R.locals) :
    vx_CSW R s args own index y bytes maxL ret hh ws rm mc ms n := by
  have ok : ∀ w ∈ va_wsS own index y ws, w.before args s = true := fun w h => ht w (hT w h).1
  have hG : GoodIn Ts ws := fun w h => hT w (by unfold va_wsS; exact List.mem_append_right _ h)
  have hc : Cond.codeWith y bytes maxL ret hh ∈ ws := by rw [hw]; exact List.mem_cons_self
  refine ⟨⟨hrc, hrs, hR.1, hR.2, pay_in ht hG, hc⟩, ht _ (hG _ hc).1, ok _ (by simp [va_wsS]), ⟨hd.1, hd.2.1⟩, fun sig h => ?_, ok _ (by simp [va_wsS]), ok _ (by simp [va_wsS])⟩
  have h2 := hd.2.2
  rw [h] at h2
  exact (Option.some.inj h2).symm
theorem vx_callSW (X : Stand p l e R s m args below meth c T locs cells slots) (hexec : p.tables.exec = Jvm.exec) {own : String} {index : Nat} {y : MethodName} {bytes : ByteArray} {maxL : Nat} {ret : Option FieldType} {hh : List (Nat × Nat × Nat × Nat)}
    (hown : s.vm.findClass own = some m.cls) (hlink : (Cond.methodLink own index y).before args s = true) (hstat : (Cond.static y).before args s = true) (hinit : (Cond.initialized y.cls).before args s = true)
    (hcode : (Cond.codeWith y bytes maxL ret hh).before args s = true) (hy : y.cls ≠ "java/lang/invoke/MethodHandle" ∧ y.cls ≠ "java/lang/invoke/VarHandle")
    {W9 : Nat} {Pre : Pt → Array Value → Prop} {Post : Pt → Array Value → Option Value → Pt → Prop} (hK : Back l R p e below s args y 3 W9 Pre Post)
    {g : JFrame} (hg : g.method = m) (hsize : g.locals.size = c.maxLocals) {argsL rest : List Value} (hlen : ∀ sig, parseMethodDescriptor y.desc = some sig → argsL.length = sig.parameters.length)
    (hstack : g.stack = argsL.reverse ++ rest) (hW : 2 * g.monitorRoom + (rest.map fun v => v.category).sum ≤ W9) (hdg : decode c.code g.pc = .ok (.invokestatic index, 3))
    (hpre : ∀ vm₁, s.WarmedH vm₁ → Pre ⟨T.setVm vm₁, locs, cells, slots⟩ argsL.toArray) :
    ∃ (v : Option Value) (vm₁ : Vm) (B : Pt), s.WarmedH vm₁ ∧ Stand p l e R s m args below meth c B.U B.locs B.cells B.slots ∧ Post ⟨T.setVm vm₁, locs, cells, slots⟩ argsL.toArray v B ∧
      ∀ target, Steps p.tables e below (B.U.setTop { g with pc := g.pc + 3, stack := v.toList ++ rest }) target → Steps p.tables e below (T.setTop g) target := by
  obtain ⟨mk, methM, cM, hnamed, hmethM, -, -, -, -, -, -, hsigM⟩ := Cond.codeWith_spec hcode
  have hstatic : methM.isStatic = true := Cond.static_spec hnamed hmethM hstat
  obtain ⟨kP, hkP, -⟩ := className_of_methodNamed hnamed
  have hinitP : kP.init = .initialized := Cond.initialized_spec (findClass_of_methodNamed hnamed) hkP hinit
  obtain ⟨vm₁, X₁, hstep₁⟩ := X.invokestatic hexec hown hlink hnamed hmethM hstatic hkP hinitP hy (g := g) hg (argsL := argsL) (rest := rest) (hlen _ hsigM) hstack hdg
  obtain ⟨v, B, X', hpost, hsteps⟩ := hK m meth c ⟨T.setVm vm₁, locs, cells, slots⟩ { g with stack := rest } (.invokestatic index) mk argsL.toArray X₁ hg hsize hdg hW (X₁.named hnamed) (hpre vm₁ X₁.warmed)
  exact ⟨v, vm₁, B, X₁.warmed, X', hpost, fun target h => hstep₁ _ fun acts => by rw [doInvoke_state]; exact hsteps.trans h⟩
theorem vx_runSW {y : MethodName} {bytes cc : ByteArray} {maxL nL mc ms n index : Nat} {ret : Option FieldType} {hh : List (Nat × Nat × Nat × Nat)} {ws : List Cond} {rm : Room} {Pc : Array Value → State → Prop} {Qc : Array Value → State → Outcome → State → Prop} {free : Addr → Prop} {Ts : List Cond} {own : String} {As rest : List Value} {g : JFrame}
    (S : CallFix p m c cc nL s args Ts own) (hM : Met l y ws rm Pc Qc mc ms free) (cw : vx_CSW R s args own index y bytes maxL ret hh ws rm mc ms n) (hp : PreS s H Pc As)
    (hg : g.method = m) (hn : As.length = n) (hsize : g.locals.size = nL) (hstack : g.stack = As.reverse ++ rest) (hW : 2 * g.monitorRoom + (rest.map fun v => v.category).sum ≤ 8) (hdg : decode cc g.pc = .ok (.invokestatic index, 3)) (hf : cells + mc ≤ R.cells ∧ slots + ms ≤ R.slots) :
    va_Run p l e R s m args below meth c H locs cells slots mc ms g rest (Qc As.toArray) (free) := by
  obtain ⟨⟨hrc, hrs, hfr, hlo, hws, hcw⟩, hcode, hini, hy, hlen, hl, hstt⟩ := cw
  have hK : Back l R p e below s args y 3 8 (PreOf R mc ms Pc) (PostOf Qc mc ms free) := va_backW (hh := hh) (bytes := bytes) (maxL := maxL) (ret := ret) hM hp.1 hrc hrs hfr hlo hws hcw (fun a' U hW => word_at hW (Or.inl (by first | rfl | simp [Cond.onTables, Cond.keeps, Cond.steady])) hini)
  obtain ⟨hx, hb, hml, ho, -⟩ := S
  intro T hT X
  obtain ⟨v, vm₁, ⟨U', l2, c2, s2⟩, hW₁, X', ⟨g', mk, t, L, e1, e2, hq, h1, hL, h2, h3⟩, st⟩ := vx_callSW X hx (hh := hh) (bytes := bytes) (maxL := maxL) (ret := ret) ho hl hstt hini hcode hy hK hg (hsize.trans hml.symm) (argsL := As) (rest := rest) (fun sig h => hn.trans (hlen sig h)) hstack hW (by rw [hb]; exact hdg)
    (fun vm₁ hW₁ => ⟨hf.1, hf.2, hp.2 (T.setVm vm₁) hT hW₁⟩)
  dsimp only [Pt.U, Pt.locs, Pt.cells, Pt.slots] at X' e1 e2 h1 h2 h3 st
  subst h1; subst h2; subst h3
  exact ⟨v, (T.setVm vm₁).calling g' mk As.toArray, t, U', L, hT, X', hL, e1, e2, hq, st⟩
/-- not caught here, past rows that name other classes: it goes on to the caller -/
theorem vx_outP {p : Program} {l : Launch} {e : Env} {R : Room} {s : State} {m : MethodId} {args : Array Value} {below : List Frame} {meth : Method} {c : Code} {H : Heap} {locs : List Loc} {cells slots : Nat} {free : Addr → Prop} {ls : Array Slot} {rest : List Value} {Qc : Array Value → State → Outcome → State → Prop} {XC : String → State → State → Prop}
    {pc : Nat} {own E : String} {ce : Cell} {q : Addr} {mc ms : Nat} (hown : s.vm.findClass own = some m.cls) (hlocks : meth.locks = false)
    (hpass : ∀ z ∈ c.exceptionTable.toList, covers z pc = false ∨ (z.catchType ≠ 0 ∧ ∃ nm : String, (Cond.classLink own z.catchType nm).before args s = true ∧ va_Nc E nm s)) (hcell : H[q]? = some ce) (hv : ce.vm = .none) (hcl : s.vm.findClass E = some ce.cls)
    (hx : ∀ t : State, t.heap = H → s.vm.Alike t.vm → XC E s t) (hf : ∀ z ∈ locs, free z.base) (hc : cells ≤ mc) (hs : slots ≤ ms) :
    vx_W p l e R s m args below meth c H locs cells slots (vx_MQ below Qc XC args s mc ms free) (F0 m pc ls rest) q := by
  intro T hT X
  have hpl : e.platform.magicAccessors = ({} : Platform).magicAccessors := by rw [X.admits.platform]
  obtain ⟨vm', hW', X', st⟩ := X.outThrough hlocks q (g := F0 m pc ls rest) rfl rfl rfl (cell := ce) (by rw [hT]; exact hcell) (by rw [hv]; rfl)
    (by obtain ⟨k9, h9, -⟩ := Vm.findClass_spec hcl; exact ⟨k9, h9⟩) (fun z hz => by
      rcases hpass z hz with h | ⟨hz0, nm, hl1, hn1⟩
      · exact Or.inl h
      · obtain ⟨c6, hc6, hcl6⟩ := Cond.classLink_spec hown hl1 e.platform hpl
        obtain ⟨a8, b8, h1, h2, h3⟩ := hn1
        cases Option.some.inj (h1.symm.trans hcl)
        cases Option.some.inj (h2.symm.trans hc6)
        exact Or.inr ⟨hz0, _, hcl6, h3⟩)
  obtain ⟨g₀, hfr⟩ := X'.frames_eq
  have hcell9 : ((T.setVm vm').setFrames (.throwing q :: below)).heap[q]? = some ce := by
    show T.heap[q]? = some ce
    rw [hT]; exact hcell
  have hend : Ended ((T.setVm vm').setFrames (.throwing q :: below)) below (.threw q) := State.frames_setFrames _ (State.cur_lt_of_frames hfr)
  refine ⟨(T.setVm vm').setFrames (.throwing q :: below), ?_, .threw q, X'.here.running, hend, Or.inr ⟨q, rfl, E, ce, locs, hx _ hT (X'.ends _).1.alike, hcell9, hv, hcl, (X'.ends _).1, (X'.ends _).2.mono hc hs, hf⟩⟩
  rw [X.pushThrowing_eq]
  exact st
/-- a thing of a world lies in the heap -/
theorem vx_lt {D : va_G} {cl : List vw_C} {ws : va_W} {H1 : Heap} (h : va_P D cl ws H1) {k : Nat} {q : Nat × va_E} (hk : ws[k]? = some q) : q.1 < H1.size := (h k q hk).lt
end VXS
/-! ===== END ===== -/
/-! ===== BEGIN methods with a table of their own: called by a name, returning or throwing ===== -/
section VXH
/-! vx_backW, vx_callVX, vx_callSX, vx_callVW, vx_runVW, vx_runVX, vx_runSX, vx_ofWH follow the same proofs as their sisters above (Free/Laws.lean, Shelf42/LK1.lean); vx_outP calls Shelf42/NT130.lean (outThrough). -/
section
variable {l : Launch} {R : Room} {p : Program} {e : Env} {below : List Frame} {s : State} {sargs : Array Value} {y : MethodName} {len W9 : Nat}
theorem vx_backW {ws : List Cond} {rm : Room} {Pc : Array Value → State → Prop} {Qc : Array Value → State → Outcome → State → Prop} {XC : String → State → State → Prop} {mc ms : Nat} {free : Addr → Prop} {bytes : ByteArray} {maxL : Nat} {ret : Option FieldType} {hh : List (Nat × Nat × Nat × Nat)}
    (hM : vx_Met l y ws rm Pc Qc XC mc ms free) (hblind : FrameBlind Pc) (hrc : rm.cells = mc) (hrs : rm.slots = ms)
    (hframes : rm.frames + 1 ≤ R.frames) (hlocals : W9 + (maxL + 11) + rm.locals ≤ R.locals)
    (hws : ∀ w ∈ ws, ∀ a' U, s.WarmedH U.vm → w.before a' U = true) (hcode : Cond.codeWith y bytes maxL ret hh ∈ ws) (hinit : ∀ a' U, s.WarmedH U.vm → (Cond.initialized y.cls).before a' U = true) :
    vx_Back l R p e below s sargs y len W9 (PreOf R mc ms Pc) (PostOf Qc mc ms free) (vx_Post XC mc ms free) := by
  intro m meth c A g ig mk a X hg hsize hdg hW hn hp
  have h1 : (headSpec ws rm).pre.before a A.U = true := atoms_intro fun w hw => hws w hw _ _ X.warmed
  have h2 : (Cond.codeWith y bytes maxL ret hh).before a A.U = true := hws _ hcode _ _ X.warmed
  have h3 : (Cond.initialized y.cls).before a A.U = true := hinit _ _ X.warmed
  have h4 : A.cells + (headSpec ws rm).room.cells ≤ R.cells := by rw [show (headSpec ws rm).room.cells = mc from hrc]; exact hp.1
  have h5 : A.slots + (headSpec ws rm).room.slots ≤ R.slots := by rw [show (headSpec ws rm).room.slots = ms from hrs]; exact hp.2.1
  have hPc : Pc a (A.U.calling g mk a) := hblind _ _ _ _ hp.2.2
  obtain ⟨U, Ls, c0, s0⟩ := A
  dsimp only [Pt.U, Pt.locs, Pt.cells, Pt.slots] at h1 h2 h3 h4 h5 X hn hPc ⊢
  obtain ⟨m9, methY, cY, hn9, hmY, hcY, -, hlY, -⟩ := Cond.codeWith_spec h2
  cases Option.some.inj (hn9.symm.trans hn)
  obtain ⟨kY, hkY, -⟩ := className_of_methodNamed hn
  have hinitY : kY.init = .initialized := Cond.initialized_spec (findClass_of_methodNamed hn) hkY h3
  have h : At U g.method c below := by rw [hg]; exact X.here
  have hlocals9 : W9 + (maxL + 11) + (headSpec ws rm).room.locals ≤ R.locals := hlocals
  have happ : (headSpec ws rm).appliesLoose y e.platform (U.calling g mk a) = true :=
    Spec.appliesLoose_calling (g := g) h hdg hn hkY hinitY
      (X.room_calling (g := g) (R' := (headSpec ws rm).room) hsize hmY hcY hframes (by rw [hlY]; omega) h4 h5) h1
  obtain ⟨mid, hmid⟩ := h.above
  have hfr : (U.setTop g).frames = (.java g :: mid) ++ below := by rw [State.frames_setTop' g h.top, hmid]; rfl
  obtain ⟨o, s₂, hsteps, -, hend, hq⟩ := Steps.callFree hM p X.admits X.cas X.clock (acts := []) hfr happ hPc trivial
  have hq' : vx_Q Qc XC mc ms free a (U.calling g mk a) o s₂ := hq
  rw [State.frames_setTop' g h.top] at hend
  obtain ⟨g₀, hg0⟩ := Option.isSome_iff_exists.mp h.top
  obtain ⟨r, hr⟩ := State.topJava?_eq_some.mp hg0
  have hr' : (({ U with heap := s₂.heap, slotsUsed := s₂.slotsUsed } : State).setVm s₂.vm).frames = .java g₀ :: r := hr
  rcases hq' with ⟨hqc, L, hfe, hL⟩ | ⟨q, rfl, E, ce, L, hx, hce, hcv, hcl, hW₂, hsm, hL⟩
  · obtain ⟨⟨v, rfl⟩, hW₂, e2, q2, q3, q4, q5, q6⟩ := id hfe
    have e3 : s₂ = ({ (U.calling g mk a).setFrames s₂.frames with heap := s₂.heap, slotsUsed := s₂.slotsUsed } : State).setVm s₂.vm := by
      have : s₂ = ({ s₂ with vm := (U.calling g mk a).vm } : State).setVm s₂.vm := rfl
      rw [e2] at this
      exact this
    obtain ⟨c₂, i₂, len₂, hc₂, hd₂, hf₂⟩ := hend
    have hW' : U.WarmedH s₂.vm := hW₂
    have hcc : c₂ = c := by
      have h1 : s₂.code? g.method = U.code? g.method := by
        rw [State.code?_eq, State.code?_eq, hW'.alike.method?]
      exact Option.some.inj (hc₂.symm.trans (h1.trans h.code))
    subst hcc
    have hlen : len₂ = len := by rw [hdg] at hd₂; cases hd₂; rfl
    subst hlen
    have hs₂ : s₂ = (({ U with heap := s₂.heap, slotsUsed := s₂.slotsUsed } : State).setVm s₂.vm).setTop { g with pc := g.pc + len₂, stack := v.toList ++ g.stack } := by
      refine e3.trans ?_
      rw [hf₂, State.calling_eq h.top, State.setFrames_setFrames, State.setTop_of_frames _ hr', hr]
      rfl
    have hsame : U.sameButNew ({ U with heap := s₂.heap, slotsUsed := s₂.slotsUsed } : State) L mc ms := by
      refine ⟨?_, q2, q3, q4, q5, q6⟩
      obtain ⟨t, ht, -⟩ := State.frames_cons hr
      show ({ U with heap := s₂.heap, slotsUsed := s₂.slotsUsed } : State) = { U.setFrames U.frames with heap := s₂.heap, slotsUsed := s₂.slotsUsed }
      rw [State.setFrames_self ht]
    subst hg
    refine Or.inl ⟨v, ⟨(({ U with heap := s₂.heap, slotsUsed := s₂.slotsUsed } : State).setVm s₂.vm), Ls ++ L, c0 + mc, s0 + ms⟩,
      ⟨X.admits, X.cas, X.clock, X.frames, X.room, X.hears, X.method, X.code, (X.here.setHeapUsed s₂.heap s₂.slotsUsed).setVm hW'.alike, X.tail, State.WarmedH.trans X.warmed hW', X.limits, X.bytes, X.same.trans (hsame.setVm s.vm)⟩,
      ⟨g, mk, s₂, L, rfl, rfl, hqc, rfl, hL, rfl, rfl⟩, ?_⟩
    show Steps p.tables e below _ ((({ U with heap := s₂.heap, slotsUsed := s₂.slotsUsed } : State).setVm s₂.vm).setTop { g with pc := g.pc + len₂, stack := v.toList ++ g.stack })
    rw [← hs₂]
    exact hsteps
  · obtain ⟨e2, q2, q3, q4, q5, q6⟩ := id hsm
    have e3 : s₂ = ({ (U.calling g mk a).setFrames s₂.frames with heap := s₂.heap, slotsUsed := s₂.slotsUsed } : State).setVm s₂.vm := by
      have : s₂ = ({ s₂ with vm := (U.calling g mk a).vm } : State).setVm s₂.vm := rfl
      rw [e2] at this
      exact this
    have hf₂ : s₂.frames = .throwing q :: .java g :: U.frames.tail := hend
    have hW' : U.WarmedH s₂.vm := hW₂
    have hs₂ : s₂ = ((({ U with heap := s₂.heap, slotsUsed := s₂.slotsUsed } : State).setVm s₂.vm).setTop g).pushFrame (.throwing q) := by
      refine e3.trans ?_
      rw [hf₂, State.calling_eq h.top, State.setFrames_setFrames, State.pushFrame, State.frames_setTop _ hr', State.setTop_of_frames _ hr', State.setFrames_setFrames, hr]
      rfl
    have hsame : U.sameButNew ({ U with heap := s₂.heap, slotsUsed := s₂.slotsUsed } : State) L mc ms := by
      refine ⟨?_, q2, q3, q4, q5, q6⟩
      obtain ⟨t, ht, -⟩ := State.frames_cons hr
      show ({ U with heap := s₂.heap, slotsUsed := s₂.slotsUsed } : State) = { U.setFrames U.frames with heap := s₂.heap, slotsUsed := s₂.slotsUsed }
      rw [State.setFrames_self ht]
    subst hg
    refine Or.inr ⟨q, ⟨(({ U with heap := s₂.heap, slotsUsed := s₂.slotsUsed } : State).setVm s₂.vm), Ls ++ L, c0 + mc, s0 + ms⟩,
      ⟨X.admits, X.cas, X.clock, X.frames, X.room, X.hears, X.method, X.code, (X.here.setHeapUsed s₂.heap s₂.slotsUsed).setVm hW'.alike, X.tail, State.WarmedH.trans X.warmed hW', X.limits, X.bytes, X.same.trans (hsame.setVm s.vm)⟩,
      ⟨g, mk, s₂, L, E, ce, rfl, rfl, hx, hce, hcv, hcl, rfl, hL, rfl, rfl⟩, ?_⟩
    show Steps p.tables e below _ (((({ U with heap := s₂.heap, slotsUsed := s₂.slotsUsed } : State).setVm s₂.vm).setTop g).pushFrame (.throwing q))
    rw [← hs₂]
    exact hsteps
end
variable {p : Program} {l : Launch} {e : Env} {R : Room} {s : State} {m : MethodId} {args : Array Value} {below : List Frame} {meth : Method} {c : Code} {T : State} {H : Heap} {locs : List Loc} {cells slots : Nat}
theorem vx_callVX (X : Stand p l e R s m args below meth c T locs cells slots) (hexec : p.tables.exec = Jvm.exec) {own C : String} {index : Nat} {y : MethodName} {bytes : ByteArray} {maxL : Nat} {ret : Option FieldType} {hh : List (Nat × Nat × Nat × Nat)}
    (hown : s.vm.findClass own = some m.cls) (hlink : (Cond.methodLink own index y).before args s = true) (hinst : (Cond.instanceMethod y).before args s = true) (hsel : (Cond.selects C y y).before args s = true)
    (hcode : (Cond.codeWith y bytes maxL ret hh).before args s = true) (hy : y.cls ≠ "java/lang/invoke/MethodHandle" ∧ y.cls ≠ "java/lang/invoke/VarHandle")
    {W9 : Nat} {Pre : Pt → Array Value → Prop} {Post : Pt → Array Value → Option Value → Pt → Prop} {PostX : Pt → Array Value → Addr → Pt → Prop} (hK : vx_Back l R p e below s args y 3 W9 Pre Post PostX)
    {b : Addr} {cellB : Cell} (hcell : T.heap[b]? = some cellB) (hobj : cellB.vm.isStatics = false) (hcls : s.vm.findClass C = some cellB.cls)
    {g : JFrame} (hg : g.method = m) (hsize : g.locals.size = c.maxLocals) {argsL rest : List Value} (hlen : ∀ sig, parseMethodDescriptor y.desc = some sig → argsL.length = sig.parameters.length)
    (hstack : g.stack = argsL.reverse ++ .ref b :: rest) (hW : 2 * g.monitorRoom + (rest.map fun v => v.category).sum ≤ W9) (hdg : decode c.code g.pc = .ok (.invokevirtual index, 3))
    (hpre : ∀ vm₁, s.WarmedH vm₁ → Pre ⟨T.setVm vm₁, locs, cells, slots⟩ (Value.ref b :: argsL).toArray) :
    (∃ (v : Option Value) (vm₁ : Vm) (B : Pt), s.WarmedH vm₁ ∧ Stand p l e R s m args below meth c B.U B.locs B.cells B.slots ∧ Post ⟨T.setVm vm₁, locs, cells, slots⟩ (Value.ref b :: argsL).toArray v B ∧
      ∀ target, Steps p.tables e below (B.U.setTop { g with pc := g.pc + 3, stack := v.toList ++ rest }) target → Steps p.tables e below (T.setTop g) target) ∨
    (∃ (q : Addr) (vm₁ : Vm) (B : Pt), s.WarmedH vm₁ ∧ Stand p l e R s m args below meth c B.U B.locs B.cells B.slots ∧ PostX ⟨T.setVm vm₁, locs, cells, slots⟩ (Value.ref b :: argsL).toArray q B ∧
      Steps p.tables e below (T.setTop g) ((B.U.setTop { g with stack := rest }).pushFrame (.throwing q))) := by
  obtain ⟨mk, methM, hnamed, hmethM, hstM, habM⟩ := Cond.instanceMethod_spec hinst
  obtain ⟨m8, methM', cM, hn8, hmethM', -, -, -, -, -, -, hsigM⟩ := Cond.codeWith_spec hcode
  cases Option.some.inj (hn8.symm.trans hnamed)
  cases hmethM.symm.trans hmethM'
  obtain ⟨c2, r2, m2, q1, q2, q3, q4, kP, hkP, hkPi⟩ := Cond.selects_spec hsel
  cases hcls.symm.trans q1
  cases (State.methodFound?_of_named hnamed hy).symm.trans q2
  cases hnamed.symm.trans q3
  have hselP : selectMethod e.platform s.vm cellB.cls mk = .method mk := by rw [Launch.admits_selectMethod X.admits]; exact q4
  obtain ⟨vm₁, X₁, hstep₁⟩ := X.invokevirtual hexec hown hlink hnamed hmethM hstM hkP hkPi hy (a := b) (cell := cellB) hcell
    (fun z h => by rw [h] at hobj; cases hobj) hselP hmethM habM hkP hkPi (g := g) hg (argsL := argsL) (rest := rest) (hlen _ hsigM) hstack hdg
  rcases hK m meth c ⟨T.setVm vm₁, locs, cells, slots⟩ { g with stack := rest } (.invokevirtual index) mk (Value.ref b :: argsL).toArray X₁ hg hsize hdg hW (X₁.named hnamed) (hpre vm₁ X₁.warmed) with ⟨v, B, X', hpost, hsteps⟩ | ⟨q, B, X', hpost, hsteps⟩
  · exact Or.inl ⟨v, vm₁, B, X₁.warmed, X', hpost, fun target h => hstep₁ _ fun acts => by rw [doInvoke_state]; exact hsteps.trans h⟩
  · exact Or.inr ⟨q, vm₁, B, X₁.warmed, X', hpost, hstep₁ _ fun acts => by rw [doInvoke_state]; exact hsteps⟩
theorem vx_callSX (X : Stand p l e R s m args below meth c T locs cells slots) (hexec : p.tables.exec = Jvm.exec) {own : String} {index : Nat} {y : MethodName} {bytes : ByteArray} {maxL : Nat} {ret : Option FieldType} {hh : List (Nat × Nat × Nat × Nat)}
    (hown : s.vm.findClass own = some m.cls) (hlink : (Cond.methodLink own index y).before args s = true) (hstat : (Cond.static y).before args s = true) (hinit : (Cond.initialized y.cls).before args s = true)
    (hcode : (Cond.codeWith y bytes maxL ret hh).before args s = true) (hy : y.cls ≠ "java/lang/invoke/MethodHandle" ∧ y.cls ≠ "java/lang/invoke/VarHandle")
    {W9 : Nat} {Pre : Pt → Array Value → Prop} {Post : Pt → Array Value → Option Value → Pt → Prop} {PostX : Pt → Array Value → Addr → Pt → Prop} (hK : vx_Back l R p e below s args y 3 W9 Pre Post PostX)
    {g : JFrame} (hg : g.method = m) (hsize : g.locals.size = c.maxLocals) {argsL rest : List Value} (hlen : ∀ sig, parseMethodDescriptor y.desc = some sig → argsL.length = sig.parameters.length)
    (hstack : g.stack = argsL.reverse ++ rest) (hW : 2 * g.monitorRoom + (rest.map fun v => v.category).sum ≤ W9) (hdg : decode c.code g.pc = .ok (.invokestatic index, 3))
    (hpre : ∀ vm₁, s.WarmedH vm₁ → Pre ⟨T.setVm vm₁, locs, cells, slots⟩ argsL.toArray) :
    (∃ (v : Option Value) (vm₁ : Vm) (B : Pt), s.WarmedH vm₁ ∧ Stand p l e R s m args below meth c B.U B.locs B.cells B.slots ∧ Post ⟨T.setVm vm₁, locs, cells, slots⟩ argsL.toArray v B ∧
      ∀ target, Steps p.tables e below (B.U.setTop { g with pc := g.pc + 3, stack := v.toList ++ rest }) target → Steps p.tables e below (T.setTop g) target) ∨
    (∃ (q : Addr) (vm₁ : Vm) (B : Pt), s.WarmedH vm₁ ∧ Stand p l e R s m args below meth c B.U B.locs B.cells B.slots ∧ PostX ⟨T.setVm vm₁, locs, cells, slots⟩ argsL.toArray q B ∧
      Steps p.tables e below (T.setTop g) ((B.U.setTop { g with stack := rest }).pushFrame (.throwing q))) := by
  obtain ⟨mk, methM, cM, hnamed, hmethM, -, -, -, -, -, -, hsigM⟩ := Cond.codeWith_spec hcode
  have hstatic : methM.isStatic = true := Cond.static_spec hnamed hmethM hstat
  obtain ⟨kP, hkP, -⟩ := className_of_methodNamed hnamed
  have hinitP : kP.init = .initialized := Cond.initialized_spec (findClass_of_methodNamed hnamed) hkP hinit
  obtain ⟨vm₁, X₁, hstep₁⟩ := X.invokestatic hexec hown hlink hnamed hmethM hstatic hkP hinitP hy (g := g) hg (argsL := argsL) (rest := rest) (hlen _ hsigM) hstack hdg
  rcases hK m meth c ⟨T.setVm vm₁, locs, cells, slots⟩ { g with stack := rest } (.invokestatic index) mk argsL.toArray X₁ hg hsize hdg hW (X₁.named hnamed) (hpre vm₁ X₁.warmed) with ⟨v, B, X', hpost, hsteps⟩ | ⟨q, B, X', hpost, hsteps⟩
  · exact Or.inl ⟨v, vm₁, B, X₁.warmed, X', hpost, fun target h => hstep₁ _ fun acts => by rw [doInvoke_state]; exact hsteps.trans h⟩
  · exact Or.inr ⟨q, vm₁, B, X₁.warmed, X', hpost, hstep₁ _ fun acts => by rw [doInvoke_state]; exact hsteps⟩
theorem vx_callVW (X : Stand p l e R s m args below meth c T locs cells slots) (hexec : p.tables.exec = Jvm.exec) {own C : String} {index : Nat} {y : MethodName} {bytes : ByteArray} {maxL : Nat} {ret : Option FieldType} {hh : List (Nat × Nat × Nat × Nat)}
    (hown : s.vm.findClass own = some m.cls) (hlink : (Cond.methodLink own index y).before args s = true) (hinst : (Cond.instanceMethod y).before args s = true) (hsel : (Cond.selects C y y).before args s = true)
    (hcode : (Cond.codeWith y bytes maxL ret hh).before args s = true) (hy : y.cls ≠ "java/lang/invoke/MethodHandle" ∧ y.cls ≠ "java/lang/invoke/VarHandle")
    {W9 : Nat} {Pre : Pt → Array Value → Prop} {Post : Pt → Array Value → Option Value → Pt → Prop} (hK : Back l R p e below s args y 3 W9 Pre Post)
    {b : Addr} {cellB : Cell} (hcell : T.heap[b]? = some cellB) (hobj : cellB.vm.isStatics = false) (hcls : s.vm.findClass C = some cellB.cls)
    {g : JFrame} (hg : g.method = m) (hsize : g.locals.size = c.maxLocals) {argsL rest : List Value} (hlen : ∀ sig, parseMethodDescriptor y.desc = some sig → argsL.length = sig.parameters.length)
    (hstack : g.stack = argsL.reverse ++ .ref b :: rest) (hW : 2 * g.monitorRoom + (rest.map fun v => v.category).sum ≤ W9) (hdg : decode c.code g.pc = .ok (.invokevirtual index, 3))
    (hpre : ∀ vm₁, s.WarmedH vm₁ → Pre ⟨T.setVm vm₁, locs, cells, slots⟩ (Value.ref b :: argsL).toArray) :
    ∃ (v : Option Value) (vm₁ : Vm) (B : Pt), s.WarmedH vm₁ ∧ Stand p l e R s m args below meth c B.U B.locs B.cells B.slots ∧ Post ⟨T.setVm vm₁, locs, cells, slots⟩ (Value.ref b :: argsL).toArray v B ∧
      ∀ target, Steps p.tables e below (B.U.setTop { g with pc := g.pc + 3, stack := v.toList ++ rest }) target → Steps p.tables e below (T.setTop g) target := by
  obtain ⟨mk, methM, hnamed, hmethM, hstM, habM⟩ := Cond.instanceMethod_spec hinst
  obtain ⟨m8, methM', cM, hn8, hmethM', -, -, -, -, -, -, hsigM⟩ := Cond.codeWith_spec hcode
  cases Option.some.inj (hn8.symm.trans hnamed)
  cases hmethM.symm.trans hmethM'
  obtain ⟨c2, r2, m2, q1, q2, q3, q4, kP, hkP, hkPi⟩ := Cond.selects_spec hsel
  cases hcls.symm.trans q1
  cases (State.methodFound?_of_named hnamed hy).symm.trans q2
  cases hnamed.symm.trans q3
  have hselP : selectMethod e.platform s.vm cellB.cls mk = .method mk := by rw [Launch.admits_selectMethod X.admits]; exact q4
  obtain ⟨vm₁, X₁, hstep₁⟩ := X.invokevirtual hexec hown hlink hnamed hmethM hstM hkP hkPi hy (a := b) (cell := cellB) hcell
    (fun z h => by rw [h] at hobj; cases hobj) hselP hmethM habM hkP hkPi (g := g) hg (argsL := argsL) (rest := rest) (hlen _ hsigM) hstack hdg
  obtain ⟨v, B, X', hpost, hsteps⟩ := hK m meth c ⟨T.setVm vm₁, locs, cells, slots⟩ { g with stack := rest } (.invokevirtual index) mk (Value.ref b :: argsL).toArray X₁ hg hsize hdg hW (X₁.named hnamed) (hpre vm₁ X₁.warmed)
  exact ⟨v, vm₁, B, X₁.warmed, X', hpost, fun target h => hstep₁ _ fun acts => by rw [doInvoke_state]; exact hsteps.trans h⟩
abbrev vx_CVW (R : Room) (s : State) (args : Array Value) (own C : String) (index : Nat) (y : MethodName) (bytes : ByteArray) (maxL : Nat) (ret : Option FieldType) (hh : List (Nat × Nat × Nat × Nat)) (ws : List Cond) (rm : Room) (mc ms n : Nat) : Prop :=
  (rm.cells = mc ∧ rm.slots = ms ∧ rm.frames + 1 ≤ R.frames ∧ 8 + (maxL + 11) + rm.locals ≤ R.locals ∧ (∀ w ∈ ws, ∀ (a' : Array Value) (U : State), s.WarmedH U.vm → w.before a' U = true) ∧ Cond.codeWith y bytes maxL ret hh ∈ ws) ∧
  (Cond.codeWith y bytes maxL ret hh).before args s = true ∧ (Cond.initialized y.cls).before args s = true ∧ (y.cls ≠ "java/lang/invoke/MethodHandle" ∧ y.cls ≠ "java/lang/invoke/VarHandle") ∧
  (∀ sig, parseMethodDescriptor y.desc = some sig → n = sig.parameters.length) ∧ (Cond.methodLink own index y).before args s = true ∧ (Cond.instanceMethod y).before args s = true ∧ (Cond.selects C y y).before args s = true
theorem vx_cwVW {own C : String} {index maxL mc ms : Nat} {y : MethodName} {bytes : ByteArray} {ret : Option FieldType} {hh : List (Nat × Nat × Nat × Nat)} {Ts ws ws' : List Cond} {rm : Room} (n : Nat) (ht : ∀ w ∈ Ts, w.before args s = true) (hT : GoodIn Ts (wsV own index C y ws)) (hw : ws = Cond.codeWith y bytes maxL ret hh :: ws') (hrc : rm.cells = mc) (hrs : rm.slots = ms)
    (hd : y.cls = C ∧ y.cls ≠ "java/lang/invoke/MethodHandle" ∧ y.cls ≠ "java/lang/invoke/VarHandle" ∧ (parseMethodDescriptor y.desc).map (fun d => d.parameters.length) = some n) (hR : rm.frames + 1 ≤ R.frames ∧ 8 + (maxL + 11) + rm.locals ≤ R.locals) :
    vx_CVW R s args own C index y bytes maxL ret hh ws rm mc ms n := by
  obtain ⟨hC, hd⟩ := hd
  subst hC
  have ok : ∀ w ∈ wsV own index y.cls y ws, w.before args s = true := fun w h => ht w (hT w h).1
  have hG : GoodIn Ts ws := fun w h => hT w (by unfold wsV; exact List.mem_append_right _ h)
  have hc : Cond.codeWith y bytes maxL ret hh ∈ ws := by rw [hw]; exact List.mem_cons_self
  refine ⟨⟨hrc, hrs, hR.1, hR.2, pay_in ht hG, hc⟩, ht _ (hG _ hc).1, ok _ (by simp [wsV]), ⟨hd.1, hd.2.1⟩, fun sig h => ?_, ok _ (by simp [wsV]), ok _ (by simp [wsV]), ok _ (by simp [wsV])⟩
  have h2 := hd.2.2
  rw [h] at h2
  exact (Option.some.inj h2).symm
theorem vx_runVW {y : MethodName} {bytes cc : ByteArray} {maxL nL mc ms n index : Nat} {ret : Option FieldType} {hh : List (Nat × Nat × Nat × Nat)} {ws : List Cond} {rm : Room} {Pc : Array Value → State → Prop} {Qc : Array Value → State → Outcome → State → Prop} {free : Addr → Prop} {Ts : List Cond} {own C : String} {b : Addr} {As rest : List Value} {g : JFrame}
    (S : CallFix p m c cc nL s args Ts own) (hM : Met l y ws rm Pc Qc mc ms free) (cw : vx_CVW R s args own C index y bytes maxL ret hh ws rm mc ms n) (hp : PreV s H C b Pc As)
    (hg : g.method = m) (hn : As.length = n) (hsize : g.locals.size = nL) (hstack : g.stack = As.reverse ++ .ref b :: rest) (hW : 2 * g.monitorRoom + (rest.map fun v => v.category).sum ≤ 8) (hdg : decode cc g.pc = .ok (.invokevirtual index, 3)) (hf : cells + mc ≤ R.cells ∧ slots + ms ≤ R.slots) :
    va_Run p l e R s m args below meth c H locs cells slots mc ms g rest (Qc (Value.ref b :: As).toArray) free := by
  obtain ⟨⟨hrc, hrs, hfr, hlo, hws, hcw⟩, hcode, hini, hy, hlen, hl, hin, hse⟩ := cw
  have hK : Back l R p e below s args y 3 8 (PreOf R mc ms Pc) (PostOf Qc mc ms free) := va_backW (hh := hh) (bytes := bytes) (maxL := maxL) (ret := ret) hM hp.1 hrc hrs hfr hlo hws hcw (fun a' U hW => word_at hW (Or.inl (by first | rfl | simp [Cond.onTables, Cond.keeps, Cond.steady])) hini)
  obtain ⟨hx, hb, hml, ho, -⟩ := S
  obtain ⟨-, ⟨cellB, hcB, hoB, hclB⟩, hPc⟩ := hp
  intro T hT X
  obtain ⟨v, vm₁, ⟨U', l2, c2, s2⟩, hW₁, X', ⟨g', mk, t, L, e1, e2, hq, h1, hL, h2, h3⟩, st⟩ := vx_callVW X hx (C := C) (hh := hh) (bytes := bytes) (maxL := maxL) (ret := ret) ho hl hin hse hcode hy hK (by rw [hT]; exact hcB) hoB hclB hg (hsize.trans hml.symm) (argsL := As) (rest := rest) (fun sig h => hn.trans (hlen sig h)) hstack hW (by rw [hb]; exact hdg)
    (fun vm₁ hW₁ => ⟨hf.1, hf.2, hPc (T.setVm vm₁) hT hW₁⟩)
  dsimp only [Pt.U, Pt.locs, Pt.cells, Pt.slots] at X' e1 e2 h1 h2 h3 st
  subst h1; subst h2; subst h3
  exact ⟨v, (T.setVm vm₁).calling g' mk (Value.ref b :: As).toArray, t, U', L, hT, X', hL, e1, e2, hq, st⟩
section
variable {y : MethodName} {bytes cc : ByteArray} {maxL nL mc ms n index : Nat} {ret : Option FieldType} {ws : List Cond} {rm : Room} {Pc : Array Value → State → Prop} {Qc : Array Value → State → Outcome → State → Prop} {XC : String → State → State → Prop} {free : Addr → Prop} {Ts : List Cond} {own C : String} {b : Addr} {As rest : List Value} {g : JFrame}
theorem vx_runVX {hh : List (Nat × Nat × Nat × Nat)} (S : CallFix p m c cc nL s args Ts own) (hM : vx_Met l y ws rm Pc Qc XC mc ms free) (cw : vx_CVW R s args own C index y bytes maxL ret hh ws rm mc ms n) (hp : PreV s H C b Pc As)
    (hg : g.method = m) (hn : As.length = n) (hsize : g.locals.size = nL) (hstack : g.stack = As.reverse ++ .ref b :: rest) (hW : 2 * g.monitorRoom + (rest.map fun v => v.category).sum ≤ 8) (hdg : decode cc g.pc = .ok (.invokevirtual index, 3)) (hf : cells + mc ≤ R.cells ∧ slots + ms ≤ R.slots) :
    vx_Run p l e R s m args below meth c H locs cells slots mc ms g rest (Qc (Value.ref b :: As).toArray) XC free := by
  obtain ⟨⟨hrc, hrs, hfr, hlo, hws, hcw⟩, hcode, hini, hy, hlen, hl, hin, hse⟩ := cw
  have hK : vx_Back l R p e below s args y 3 8 (PreOf R mc ms Pc) (PostOf Qc mc ms free) (vx_Post XC mc ms free) := vx_backW (hh := hh) (bytes := bytes) (maxL := maxL) (ret := ret) hM hp.1 hrc hrs hfr hlo hws hcw (fun a' U hW => word_at hW (Or.inl (by first | rfl | simp [Cond.onTables, Cond.keeps, Cond.steady])) hini)
  obtain ⟨hx, hb, hml, ho, -⟩ := S
  obtain ⟨-, ⟨cellB, hcB, hoB, hclB⟩, hPc⟩ := hp
  intro T hT X
  rcases vx_callVX X hx (C := C) (hh := hh) (bytes := bytes) (maxL := maxL) (ret := ret) ho hl hin hse hcode hy hK (by rw [hT]; exact hcB) hoB hclB hg (hsize.trans hml.symm) (argsL := As) (rest := rest) (fun sig h => hn.trans (hlen sig h)) hstack hW (by rw [hb]; exact hdg)
    (fun vm₁ hW₁ => ⟨hf.1, hf.2, hPc (T.setVm vm₁) hT hW₁⟩) with ⟨v, vm₁, ⟨U', l2, c2, s2⟩, hW₁, X', ⟨g', mk, t, L, e1, e2, hq, h1, hL, h2, h3⟩, st⟩ | ⟨q, vm₁, ⟨U', l2, c2, s2⟩, hW₁, X', ⟨g', mk, t, L, E, ce, e1, e2, hq, hce, hcv, hcl, h1, hL, h2, h3⟩, st⟩
  · dsimp only [Pt.U, Pt.locs, Pt.cells, Pt.slots] at X' e1 e2 h1 h2 h3 st
    subst h1; subst h2; subst h3
    exact Or.inl ⟨v, (T.setVm vm₁).calling g' mk (Value.ref b :: As).toArray, t, U', L, hT, X', hL, e1, e2, hq, st⟩
  · dsimp only [Pt.U, Pt.locs, Pt.cells, Pt.slots] at X' e1 e2 h1 h2 h3 st hcl
    subst h1; subst h2; subst h3
    exact Or.inr ⟨q, (T.setVm vm₁).calling g' mk (Value.ref b :: As).toArray, t, U', L, E, ce, hT, X', hL, e1, e2, hq, hce, hcv, vx_cls hW₁ hcl, st⟩
theorem vx_runSX {hh : List (Nat × Nat × Nat × Nat)} (S : CallFix p m c cc nL s args Ts own) (hM : vx_Met l y ws rm Pc Qc XC mc ms free) (cw : vx_CSW R s args own index y bytes maxL ret hh ws rm mc ms n) (hp : PreS s H Pc As)
    (hg : g.method = m) (hn : As.length = n) (hsize : g.locals.size = nL) (hstack : g.stack = As.reverse ++ rest) (hW : 2 * g.monitorRoom + (rest.map fun v => v.category).sum ≤ 8) (hdg : decode cc g.pc = .ok (.invokestatic index, 3)) (hf : cells + mc ≤ R.cells ∧ slots + ms ≤ R.slots) :
    vx_Run p l e R s m args below meth c H locs cells slots mc ms g rest (Qc As.toArray) XC free := by
  obtain ⟨⟨hrc, hrs, hfr, hlo, hws, hcw⟩, hcode, hini, hy, hlen, hl, hstt⟩ := cw
  have hK : vx_Back l R p e below s args y 3 8 (PreOf R mc ms Pc) (PostOf Qc mc ms free) (vx_Post XC mc ms free) := vx_backW (hh := hh) (bytes := bytes) (maxL := maxL) (ret := ret) hM hp.1 hrc hrs hfr hlo hws hcw (fun a' U hW => word_at hW (Or.inl (by first | rfl | simp [Cond.onTables, Cond.keeps, Cond.steady])) hini)
  obtain ⟨hx, hb, hml, ho, -⟩ := S
  intro T hT X
  rcases vx_callSX X hx (hh := hh) (bytes := bytes) (maxL := maxL) (ret := ret) ho hl hstt hini hcode hy hK hg (hsize.trans hml.symm) (argsL := As) (rest := rest) (fun sig h => hn.trans (hlen sig h)) hstack hW (by rw [hb]; exact hdg)
    (fun vm₁ hW₁ => ⟨hf.1, hf.2, hp.2 (T.setVm vm₁) hT hW₁⟩) with ⟨v, vm₁, ⟨U', l2, c2, s2⟩, hW₁, X', ⟨g', mk, t, L, e1, e2, hq, h1, hL, h2, h3⟩, st⟩ | ⟨q, vm₁, ⟨U', l2, c2, s2⟩, hW₁, X', ⟨g', mk, t, L, E, ce, e1, e2, hq, hce, hcv, hcl, h1, hL, h2, h3⟩, st⟩
  · dsimp only [Pt.U, Pt.locs, Pt.cells, Pt.slots] at X' e1 e2 h1 h2 h3 st
    subst h1; subst h2; subst h3
    exact Or.inl ⟨v, (T.setVm vm₁).calling g' mk As.toArray, t, U', L, hT, X', hL, e1, e2, hq, st⟩
  · dsimp only [Pt.U, Pt.locs, Pt.cells, Pt.slots] at X' e1 e2 h1 h2 h3 st hcl
    subst h1; subst h2; subst h3
    exact Or.inr ⟨q, (T.setVm vm₁).calling g' mk As.toArray, t, U', L, E, ce, hT, X', hL, e1, e2, hq, hce, hcv, vx_cls hW₁ hcl, st⟩
end
end VXH
theorem vx_ofWH {l : Launch} {y : MethodName} {ws ws' : List Cond} {rm : Room} {Pc : Array Value → State → Prop} {Qc : Array Value → State → Outcome → State → Prop} {XC : String → State → State → Prop} {mc ms : Nat} {free : Addr → Prop} {cc : ByteArray} {maxL : Nat} {ret : Option FieldType} {hh : List (Nat × Nat × Nat × Nat)}
    (hy : plainName y.cls = true) (hw : ws = Cond.codeWith y cc maxL ret hh :: ws')
    (body : ∀ p e s m args below meth c s₁, BodyLoose p l y (headSpec ws rm) cc maxL ret e s m args below meth c s₁ → c.maxLocals = maxL → Pc args s →
      W p l e (headSpec ws rm).room s m args below meth c s.heap [] 0 0 (vx_MQ below Qc XC args s mc ms free) (entryFrame m args maxL)) : vx_Met l y ws rm Pc Qc XC mc ms free := by
  refine MetFree.of_bodyS (code := cc) (maxLocals := maxL) (ret := ret) hy ?_ ?_
  · intro args s m h hn
    obtain ⟨m9, meth, c, hn9, h1, h2, h3, h4, -, h5, h6, -⟩ := Cond.codeWith_spec (atoms_spec (ws := ws) h _ (by rw [hw]; exact List.mem_cons_self))
    cases hn.symm.trans hn9
    exact ⟨meth, c, h1, h2, h3, h4, h5, h6⟩
  · intro p e s m args below meth c s₁ B hml hP _
    have hh0 : s₁.heap = s.heap := by rw [B.state]; rfl
    obtain ⟨t, a1, o, b1, b2, b3⟩ := body p e s m args below meth c s₁ B hml hP s₁ hh0 (Stand.of_body B)
    exact ⟨t, o, a1, b1, b2, b3⟩
/-! ===== END ===== -/
end
section
-- ===== PART A: goes FIRST, ahead of the names: the tables' words, and 'selects' of the private methods out of them =====
/-- a private method of a class that the tables say can be made, by its rows of tables_1 -/
def lw_okq (q : MethodName × Nat) : Prop := (q.1.cls ≠ "java/lang/invoke/MethodHandle" ∧ q.1.cls ≠ "java/lang/invoke/VarHandle") ∧ Cond.instantiable q.1.cls q.2 ∈ tables_1 ∧ Cond.privateMethod q.1 ∈ tables_1 ∧ Cond.instanceMethod q.1 ∈ tables_1
def lw_T (k : Nat) : List Cond := match k with
  | 0 => tables_1_1
  | 1 => tables_1_2
  | 2 => tables_1_3
  | 3 => tables_1_4
  | 4 => tables_1_5
  | 5 => tables_1_6
  | 6 => tables_1_7
  | 7 => tables_1_8
  | _ => []
def lw_U (k : Nat) : Nat → List Cond
  | 0 => lw_T k
  | j + 1 => (lw_U k j).drop 16
def lw_q (p : Nat × Nat) : Option Cond := (lw_U p.1 (p.2 / 16))[p.2 % 16]?
theorem lw_Um {k j : Nat} {w : Cond} (h : w ∈ lw_U k j) : w ∈ lw_T k := by
  induction j with
  | zero => exact h
  | succ j ih => exact ih (List.mem_of_mem_drop h)
theorem lw_qm {p : Nat × Nat} {w : Cond} (h : lw_q p = some w) : w ∈ tables_1 := by
  have h1 : w ∈ lw_T p.1 := lw_Um (List.mem_of_getElem? h)
  clear h
  unfold tables_1
  unfold lw_T at h1
  split at h1 <;> first | exact absurd h1 List.not_mem_nil | (simp only [List.mem_append]; simp only [h1, true_or, or_true])
def lw_cls : List String := ["EchoVale$Reader", "EchoVale$ValleyText", "EchoVale", "EchoVale$Course", "EchoVale$Pieces", "EchoVale$ClaimsText", "EchoVale$Draws", "EchoVale$SentenceText", "EchoVale$Sentence", "java/lang/Throwable", "EchoValeModel"]
theorem lw_ne : ∀ c ∈ lw_cls, c ≠ "java/lang/invoke/MethodHandle" ∧ c ≠ "java/lang/invoke/VarHandle" := by decide +kernel
theorem lw_in {J : List ((Nat × Nat) × (Nat × Nat) × (Nat × Nat) × Nat)} {l : List (MethodName × Nat)} (h : J.map (fun r => (lw_q r.1, lw_q r.2.1, lw_q r.2.2.1, lw_cls[r.2.2.2]?)) = l.map (fun q => (some (Cond.instantiable q.1.cls q.2), some (Cond.privateMethod q.1), some (Cond.instanceMethod q.1), some q.1.cls))) : ∀ q ∈ l, lw_okq q := by
  intro q hq
  have h1 := List.mem_map_of_mem (f := fun q : MethodName × Nat => (some (Cond.instantiable q.1.cls q.2), some (Cond.privateMethod q.1), some (Cond.instanceMethod q.1), some q.1.cls)) hq
  rw [← h] at h1
  obtain ⟨r, _, e⟩ := List.mem_map.mp h1
  have e1 := congrArg Prod.fst e
  have e2 := congrArg (fun x => x.2.1) e
  have e3 := congrArg (fun x => x.2.2.1) e
  have e4 := congrArg (fun x => x.2.2.2) e
  exact ⟨lw_ne _ (List.mem_of_getElem? e4), lw_qm e1, lw_qm e2, lw_qm e3⟩
def lw_key (s : String) : Nat := s.toByteArray.data.toList.foldl (fun n b => n * 256 + b.toNat) 0
theorem lw_nm {T : u_T} {n : Nat} (K : List Nat) (h1 : ∀ a, a < n → lw_key (T a).2.1 = K.getD a 0) (h2 : ∀ a, a < n → ∀ b, b < n → a ≠ b → K.getD a 0 ≠ K.getD b 0) : ∀ a, a < n → ∀ b, b < n → a ≠ b → (T a).2.1 ≠ (T b).2.1 := fun a ha b hb hab e => h2 a ha b hb hab ((h1 a ha).symm.trans ((congrArg lw_key e).trans (h1 b hb)))
def lw_privs_1 : List (MethodName × Nat) := [(⟨"EchoVale$Reader", "readRun", "()V"⟩, 11), (⟨"EchoVale$Reader", "keywordOf", "(J)I"⟩, 11), (⟨"EchoVale$ValleyText", "readLine", "()Z"⟩, 3), (⟨"EchoVale$ValleyText", "readLand", "()Z"⟩, 3), (⟨"EchoVale$ValleyText", "readCliff", "()Z"⟩, 3), (⟨"EchoVale$ValleyText", "isNewName", "()Z"⟩, 3), (⟨"EchoVale$ValleyText", "cellHere", "()I"⟩, 3), (⟨"EchoVale$ValleyText", "readPerson", "()Z"⟩, 3), (⟨"EchoVale$ValleyText", "readMove", "()Z"⟩, 3), (⟨"EchoVale$ValleyText", "readCamp", "()Z"⟩, 3), (⟨"EchoVale$ValleyText", "readFelt", "()Z"⟩, 3), (⟨"EchoVale$ValleyText", "readSnow", "()Z"⟩, 3), (⟨"EchoVale", "isSaying", "(I)Z"⟩, 17), (⟨"EchoVale", "isCliff", "(I)Z"⟩, 17), (⟨"EchoVale", "isPerson", "(I)Z"⟩, 17), (⟨"EchoVale$Course", "offer", "(LEchoVale$Valley;III)V"⟩, 9)]
def lw_J_1 : List ((Nat × Nat) × (Nat × Nat) × (Nat × Nat) × Nat) := [((0, 35), (2, 79), (2, 80), 0), ((0, 35), (2, 83), (2, 84), 0), ((1, 12), (2, 94), (2, 95), 1), ((1, 12), (2, 102), (2, 103), 1), ((1, 12), (2, 112), (2, 113), 1), ((1, 12), (2, 116), (2, 117), 1), ((1, 12), (2, 132), (2, 133), 1), ((1, 12), (2, 140), (2, 141), 1), ((1, 12), (2, 144), (2, 145), 1), ((1, 12), (2, 157), (2, 158), 1), ((1, 12), (2, 161), (2, 162), 1), ((1, 12), (2, 169), (2, 170), 1), ((0, 27), (2, 213), (2, 214), 2), ((0, 27), (2, 217), (2, 218), 2), ((0, 27), (2, 225), (2, 226), 2), ((1, 84), (3, 77), (3, 78), 3)]
set_option maxRecDepth 100000 in
theorem lw_a_1 : lw_J_1.map (fun r => (lw_q r.1, lw_q r.2.1, lw_q r.2.2.1, lw_cls[r.2.2.2]?)) = lw_privs_1.map (fun q => (some (Cond.instantiable q.1.cls q.2), some (Cond.privateMethod q.1), some (Cond.instanceMethod q.1), some q.1.cls)) := rfl
theorem lw_r1 : ∀ q ∈ lw_privs_1, lw_okq q := lw_in lw_a_1
def lw_privs_2 : List (MethodName × Nat) := [(⟨"EchoVale$Course", "findSoonest", "(I)V"⟩, 9), (⟨"EchoVale$Course", "giveBack", "(LEchoVale$Valley;II)V"⟩, 9), (⟨"EchoVale$Course", "sound", "(LEchoVale$Valley;III)V"⟩, 9), (⟨"EchoVale$Course", "enterLog", "(IIII)V"⟩, 9), (⟨"EchoVale", "wealthByCamping", "(III)I"⟩, 17), (⟨"EchoVale", "areCamps", "(I)Z"⟩, 17), (⟨"EchoVale", "passByCamps", "(II)V"⟩, 17), (⟨"EchoVale", "keepOutcome", "(I)V"⟩, 17), (⟨"EchoVale", "isRest", "(I)Z"⟩, 17), (⟨"EchoVale", "passOneSaying", "(IIII)V"⟩, 17), (⟨"EchoVale$Pieces", "canBegin", "(LEchoVale$Valley;I)Z"⟩, 6), (⟨"EchoVale$Pieces", "isWay", "(LEchoVale$Valley;LEchoVale$Course;III)Z"⟩, 6), (⟨"EchoVale$Pieces", "isLogged", "(LEchoVale$Course;I)Z"⟩, 6), (⟨"EchoVale$Pieces", "addWay", "(I)V"⟩, 6), (⟨"EchoVale$ClaimsText", "readLine", "(LEchoVale$Valley;LEchoVale$Course;I)Z"⟩, 2), (⟨"EchoVale$Draws", "draw", "(I)I"⟩, 3)]
def lw_J_2 : List ((Nat × Nat) × (Nat × Nat) × (Nat × Nat) × Nat) := [((1, 84), (3, 81), (3, 82), 3), ((1, 84), (3, 98), (3, 99), 3), ((1, 84), (3, 107), (3, 108), 3), ((1, 84), (3, 115), (3, 116), 3), ((0, 27), (3, 138), (3, 139), 2), ((0, 27), (3, 156), (3, 157), 2), ((0, 27), (3, 164), (3, 165), 2), ((0, 27), (3, 173), (3, 174), 2), ((0, 27), (3, 177), (3, 178), 2), ((0, 27), (3, 185), (3, 186), 2), ((1, 178), (3, 233), (3, 234), 4), ((1, 178), (4, 2), (4, 3), 4), ((1, 178), (4, 15), (4, 16), 4), ((1, 178), (4, 20), (4, 21), 4), ((1, 32), (4, 38), (4, 39), 5), ((1, 205), (4, 60), (4, 61), 6)]
set_option maxRecDepth 100000 in
theorem lw_a_2 : lw_J_2.map (fun r => (lw_q r.1, lw_q r.2.1, lw_q r.2.2.1, lw_cls[r.2.2.2]?)) = lw_privs_2.map (fun q => (some (Cond.instantiable q.1.cls q.2), some (Cond.privateMethod q.1), some (Cond.instanceMethod q.1), some q.1.cls)) := rfl
theorem lw_r2 : ∀ q ∈ lw_privs_2, lw_okq q := lw_in lw_a_2
def lw_privs_3 : List (MethodName × Nat) := [(⟨"EchoVale$Draws", "speak", "(LEchoVale$Valley;LEchoVale$Course;)V"⟩, 3), (⟨"EchoVale", "putName", "(J)V"⟩, 17), (⟨"EchoVale", "put", "(I)V"⟩, 17), (⟨"EchoVale", "putNumber", "(I)V"⟩, 17), (⟨"EchoVale$SentenceText", "readCondition", "(LEchoVale$Valley;I)Z"⟩, 2), (⟨"EchoVale$SentenceText", "readJoined", "(LEchoVale$Valley;I)Z"⟩, 2), (⟨"EchoVale$SentenceText", "readOne", "(LEchoVale$Valley;I)Z"⟩, 2), (⟨"EchoVale$SentenceText", "readPlain", "(LEchoVale$Valley;)Z"⟩, 2), (⟨"EchoVale$Sentence", "isSo", "(LEchoVale$Course;II)Z"⟩, 4), (⟨"java/lang/Throwable", "fillInStackTrace", "(I)Ljava/lang/Throwable;"⟩, 6), (⟨"EchoValeModel", "come", "(I)V"⟩, 50), (⟨"EchoValeModel", "begin", "(I)V"⟩, 50), (⟨"EchoValeModel", "take", "()I"⟩, 50), (⟨"EchoValeModel", "go", "()V"⟩, 50), (⟨"EchoValeModel", "tapeAt", "(I)I"⟩, 50), (⟨"EchoValeModel", "readLine", "()Z"⟩, 50)]
def lw_J_3 : List ((Nat × Nat) × (Nat × Nat) × (Nat × Nat) × Nat) := [((1, 205), (4, 66), (4, 67), 6), ((0, 27), (4, 97), (4, 98), 2), ((0, 27), (4, 101), (4, 102), 2), ((0, 27), (4, 105), (4, 106), 2), ((1, 68), (4, 123), (4, 124), 7), ((1, 68), (4, 127), (4, 128), 7), ((1, 68), (4, 131), (4, 132), 7), ((1, 68), (4, 147), (4, 148), 7), ((1, 46), (4, 166), (4, 167), 8), ((4, 234), (4, 232), (4, 233), 9), ((5, 47), (5, 208), (5, 209), 10), ((5, 47), (5, 220), (5, 221), 10), ((5, 47), (5, 224), (5, 225), 10), ((5, 47), (5, 228), (5, 229), 10), ((5, 47), (5, 238), (5, 239), 10), ((5, 47), (6, 4), (6, 5), 10)]
set_option maxRecDepth 100000 in
theorem lw_a_3 : lw_J_3.map (fun r => (lw_q r.1, lw_q r.2.1, lw_q r.2.2.1, lw_cls[r.2.2.2]?)) = lw_privs_3.map (fun q => (some (Cond.instantiable q.1.cls q.2), some (Cond.privateMethod q.1), some (Cond.instanceMethod q.1), some q.1.cls)) := rfl
theorem lw_r3 : ∀ q ∈ lw_privs_3, lw_okq q := lw_in lw_a_3
def lw_privs_4 : List (MethodName × Nat) := [(⟨"EchoValeModel", "isWord", "(I)Z"⟩, 50), (⟨"EchoValeModel", "readLand", "()Z"⟩, 50), (⟨"EchoValeModel", "bad", "(I)Z"⟩, 50), (⟨"EchoValeModel", "readNumber", "(II)Z"⟩, 50), (⟨"EchoValeModel", "isNumber", "(II)Z"⟩, 50), (⟨"EchoValeModel", "readCliff", "()Z"⟩, 50), (⟨"EchoValeModel", "readNew", "(I)Z"⟩, 50), (⟨"EchoValeModel", "isName", "()Z"⟩, 50), (⟨"EchoValeModel", "holdCell", "()Z"⟩, 50), (⟨"EchoValeModel", "readPerson", "()Z"⟩, 50), (⟨"EchoValeModel", "readCell", "()Z"⟩, 50), (⟨"EchoValeModel", "readMove", "()Z"⟩, 50), (⟨"EchoValeModel", "isOne", "()Z"⟩, 50), (⟨"EchoValeModel", "readCamp", "()Z"⟩, 50), (⟨"EchoValeModel", "readFelt", "()Z"⟩, 50), (⟨"EchoValeModel", "readSnow", "()Z"⟩, 50)]
def lw_J_4 : List ((Nat × Nat) × (Nat × Nat) × (Nat × Nat) × Nat) := [((5, 47), (6, 8), (6, 9), 10), ((5, 47), (6, 18), (6, 19), 10), ((5, 47), (6, 22), (6, 23), 10), ((5, 47), (6, 26), (6, 27), 10), ((5, 47), (6, 30), (6, 31), 10), ((5, 47), (6, 37), (6, 38), 10), ((5, 47), (6, 41), (6, 42), 10), ((5, 47), (6, 45), (6, 46), 10), ((5, 47), (6, 52), (6, 53), 10), ((5, 47), (6, 56), (6, 57), 10), ((5, 47), (6, 60), (6, 61), 10), ((5, 47), (6, 64), (6, 65), 10), ((5, 47), (6, 68), (6, 69), 10), ((5, 47), (6, 72), (6, 73), 10), ((5, 47), (6, 76), (6, 77), 10), ((5, 47), (6, 80), (6, 81), 10)]
set_option maxRecDepth 100000 in
theorem lw_a_4 : lw_J_4.map (fun r => (lw_q r.1, lw_q r.2.1, lw_q r.2.2.1, lw_cls[r.2.2.2]?)) = lw_privs_4.map (fun q => (some (Cond.instantiable q.1.cls q.2), some (Cond.privateMethod q.1), some (Cond.instanceMethod q.1), some q.1.cls)) := rfl
theorem lw_r4 : ∀ q ∈ lw_privs_4, lw_okq q := lw_in lw_a_4
def lw_privs_5 : List (MethodName × Nat) := [(⟨"EchoValeModel", "readEnd", "()Z"⟩, 50), (⟨"EchoValeModel", "isSign", "(I)Z"⟩, 50), (⟨"EchoValeModel", "isCliff", "(I)Z"⟩, 50), (⟨"EchoValeModel", "refuse", "()I"⟩, 50), (⟨"EchoValeModel", "strength", "(I)I"⟩, 50), (⟨"EchoValeModel", "snowAt", "(I)I"⟩, 50), (⟨"EchoValeModel", "isPerson", "(I)Z"⟩, 50), (⟨"EchoValeModel", "hasAll", "(I)I"⟩, 50), (⟨"EchoValeModel", "shareOf", "(II)I"⟩, 50), (⟨"EchoValeModel", "of", "(II)I"⟩, 50), (⟨"EchoValeModel", "isSaying", "(I)Z"⟩, 50), (⟨"EchoValeModel", "comesAt", "(III)I"⟩, 50), (⟨"EchoValeModel", "isAt", "(I)Z"⟩, 50), (⟨"EchoValeModel", "snap", "()V"⟩, 50), (⟨"EchoValeModel", "sayIt", "(III)I"⟩, 50), (⟨"EchoValeModel", "loudAt", "(II)I"⟩, 50)]
def lw_J_5 : List ((Nat × Nat) × (Nat × Nat) × (Nat × Nat) × Nat) := [((5, 47), (6, 84), (6, 85), 10), ((5, 47), (6, 88), (6, 89), 10), ((5, 47), (6, 100), (6, 101), 10), ((5, 47), (6, 104), (6, 105), 10), ((5, 47), (6, 108), (6, 109), 10), ((5, 47), (6, 112), (6, 113), 10), ((5, 47), (6, 120), (6, 121), 10), ((5, 47), (6, 124), (6, 125), 10), ((5, 47), (6, 128), (6, 129), 10), ((5, 47), (6, 132), (6, 133), 10), ((5, 47), (6, 146), (6, 147), 10), ((5, 47), (6, 154), (6, 155), 10), ((5, 47), (6, 174), (6, 175), 10), ((5, 47), (6, 178), (6, 179), 10), ((5, 47), (6, 186), (6, 187), 10), ((5, 47), (6, 190), (6, 191), 10)]
set_option maxRecDepth 100000 in
theorem lw_a_5 : lw_J_5.map (fun r => (lw_q r.1, lw_q r.2.1, lw_q r.2.2.1, lw_cls[r.2.2.2]?)) = lw_privs_5.map (fun q => (some (Cond.instantiable q.1.cls q.2), some (Cond.privateMethod q.1), some (Cond.instanceMethod q.1), some q.1.cls)) := rfl
theorem lw_r5 : ∀ q ∈ lw_privs_5, lw_okq q := lw_in lw_a_5
def lw_privs_6 : List (MethodName × Nat) := [(⟨"EchoValeModel", "cliffAt", "(I)I"⟩, 50), (⟨"EchoValeModel", "delay", "(I)I"⟩, 50), (⟨"EchoValeModel", "comeTo", "(IIII)V"⟩, 50), (⟨"EchoValeModel", "passHours", "(I)I"⟩, 50), (⟨"EchoValeModel", "pass", "(I)V"⟩, 50), (⟨"EchoValeModel", "moveAll", "(I)V"⟩, 50), (⟨"EchoValeModel", "sound", "(III)V"⟩, 50), (⟨"EchoValeModel", "hearersOf", "(II)I"⟩, 50), (⟨"EchoValeModel", "campingBy", "(III)I"⟩, 50), (⟨"EchoValeModel", "layAside", "()V"⟩, 50), (⟨"EchoValeModel", "layBack", "()V"⟩, 50), (⟨"EchoValeModel", "campers", "()I"⟩, 50), (⟨"EchoValeModel", "layHas", "(II)V"⟩, 50), (⟨"EchoValeModel", "isRest", "(II)Z"⟩, 50), (⟨"EchoValeModel", "wouldCome", "(III)I"⟩, 50), (⟨"EchoValeModel", "takePieces", "()Z"⟩, 50)]
def lw_J_6 : List ((Nat × Nat) × (Nat × Nat) × (Nat × Nat) × Nat) := [((5, 47), (6, 194), (6, 195), 10), ((5, 47), (6, 204), (6, 205), 10), ((5, 47), (6, 208), (6, 209), 10), ((5, 47), (6, 216), (6, 217), 10), ((5, 47), (6, 220), (6, 221), 10), ((5, 47), (6, 224), (6, 225), 10), ((5, 47), (6, 231), (6, 232), 10), ((5, 47), (6, 235), (6, 236), 10), ((5, 47), (7, 6), (7, 7), 10), ((5, 47), (7, 10), (7, 11), 10), ((5, 47), (7, 14), (7, 15), 10), ((5, 47), (7, 26), (7, 27), 10), ((5, 47), (7, 30), (7, 31), 10), ((5, 47), (7, 38), (7, 39), 10), ((5, 47), (7, 70), (7, 71), 10), ((5, 47), (7, 86), (7, 87), 10)]
set_option maxRecDepth 100000 in
theorem lw_a_6 : lw_J_6.map (fun r => (lw_q r.1, lw_q r.2.1, lw_q r.2.2.1, lw_cls[r.2.2.2]?)) = lw_privs_6.map (fun q => (some (Cond.instantiable q.1.cls q.2), some (Cond.privateMethod q.1), some (Cond.instanceMethod q.1), some q.1.cls)) := rfl
theorem lw_r6 : ∀ q ∈ lw_privs_6, lw_okq q := lw_in lw_a_6
def lw_privs_7 : List (MethodName × Nat) := [(⟨"EchoValeModel", "soundAll", "(III)V"⟩, 50), (⟨"EchoValeModel", "cometh", "(III)V"⟩, 50), (⟨"EchoValeModel", "allSound", "()Z"⟩, 50), (⟨"EchoValeModel", "readClaim", "()Z"⟩, 50), (⟨"EchoValeModel", "drawnBy", "(II)I"⟩, 50), (⟨"EchoValeModel", "draw", "(I)I"⟩, 50), (⟨"EchoValeModel", "put", "(I)V"⟩, 50), (⟨"EchoValeModel", "putNumber", "(I)V"⟩, 50), (⟨"EchoValeModel", "readOr", "()Z"⟩, 50), (⟨"EchoValeModel", "readAnd", "()Z"⟩, 50), (⟨"EchoValeModel", "readOne", "()Z"⟩, 50), (⟨"EchoValeModel", "readBracket", "()Z"⟩, 50), (⟨"EchoValeModel", "readNot", "()Z"⟩, 50), (⟨"EchoValeModel", "saysOne", "(IIII)I"⟩, 50), (⟨"EchoValeModel", "readOf", "(I)Z"⟩, 50), (⟨"EchoValeModel", "readCompare", "(I)Z"⟩, 50)]
def lw_J_7 : List ((Nat × Nat) × (Nat × Nat) × (Nat × Nat) × Nat) := [((5, 47), (7, 90), (7, 91), 10), ((5, 47), (7, 94), (7, 95), 10), ((5, 47), (7, 98), (7, 99), 10), ((5, 47), (7, 110), (7, 111), 10), ((5, 47), (7, 118), (7, 119), 10), ((5, 47), (7, 122), (7, 123), 10), ((5, 47), (7, 143), (7, 144), 10), ((5, 47), (7, 147), (7, 148), 10), ((5, 47), (7, 159), (7, 160), 10), ((5, 47), (7, 163), (7, 164), 10), ((5, 47), (7, 167), (7, 168), 10), ((5, 47), (7, 171), (7, 172), 10), ((5, 47), (7, 175), (7, 176), 10), ((5, 47), (7, 179), (7, 180), 10), ((5, 47), (7, 183), (7, 184), 10), ((5, 47), (7, 187), (7, 188), 10)]
set_option maxRecDepth 100000 in
theorem lw_a_7 : lw_J_7.map (fun r => (lw_q r.1, lw_q r.2.1, lw_q r.2.2.1, lw_cls[r.2.2.2]?)) = lw_privs_7.map (fun q => (some (Cond.instantiable q.1.cls q.2), some (Cond.privateMethod q.1), some (Cond.instanceMethod q.1), some q.1.cls)) := rfl
theorem lw_r7 : ∀ q ∈ lw_privs_7, lw_okq q := lw_in lw_a_7
def lw_privs_8 : List (MethodName × Nat) := [(⟨"EchoValeModel", "holds", "(II)Z"⟩, 50), (⟨"EchoValeModel", "isLost", "(I)Z"⟩, 50)]
def lw_J_8 : List ((Nat × Nat) × (Nat × Nat) × (Nat × Nat) × Nat) := [((5, 47), (7, 195), (7, 196), 10), ((5, 47), (7, 199), (7, 200), 10)]
set_option maxRecDepth 100000 in
theorem lw_a_8 : lw_J_8.map (fun r => (lw_q r.1, lw_q r.2.1, lw_q r.2.2.1, lw_cls[r.2.2.2]?)) = lw_privs_8.map (fun q => (some (Cond.instantiable q.1.cls q.2), some (Cond.privateMethod q.1), some (Cond.instanceMethod q.1), some q.1.cls)) := rfl
theorem lw_r8 : ∀ q ∈ lw_privs_8, lw_okq q := lw_in lw_a_8
def lw_privs : List (MethodName × Nat) := lw_privs_1 ++ (lw_privs_2 ++ (lw_privs_3 ++ (lw_privs_4 ++ (lw_privs_5 ++ (lw_privs_6 ++ (lw_privs_7 ++ (lw_privs_8)))))))
def lw_tbl : List Cond := k2_sels lw_privs ++ tables_1
theorem lw_privs_ok : ∀ q ∈ lw_privs, lw_okq q := by
  show ∀ q ∈ lw_privs_1 ++ (lw_privs_2 ++ (lw_privs_3 ++ (lw_privs_4 ++ (lw_privs_5 ++ (lw_privs_6 ++ (lw_privs_7 ++ (lw_privs_8))))))), lw_okq q
  exact List.forall_mem_append.mpr ⟨lw_r1, List.forall_mem_append.mpr ⟨lw_r2, List.forall_mem_append.mpr ⟨lw_r3, List.forall_mem_append.mpr ⟨lw_r4, List.forall_mem_append.mpr ⟨lw_r5, List.forall_mem_append.mpr ⟨lw_r6, List.forall_mem_append.mpr ⟨lw_r7, lw_r8⟩⟩⟩⟩⟩⟩⟩
def RX0 : String := "EchoVale$ClaimsText"
def TX0 : u_T := fun k => match k with
  | 0 => ("EchoVale$ClaimsText", "wrongLine", "I", false)
  | _ => ("EchoVale$ClaimsText", "reader", "LEchoVale$Reader;", true)
def tyX0 : Nat → FieldType := fun k => match k with
  | 0 => .int
  | _ => .object "EchoVale$Reader"
theorem nmX0 : ∀ a, a < 2 → ∀ b, b < 2 → a ≠ b → (TX0 a).2.1 ≠ (TX0 b).2.1 := by decide +kernel
theorem tyX0_ok : ∀ k, k < 2 → parseFieldDescriptor (TX0 k).2.2.1 = some (tyX0 k) := by decide +kernel
def RX1 : String := "EchoVale$Course"
def TX1 : u_T := fun k => match k with
  | 0 => ("EchoVale$Course", "hour", "I", false)
  | 1 => ("EchoVale$Course", "sayings", "I", false)
  | 2 => ("EchoVale$Course", "echoes", "I", false)
  | 3 => ("EchoVale$Course", "place", "[I", true)
  | 4 => ("EchoVale$Course", "due", "[I", true)
  | 5 => ("EchoVale$Course", "force", "[I", true)
  | 6 => ("EchoVale$Course", "facts", "[I", true)
  | 7 => ("EchoVale$Course", "log", "[I", true)
  | _ => ("EchoVale$Course", "soonest", "[I", true)
def tyX1 : Nat → FieldType := fun k => match k with
  | 0 => .int
  | 1 => .int
  | 2 => .int
  | 3 => .array .int
  | 4 => .array .int
  | 5 => .array .int
  | 6 => .array .int
  | 7 => .array .int
  | _ => .array .int
theorem nmX1 : ∀ a, a < 9 → ∀ b, b < 9 → a ≠ b → (TX1 a).2.1 ≠ (TX1 b).2.1 := lw_nm [1752135026, 32476796409505651, 111477628298611, 482854658917, 6583653, 439956431717, 439720572019, 7106407, 32492146705920884] (by decide +kernel) (by decide +kernel)
theorem tyX1_ok : ∀ k, k < 9 → parseFieldDescriptor (TX1 k).2.2.1 = some (tyX1 k) := by decide +kernel
def RX2 : String := "EchoVale$Draws"
def TX2 : u_T := fun k => match k with
  | 0 => ("EchoVale$Draws", "storms", "I", false)
  | 1 => ("EchoVale$Draws", "sayings", "I", false)
  | _ => ("EchoVale$Draws", "seed", "I", false)
def tyX2 : Nat → FieldType := fun k => match k with
  | 0 => .int
  | 1 => .int
  | _ => .int
theorem nmX2 : ∀ a, a < 3 → ∀ b, b < 3 → a ≠ b → (TX2 a).2.1 ≠ (TX2 b).2.1 := by decide +kernel
theorem tyX2_ok : ∀ k, k < 3 → parseFieldDescriptor (TX2 k).2.2.1 = some (tyX2 k) := by decide +kernel
def RX3 : String := "EchoVale$Image"
def TX3 : u_T := fun k => match k with
  | 0 => ("EchoVale$Image", "kept", "Z", false)
  | 1 => ("EchoVale$Image", "valley", "LEchoVale$Valley;", true)
  | 2 => ("EchoVale$Image", "course", "LEchoVale$Course;", true)
  | _ => ("EchoVale$Image", "sentence", "LEchoVale$Sentence;", true)
def tyX3 : Nat → FieldType := fun k => match k with
  | 0 => .boolean
  | 1 => .object "EchoVale$Valley"
  | 2 => .object "EchoVale$Course"
  | _ => .object "EchoVale$Sentence"
theorem nmX3 : ∀ a, a < 4 → ∀ b, b < 4 → a ≠ b → (TX3 a).2.1 ≠ (TX3 b).2.1 := by decide +kernel
theorem tyX3_ok : ∀ k, k < 4 → parseFieldDescriptor (TX3 k).2.2.1 = some (tyX3 k) := by decide +kernel
def RX4 : String := "EchoVale$Pieces"
def TX4 : u_T := fun k => match k with
  | 0 => ("EchoVale$Pieces", "found", "I", false)
  | 1 => ("EchoVale$Pieces", "ways", "[I", true)
  | 2 => ("EchoVale$Pieces", "heard", "I", false)
  | 3 => ("EchoVale$Pieces", "cliff", "[I", true)
  | 4 => ("EchoVale$Pieces", "hour", "[I", true)
  | _ => ("EchoVale$Pieces", "force", "[I", true)
def tyX4 : Nat → FieldType := fun k => match k with
  | 0 => .int
  | 1 => .array .int
  | 2 => .int
  | 3 => .array .int
  | 4 => .array .int
  | _ => .array .int
theorem nmX4 : ∀ a, a < 6 → ∀ b, b < 6 → a ≠ b → (TX4 a).2.1 ≠ (TX4 b).2.1 := lw_nm [439956631140, 2002876787, 448377483876, 427020609126, 1752135026, 439956431717] (by decide +kernel) (by decide +kernel)
theorem tyX4_ok : ∀ k, k < 6 → parseFieldDescriptor (TX4 k).2.2.1 = some (tyX4 k) := by decide +kernel
def RX5 : String := "EchoVale$Reader"
def TX5 : u_T := fun k => match k with
  | 0 => ("EchoVale$Reader", "bytes", "[I", true)
  | 1 => ("EchoVale$Reader", "length", "I", false)
  | 2 => ("EchoVale$Reader", "fault", "I", false)
  | 3 => ("EchoVale$Reader", "place", "I", false)
  | 4 => ("EchoVale$Reader", "kind", "I", false)
  | 5 => ("EchoVale$Reader", "start", "I", false)
  | 6 => ("EchoVale$Reader", "value", "I", false)
  | 7 => ("EchoVale$Reader", "word", "J", false)
  | 8 => ("EchoVale$Reader", "at", "I", false)
  | 9 => ("EchoVale$Reader", "most", "I", false)
  | _ => ("EchoVale$Reader", "keywords", "[J", true)
def tyX5 : Nat → FieldType := fun k => match k with
  | 0 => .array .int
  | 1 => .int
  | 2 => .int
  | 3 => .int
  | 4 => .int
  | 5 => .int
  | 6 => .int
  | 7 => .long
  | 8 => .int
  | 9 => .int
  | _ => .array .long
theorem nmX5 : ∀ a, a < 11 → ∀ b, b < 11 → a ≠ b → (TX5 a).2.1 ≠ (TX5 b).2.1 := lw_nm [422944466291, 119182899770472, 439721749620, 482854658917, 1802071652, 495873782388, 508440638821, 2003792484, 24948, 1836020596, 7738725088583902323] (by decide +kernel) (by decide +kernel)
theorem tyX5_ok : ∀ k, k < 11 → parseFieldDescriptor (TX5 k).2.2.1 = some (tyX5 k) := by decide +kernel
def RX6 : String := "EchoVale$Sentence"
def TX6 : u_T := fun k => match k with
  | 0 => ("EchoVale$Sentence", "ones", "I", false)
  | 1 => ("EchoVale$Sentence", "steps", "I", false)
  | 2 => ("EchoVale$Sentence", "code", "[I", true)
  | _ => ("EchoVale$Sentence", "answers", "[Z", true)
def tyX6 : Nat → FieldType := fun k => match k with
  | 0 => .int
  | 1 => .int
  | 2 => .array .int
  | _ => .array .boolean
theorem nmX6 : ∀ a, a < 4 → ∀ b, b < 4 → a ≠ b → (TX6 a).2.1 ≠ (TX6 b).2.1 := by decide +kernel
theorem tyX6_ok : ∀ k, k < 4 → parseFieldDescriptor (TX6 k).2.2.1 = some (tyX6 k) := by decide +kernel
def RX7 : String := "EchoVale$SentenceText"
def TX7 : u_T := fun k => match k with
  | 0 => ("EchoVale$SentenceText", "sentence", "LEchoVale$Sentence;", true)
  | _ => ("EchoVale$SentenceText", "reader", "LEchoVale$Reader;", true)
def tyX7 : Nat → FieldType := fun k => match k with
  | 0 => .object "EchoVale$Sentence"
  | _ => .object "EchoVale$Reader"
theorem nmX7 : ∀ a, a < 2 → ∀ b, b < 2 → a ≠ b → (TX7 a).2.1 ≠ (TX7 b).2.1 := by decide +kernel
theorem tyX7_ok : ∀ k, k < 2 → parseFieldDescriptor (TX7 k).2.2.1 = some (tyX7 k) := by decide +kernel
def RX8 : String := "EchoVale$Undo"
def TX8 : u_T := fun k => match k with
  | 0 => ("EchoVale$Undo", "kept", "I", false)
  | 1 => ("EchoVale$Undo", "oldest", "I", false)
  | _ => ("EchoVale$Undo", "rows", "[LEchoVale$Course;", true)
def tyX8 : Nat → FieldType := fun k => match k with
  | 0 => .int
  | 1 => .int
  | _ => .array (.object "EchoVale$Course")
theorem nmX8 : ∀ a, a < 3 → ∀ b, b < 3 → a ≠ b → (TX8 a).2.1 ≠ (TX8 b).2.1 := by decide +kernel
theorem tyX8_ok : ∀ k, k < 3 → parseFieldDescriptor (TX8 k).2.2.1 = some (tyX8 k) := by decide +kernel
def RX9 : String := "EchoVale$Valley"
def TX9 : u_T := fun k => match k with
  | 0 => ("EchoVale$Valley", "width", "I", false)
  | 1 => ("EchoVale$Valley", "height", "I", false)
  | 2 => ("EchoVale$Valley", "cliffs", "I", false)
  | 3 => ("EchoVale$Valley", "persons", "I", false)
  | 4 => ("EchoVale$Valley", "moves", "I", false)
  | 5 => ("EchoVale$Valley", "felts", "I", false)
  | 6 => ("EchoVale$Valley", "snows", "I", false)
  | 7 => ("EchoVale$Valley", "cliffName", "[J", true)
  | 8 => ("EchoVale$Valley", "cliffCell", "[I", true)
  | 9 => ("EchoVale$Valley", "delay", "[I", true)
  | 10 => ("EchoVale$Valley", "strength", "[I", true)
  | 11 => ("EchoVale$Valley", "personName", "[J", true)
  | 12 => ("EchoVale$Valley", "home", "[I", true)
  | 13 => ("EchoVale$Valley", "campCell", "[I", true)
  | 14 => ("EchoVale$Valley", "moveHour", "[I", true)
  | 15 => ("EchoVale$Valley", "movePerson", "[I", true)
  | 16 => ("EchoVale$Valley", "moveCell", "[I", true)
  | 17 => ("EchoVale$Valley", "feltCell", "[I", true)
  | 18 => ("EchoVale$Valley", "snowHour", "[I", true)
  | _ => ("EchoVale$Valley", "snowDepth", "[I", true)
def tyX9 : Nat → FieldType := fun k => match k with
  | 0 => .int
  | 1 => .int
  | 2 => .int
  | 3 => .int
  | 4 => .int
  | 5 => .int
  | 6 => .int
  | 7 => .array .long
  | 8 => .array .int
  | 9 => .array .int
  | 10 => .array .int
  | 11 => .array .long
  | 12 => .array .int
  | 13 => .array .int
  | 14 => .array .int
  | 15 => .array .int
  | 16 => .array .int
  | 17 => .array .int
  | 18 => .array .int
  | _ => .array .int
theorem nmX9 : ∀ a, a < 20 → ∀ b, b < 20 → a ≠ b → (TX9 a).2.1 ≠ (TX9 b).2.1 := lw_nm [512869299304, 114784769370228, 109317275936371, 31636739628953203, 470021465459, 439788270707, 495774037875, 1834039550915484151141, 1834039550915299863660, 431198331257, 8319400191629685864, 530776414290707126250853, 1752132965, 7161125211430284396, 7885651649928066418, 516794066538438853881710, 7885651649843522668, 7378422811119152236, 8317708119906940274, 2129333278678828741736] (by decide +kernel) (by decide +kernel)
theorem tyX9_ok : ∀ k, k < 20 → parseFieldDescriptor (TX9 k).2.2.1 = some (tyX9 k) := by decide +kernel
def RX10 : String := "EchoVale$ValleyText"
def TX10 : u_T := fun k => match k with
  | 0 => ("EchoVale$ValleyText", "valley", "LEchoVale$Valley;", true)
  | 1 => ("EchoVale$ValleyText", "lines", "I", false)
  | _ => ("EchoVale$ValleyText", "reader", "LEchoVale$Reader;", true)
def tyX10 : Nat → FieldType := fun k => match k with
  | 0 => .object "EchoVale$Valley"
  | 1 => .int
  | _ => .object "EchoVale$Reader"
theorem nmX10 : ∀ a, a < 3 → ∀ b, b < 3 → a ≠ b → (TX10 a).2.1 ≠ (TX10 b).2.1 := by decide +kernel
theorem tyX10_ok : ∀ k, k < 3 → parseFieldDescriptor (TX10 k).2.2.1 = some (tyX10 k) := by decide +kernel
def RX11 : String := "EchoVale"
def TX11 : u_T := fun k => match k with
  | 0 => ("EchoVale", "reader", "LEchoVale$Reader;", true)
  | 1 => ("EchoVale", "valley", "LEchoVale$Valley;", true)
  | 2 => ("EchoVale", "valleyText", "LEchoVale$ValleyText;", true)
  | 3 => ("EchoVale", "claimsText", "LEchoVale$ClaimsText;", true)
  | 4 => ("EchoVale", "sentence", "LEchoVale$Sentence;", true)
  | 5 => ("EchoVale", "sentenceText", "LEchoVale$SentenceText;", true)
  | 6 => ("EchoVale", "course", "LEchoVale$Course;", true)
  | 7 => ("EchoVale", "ahead", "LEchoVale$Course;", true)
  | 8 => ("EchoVale", "undoRows", "LEchoVale$Undo;", true)
  | 9 => ("EchoVale", "images", "[LEchoVale$Image;", true)
  | 10 => ("EchoVale", "clues", "LEchoVale$Pieces;", true)
  | 11 => ("EchoVale", "draws", "LEchoVale$Draws;", true)
  | 12 => ("EchoVale", "outcome", "[I", true)
  | 13 => ("EchoVale", "written", "[I", true)
  | 14 => ("EchoVale", "writtenBytes", "I", false)
  | 15 => ("EchoVale", "toldStorms", "I", false)
  | _ => ("EchoVale", "toldSayings", "I", false)
def tyX11 : Nat → FieldType := fun k => match k with
  | 0 => .object "EchoVale$Reader"
  | 1 => .object "EchoVale$Valley"
  | 2 => .object "EchoVale$ValleyText"
  | 3 => .object "EchoVale$ClaimsText"
  | 4 => .object "EchoVale$Sentence"
  | 5 => .object "EchoVale$SentenceText"
  | 6 => .object "EchoVale$Course"
  | 7 => .object "EchoVale$Course"
  | 8 => .object "EchoVale$Undo"
  | 9 => .array (.object "EchoVale$Image")
  | 10 => .object "EchoVale$Pieces"
  | 11 => .object "EchoVale$Draws"
  | 12 => .array .int
  | 13 => .array .int
  | 14 => .int
  | 15 => .int
  | _ => .int
theorem nmX11 : ∀ a, a < 17 → ∀ b, b < 17 → a ≠ b → (TX11 a).2.1 ≠ (TX11 b).2.1 := lw_nm [125779751232882, 130160802948473, 559036391884793324075124, 469513549425891845961844, 8315173733206483813, 35713399244680077193404315764, 109330362954597, 418363302244, 8461811179162924915, 115918506517875, 427021395315, 431415719795, 31372865159785829, 33621319479485806, 36967031708866375880052860275, 549849911064473923382643, 140761577232484476463769459] (by decide +kernel) (by decide +kernel)
theorem tyX11_ok : ∀ k, k < 17 → parseFieldDescriptor (TX11 k).2.2.1 = some (tyX11 k) := by decide +kernel
def RX12 : String := "EchoValeModel"
def TX12 : u_T := fun k => match k with
  | 0 => ("EchoValeModel", "thrown", "I", false)
  | 1 => ("EchoValeModel", "tape", "[I", true)
  | 2 => ("EchoValeModel", "taped", "I", false)
  | 3 => ("EchoValeModel", "size", "I", false)
  | 4 => ("EchoValeModel", "limit", "I", false)
  | 5 => ("EchoValeModel", "to", "I", false)
  | 6 => ("EchoValeModel", "from", "I", false)
  | 7 => ("EchoValeModel", "kind", "I", false)
  | 8 => ("EchoValeModel", "number", "I", false)
  | 9 => ("EchoValeModel", "sign", "I", false)
  | 10 => ("EchoValeModel", "fault", "I", false)
  | 11 => ("EchoValeModel", "place", "I", false)
  | 12 => ("EchoValeModel", "word", "J", false)
  | 13 => ("EchoValeModel", "told", "I", false)
  | 14 => ("EchoValeModel", "now", "[I", true)
  | 15 => ("EchoValeModel", "read", "[I", true)
  | 16 => ("EchoValeModel", "kept", "[I", true)
  | 17 => ("EchoValeModel", "snaps", "[I", true)
  | 18 => ("EchoValeModel", "aside", "[I", true)
  | 19 => ("EchoValeModel", "name", "[J", true)
  | 20 => ("EchoValeModel", "readName", "[J", true)
  | 21 => ("EchoValeModel", "keptName", "[J", true)
  | 22 => ("EchoValeModel", "isKept", "[Z", true)
  | 23 => ("EchoValeModel", "snapMany", "I", false)
  | 24 => ("EchoValeModel", "hasLand", "Z", false)
  | 25 => ("EchoValeModel", "hasBy", "[I", true)
  | 26 => ("EchoValeModel", "pieceCliff", "[I", true)
  | 27 => ("EchoValeModel", "pieceHour", "[I", true)
  | 28 => ("EchoValeModel", "pieceForce", "[I", true)
  | 29 => ("EchoValeModel", "ways", "[I", true)
  | 30 => ("EchoValeModel", "atHour", "[I", true)
  | 31 => ("EchoValeModel", "much", "[I", true)
  | 32 => ("EchoValeModel", "gone", "[I", true)
  | 33 => ("EchoValeModel", "forceAt", "[I", true)
  | 34 => ("EchoValeModel", "pieceMany", "I", false)
  | 35 => ("EchoValeModel", "wayMany", "I", false)
  | 36 => ("EchoValeModel", "claimMany", "I", false)
  | 37 => ("EchoValeModel", "wrongClaim", "I", false)
  | 38 => ("EchoValeModel", "seed", "I", false)
  | 39 => ("EchoValeModel", "stormMany", "I", false)
  | 40 => ("EchoValeModel", "saidMany", "I", false)
  | 41 => ("EchoValeModel", "storms", "[I", true)
  | 42 => ("EchoValeModel", "text", "[I", true)
  | 43 => ("EchoValeModel", "letters", "[I", true)
  | 44 => ("EchoValeModel", "texted", "I", false)
  | 45 => ("EchoValeModel", "node", "[I", true)
  | 46 => ("EchoValeModel", "nodes", "I", false)
  | 47 => ("EchoValeModel", "onesMany", "I", false)
  | 48 => ("EchoValeModel", "within", "I", false)
  | _ => ("EchoValeModel", "top", "I", false)
def tyX12 : Nat → FieldType := fun k => match k with
  | 0 => .int
  | 1 => .array .int
  | 2 => .int
  | 3 => .int
  | 4 => .int
  | 5 => .int
  | 6 => .int
  | 7 => .int
  | 8 => .int
  | 9 => .int
  | 10 => .int
  | 11 => .int
  | 12 => .long
  | 13 => .int
  | 14 => .array .int
  | 15 => .array .int
  | 16 => .array .int
  | 17 => .array .int
  | 18 => .array .int
  | 19 => .array .long
  | 20 => .array .long
  | 21 => .array .long
  | 22 => .array .boolean
  | 23 => .int
  | 24 => .boolean
  | 25 => .array .int
  | 26 => .array .int
  | 27 => .array .int
  | 28 => .array .int
  | 29 => .array .int
  | 30 => .array .int
  | 31 => .array .int
  | 32 => .array .int
  | 33 => .array .int
  | 34 => .int
  | 35 => .int
  | 36 => .int
  | 37 => .int
  | 38 => .int
  | 39 => .int
  | 40 => .int
  | 41 => .array .int
  | 42 => .array .int
  | 43 => .array .int
  | 44 => .int
  | 45 => .array .int
  | 46 => .int
  | 47 => .int
  | 48 => .int
  | _ => .int
theorem nmX12 : ∀ a, a < 50 → ∀ b, b < 50 → a ≠ b → (TX12 a).2.1 ≠ (TX12 b).2.1 := lw_nm [127991945328494, 1952542821, 499850962276, 1936292453, 465625246068, 29807, 1718775661, 1802071652, 121450625394034, 1936287598, 439721749620, 482854658917, 2003792484, 1953459300, 7237495, 1919246692, 1801810036, 495773118579, 418548114533, 1851878757, 8243101776411192677, 7738715179539590501, 115943907094644, 8317692696762347129, 29380545408495204, 448311542393, 530849260003500547991142, 2073629921888758101362, 530849260003513483813733, 2002876787, 107152059364722, 1836409704, 1735356005, 28832984709022068, 2073629921888841068153, 33602695845736057, 1834037302444253343353, 564072569754615596280173, 1936024932, 2129765618921188191865, 8314042266618523257, 126943923170675, 1952807028, 30510848328168051, 127979161412964, 1852793957, 474315253107, 8029466731542048377, 131294808271214, 7630704] (by decide +kernel) (by decide +kernel)
theorem tyX12_ok : ∀ k, k < 50 → parseFieldDescriptor (TX12 k).2.2.1 = some (tyX12 k) := by decide +kernel
abbrev vwCl : List vw_C := [(RX0, TX0, 2), (RX1, TX1, 9), (RX2, TX2, 3), (RX3, TX3, 4), (RX4, TX4, 6), (RX5, TX5, 11), (RX6, TX6, 4), (RX7, TX7, 2), (RX8, TX8, 3), (RX9, TX9, 20), (RX10, TX10, 3), (RX11, TX11, 17), (RX12, TX12, 50)]
def zOwn : List String := ["EchoVale$ClaimsText", "EchoVale$Course", "EchoVale$Draws", "EchoVale$Image", "EchoVale$Pieces", "EchoVale$Reader", "EchoVale$Sentence", "EchoVale$SentenceText", "EchoVale$Undo", "EchoVale$Valley", "EchoVale$ValleyText", "EchoVale", "EchoValeModel", "java/lang/Integer", "java/lang/Math", "java/util/Arrays", "EchoValeLaw"]
/-- the methods: name, code, locals, answer, class, parameters, place of its word -/
def zM0 : List (MethodName × ByteArray × Nat × Option FieldType × Nat × Nat × Nat × Nat) := [(⟨"EchoVale", "<init>", "()V"⟩, prog_1_method_1_code, 2, none, 11, 0, 1, 30),
  (⟨"EchoVale$Reader", "<init>", "()V"⟩, prog_7_method_1_code, 1, none, 5, 0, 1, 38),
  (⟨"EchoVale$Reader", "packKeywords", "()[J"⟩, prog_7_method_2_code, 5, (some (Jvm.ClassFile.FieldType.array Jvm.ClassFile.FieldType.long)), 5, 0, 1, 42),
  (⟨"EchoVale$Reader", "withLetter", "(JI)J"⟩, prog_7_method_3_code, 3, (some Jvm.ClassFile.FieldType.long), 5, 2, 1, 94),
  (⟨"EchoVale$Valley", "<init>", "()V"⟩, prog_11_method_1_code, 1, none, 9, 0, 1, 148),
  (⟨"EchoVale$ValleyText", "<init>", "(LEchoVale$Reader;)V"⟩, prog_12_method_1_code, 2, none, 10, 1, 2, 15),
  (⟨"EchoVale$ClaimsText", "<init>", "(LEchoVale$Reader;)V"⟩, prog_2_method_1_code, 2, none, 0, 1, 2, 35),
  (⟨"EchoVale$Sentence", "<init>", "()V"⟩, prog_8_method_1_code, 1, none, 6, 0, 2, 49),
  (⟨"EchoVale$SentenceText", "<init>", "(LEchoVale$Reader;)V"⟩, prog_9_method_1_code, 2, none, 7, 1, 2, 71),
  (⟨"EchoVale$Course", "<init>", "()V"⟩, prog_3_method_1_code, 1, none, 1, 0, 2, 87),
  (⟨"EchoVale$Undo", "<init>", "()V"⟩, prog_10_method_1_code, 2, none, 8, 0, 2, 132),
  (⟨"EchoVale$Image", "<init>", "()V"⟩, prog_5_method_1_code, 1, none, 3, 0, 2, 153),
  (⟨"EchoVale$Pieces", "<init>", "()V"⟩, prog_6_method_1_code, 1, none, 4, 0, 2, 181),
  (⟨"EchoVale$Draws", "<init>", "()V"⟩, prog_4_method_1_code, 1, none, 2, 0, 2, 208),
  (⟨"EchoVale", "feed", "(IIIII)I"⟩, prog_1_method_2_code, 6, (some Jvm.ClassFile.FieldType.int), 11, 5, 3, 37),
  (⟨"EchoVale$Reader", "addBytes", "(I)V"⟩, prog_7_method_4_code, 3, none, 5, 1, 3, 41),
  (⟨"EchoVale", "end", "(I)Z"⟩, prog_1_method_3_code, 2, (some Jvm.ClassFile.FieldType.boolean), 11, 1, 3, 45),
  (⟨"EchoVale", "valley", "()I"⟩, prog_1_method_4_code, 2, (some Jvm.ClassFile.FieldType.int), 11, 0, 3, 49),
  (⟨"EchoVale$ValleyText", "readText", "()Z"⟩, prog_12_method_2_code, 2, (some Jvm.ClassFile.FieldType.boolean), 10, 0, 3, 53),
  (⟨"EchoVale$Valley", "clear", "()V"⟩, prog_11_method_2_code, 1, none, 9, 0, 3, 57),
  (⟨"EchoVale$Reader", "open", "(I)V"⟩, prog_7_method_5_code, 2, none, 5, 1, 3, 61),
  (⟨"EchoVale$Reader", "step", "()V"⟩, prog_7_method_6_code, 2, none, 5, 0, 3, 65),
  (⟨"java/lang/Math", "min", "(II)I"⟩, prog_20_method_69_code, 2, (some Jvm.ClassFile.FieldType.int), 14, 2, 3, 68),
  (⟨"EchoVale$Reader", "isBlank", "(I)Z"⟩, prog_7_method_9_code, 1, (some Jvm.ClassFile.FieldType.boolean), 5, 1, 3, 71),
  (⟨"EchoVale$Reader", "isLetter", "(I)Z"⟩, prog_7_method_10_code, 1, (some Jvm.ClassFile.FieldType.boolean), 5, 1, 3, 74),
  (⟨"EchoVale$Reader", "isDigit", "(I)Z"⟩, prog_7_method_11_code, 1, (some Jvm.ClassFile.FieldType.boolean), 5, 1, 3, 77),
  (⟨"EchoVale$Reader", "readRun", "()V"⟩, prog_7_method_7_code, 3, none, 5, 0, 3, 81),
  (⟨"EchoVale$Reader", "keywordOf", "(J)I"⟩, prog_7_method_8_code, 4, (some Jvm.ClassFile.FieldType.int), 5, 1, 3, 85),
  (⟨"EchoVale$Reader", "isMark", "(I)Z"⟩, prog_7_method_12_code, 1, (some Jvm.ClassFile.FieldType.boolean), 5, 1, 3, 88),
  (⟨"EchoVale$Reader", "isAtEnd", "()Z"⟩, prog_7_method_14_code, 1, (some Jvm.ClassFile.FieldType.boolean), 5, 0, 3, 92),
  (⟨"EchoVale$ValleyText", "readLine", "()Z"⟩, prog_12_method_3_code, 1, (some Jvm.ClassFile.FieldType.boolean), 10, 0, 3, 96),
  (⟨"EchoVale$Reader", "refuse", "(I)Z"⟩, prog_7_method_13_code, 2, (some Jvm.ClassFile.FieldType.boolean), 5, 1, 3, 100),
  (⟨"EchoVale$ValleyText", "readLand", "()Z"⟩, prog_12_method_4_code, 2, (some Jvm.ClassFile.FieldType.boolean), 10, 0, 3, 104),
  (⟨"EchoVale$Reader", "isNumber", "(II)Z"⟩, prog_7_method_17_code, 3, (some Jvm.ClassFile.FieldType.boolean), 5, 2, 3, 109),
  (⟨"EchoVale$ValleyText", "readCliff", "()Z"⟩, prog_12_method_5_code, 6, (some Jvm.ClassFile.FieldType.boolean), 10, 0, 3, 114),
  (⟨"EchoVale$ValleyText", "isNewName", "()Z"⟩, prog_12_method_11_code, 1, (some Jvm.ClassFile.FieldType.boolean), 10, 0, 3, 118),
  (⟨"EchoVale$Valley", "isTaken", "(J)Z"⟩, prog_11_method_8_code, 3, (some Jvm.ClassFile.FieldType.boolean), 9, 1, 3, 122),
  (⟨"EchoVale$Valley", "cliffNamed", "(J)I"⟩, prog_11_method_6_code, 4, (some Jvm.ClassFile.FieldType.int), 9, 1, 3, 126),
  (⟨"EchoVale$Valley", "personNamed", "(J)I"⟩, prog_11_method_7_code, 4, (some Jvm.ClassFile.FieldType.int), 9, 1, 3, 130),
  (⟨"EchoVale$ValleyText", "cellHere", "()I"⟩, prog_12_method_12_code, 2, (some Jvm.ClassFile.FieldType.int), 10, 0, 3, 134)]
def zM1 : List (MethodName × ByteArray × Nat × Option FieldType × Nat × Nat × Nat × Nat) := [(⟨"EchoVale$Valley", "hasCliff", "(I)Z"⟩, prog_11_method_9_code, 3, (some Jvm.ClassFile.FieldType.boolean), 9, 1, 3, 138),
  (⟨"EchoVale$ValleyText", "readPerson", "()Z"⟩, prog_12_method_6_code, 5, (some Jvm.ClassFile.FieldType.boolean), 10, 0, 3, 142),
  (⟨"EchoVale$ValleyText", "readMove", "()Z"⟩, prog_12_method_7_code, 5, (some Jvm.ClassFile.FieldType.boolean), 10, 0, 3, 146),
  (⟨"EchoVale$Reader", "personHere", "(LEchoVale$Valley;)I"⟩, prog_7_method_19_code, 3, (some Jvm.ClassFile.FieldType.int), 5, 1, 3, 150),
  (⟨"EchoVale$Valley", "hasMove", "(II)Z"⟩, prog_11_method_11_code, 4, (some Jvm.ClassFile.FieldType.boolean), 9, 2, 3, 155),
  (⟨"EchoVale$ValleyText", "readCamp", "()Z"⟩, prog_12_method_8_code, 3, (some Jvm.ClassFile.FieldType.boolean), 10, 0, 3, 159),
  (⟨"EchoVale$ValleyText", "readFelt", "()Z"⟩, prog_12_method_9_code, 3, (some Jvm.ClassFile.FieldType.boolean), 10, 0, 3, 163),
  (⟨"EchoVale$Valley", "hasFelt", "(I)Z"⟩, prog_11_method_10_code, 3, (some Jvm.ClassFile.FieldType.boolean), 9, 1, 3, 167),
  (⟨"EchoVale$ValleyText", "readSnow", "()Z"⟩, prog_12_method_10_code, 3, (some Jvm.ClassFile.FieldType.boolean), 10, 0, 3, 171),
  (⟨"EchoVale$Valley", "hasSnow", "(I)Z"⟩, prog_11_method_12_code, 3, (some Jvm.ClassFile.FieldType.boolean), 9, 1, 3, 175),
  (⟨"EchoVale$Reader", "passSign", "(I)Z"⟩, prog_7_method_18_code, 2, (some Jvm.ClassFile.FieldType.boolean), 5, 1, 3, 179),
  (⟨"EchoVale$Reader", "isSign", "(I)Z"⟩, prog_7_method_16_code, 2, (some Jvm.ClassFile.FieldType.boolean), 5, 1, 3, 183),
  (⟨"EchoVale$Valley", "copyFrom", "(LEchoVale$Valley;)V"⟩, prog_11_method_3_code, 2, none, 9, 1, 3, 187),
  (⟨"EchoVale$Course", "begin", "(LEchoVale$Valley;)V"⟩, prog_3_method_2_code, 2, none, 1, 1, 3, 194),
  (⟨"EchoVale$Sentence", "clear", "()V"⟩, prog_8_method_2_code, 1, none, 6, 0, 3, 199),
  (⟨"EchoVale$Undo", "forget", "()V"⟩, prog_10_method_2_code, 1, none, 8, 0, 3, 203),
  (⟨"EchoVale", "fault", "()I"⟩, prog_1_method_5_code, 1, (some Jvm.ClassFile.FieldType.int), 11, 0, 3, 207),
  (⟨"EchoVale", "comes", "(III)I"⟩, prog_1_method_9_code, 4, (some Jvm.ClassFile.FieldType.int), 11, 3, 3, 211),
  (⟨"EchoVale", "isSaying", "(I)Z"⟩, prog_1_method_45_code, 2, (some Jvm.ClassFile.FieldType.boolean), 11, 1, 3, 215),
  (⟨"EchoVale", "isCliff", "(I)Z"⟩, prog_1_method_43_code, 2, (some Jvm.ClassFile.FieldType.boolean), 11, 1, 3, 219),
  (⟨"EchoVale", "share", "(II)I"⟩, prog_1_method_10_code, 3, (some Jvm.ClassFile.FieldType.int), 11, 2, 3, 223),
  (⟨"EchoVale", "isPerson", "(I)Z"⟩, prog_1_method_44_code, 2, (some Jvm.ClassFile.FieldType.boolean), 11, 1, 3, 227),
  (⟨"EchoVale$Course", "shareOf", "(II)I"⟩, prog_3_method_19_code, 7, (some Jvm.ClassFile.FieldType.int), 1, 2, 3, 231),
  (⟨"EchoVale$Course", "fact", "(II)I"⟩, prog_3_method_6_code, 3, (some Jvm.ClassFile.FieldType.int), 1, 2, 3, 235),
  (⟨"java/lang/Integer", "bitCount", "(I)I"⟩, prog_19_method_49_code, 1, (some Jvm.ClassFile.FieldType.int), 13, 1, 3, 238),
  (⟨"EchoVale", "hasBit", "(II)Z"⟩, prog_1_method_48_code, 2, (some Jvm.ClassFile.FieldType.boolean), 11, 2, 4, 4),
  (⟨"EchoVale", "sounded", "(II)I"⟩, prog_1_method_11_code, 3, (some Jvm.ClassFile.FieldType.int), 11, 2, 4, 8),
  (⟨"EchoVale$Course", "logged", "(II)I"⟩, prog_3_method_7_code, 3, (some Jvm.ClassFile.FieldType.int), 1, 2, 4, 12),
  (⟨"EchoVale", "goes", "(II)Z"⟩, prog_1_method_12_code, 3, (some Jvm.ClassFile.FieldType.boolean), 11, 2, 4, 16),
  (⟨"EchoVale$Valley", "isCell", "(I)Z"⟩, prog_11_method_4_code, 2, (some Jvm.ClassFile.FieldType.boolean), 9, 1, 4, 20),
  (⟨"EchoVale$Undo", "keep", "(LEchoVale$Course;)V"⟩, prog_10_method_3_code, 2, none, 8, 1, 4, 24),
  (⟨"EchoVale$Course", "copyFrom", "(LEchoVale$Course;)V"⟩, prog_3_method_3_code, 2, none, 1, 1, 4, 28),
  (⟨"EchoVale$Course", "copyPlaces", "(LEchoVale$Course;)V"⟩, prog_3_method_4_code, 2, none, 1, 1, 4, 32),
  (⟨"EchoVale", "says", "(III)I"⟩, prog_1_method_13_code, 4, (some Jvm.ClassFile.FieldType.int), 11, 3, 4, 36),
  (⟨"EchoVale", "isLoud", "(I)Z"⟩, prog_1_method_46_code, 1, (some Jvm.ClassFile.FieldType.boolean), 11, 1, 4, 39),
  (⟨"EchoVale$Course", "isFull", "()Z"⟩, prog_3_method_5_code, 1, (some Jvm.ClassFile.FieldType.boolean), 1, 0, 4, 43),
  (⟨"EchoVale$Course", "speak", "(LEchoVale$Valley;III)I"⟩, prog_3_method_8_code, 6, (some Jvm.ClassFile.FieldType.int), 1, 4, 4, 47),
  (⟨"EchoVale$Valley", "lessFelt", "(II)I"⟩, prog_11_method_14_code, 3, (some Jvm.ClassFile.FieldType.int), 9, 2, 4, 51),
  (⟨"java/lang/Math", "max", "(II)I"⟩, prog_20_method_65_code, 2, (some Jvm.ClassFile.FieldType.int), 14, 2, 4, 55),
  (⟨"EchoVale$Course", "utter", "(LEchoVale$Valley;IIII)I"⟩, prog_3_method_9_code, 9, (some Jvm.ClassFile.FieldType.int), 1, 5, 4, 59)]
def zM2 : List (MethodName × ByteArray × Nat × Option FieldType × Nat × Nat × Nat × Nat) := [(⟨"java/util/Arrays", "fill", "([IIII)V"⟩, prog_29_method_104_code, 5, none, 15, 4, 4, 62),
  (⟨"java/util/Arrays", "rangeCheck", "(III)V"⟩, prog_29_method_30_code, 3, none, 15, 3, 4, 65),
  (⟨"EchoVale$Valley", "directly", "(III)I"⟩, prog_11_method_15_code, 5, (some Jvm.ClassFile.FieldType.int), 9, 3, 4, 69),
  (⟨"EchoVale$Valley", "distance", "(II)I"⟩, prog_11_method_5_code, 2, (some Jvm.ClassFile.FieldType.int), 9, 2, 4, 72),
  (⟨"java/lang/Math", "abs", "(I)I"⟩, prog_20_method_59_code, 1, (some Jvm.ClassFile.FieldType.int), 14, 1, 4, 75),
  (⟨"EchoVale$Course", "offer", "(LEchoVale$Valley;III)V"⟩, prog_3_method_10_code, 8, none, 1, 4, 4, 79),
  (⟨"EchoVale$Course", "findSoonest", "(I)V"⟩, prog_3_method_11_code, 4, none, 1, 1, 4, 83),
  (⟨"EchoVale", "on", "(I)I"⟩, prog_1_method_14_code, 2, (some Jvm.ClassFile.FieldType.int), 11, 1, 4, 88),
  (⟨"EchoVale$Course", "passHours", "(LEchoVale$Valley;I)I"⟩, prog_3_method_13_code, 4, (some Jvm.ClassFile.FieldType.int), 1, 2, 4, 92),
  (⟨"EchoVale$Course", "pass", "(LEchoVale$Valley;I)V"⟩, prog_3_method_14_code, 4, none, 1, 2, 4, 96),
  (⟨"EchoVale$Course", "giveBack", "(LEchoVale$Valley;II)V"⟩, prog_3_method_16_code, 7, none, 1, 3, 4, 100),
  (⟨"EchoVale$Valley", "snowAt", "(I)I"⟩, prog_11_method_13_code, 5, (some Jvm.ClassFile.FieldType.int), 9, 1, 4, 104),
  (⟨"EchoVale$Course", "sound", "(LEchoVale$Valley;III)V"⟩, prog_3_method_17_code, 8, none, 1, 4, 4, 109),
  (⟨"EchoVale$Valley", "hearersAt", "(II[I)I"⟩, prog_11_method_17_code, 6, (some Jvm.ClassFile.FieldType.int), 9, 3, 4, 113),
  (⟨"EchoVale$Course", "enterLog", "(IIII)V"⟩, prog_3_method_18_code, 6, none, 1, 4, 4, 117),
  (⟨"EchoVale$Valley", "onward", "(III)I"⟩, prog_11_method_16_code, 5, (some Jvm.ClassFile.FieldType.int), 9, 3, 4, 121),
  (⟨"EchoVale", "undo", "()I"⟩, prog_1_method_15_code, 1, (some Jvm.ClassFile.FieldType.int), 11, 0, 4, 125),
  (⟨"EchoVale$Undo", "takeBack", "(LEchoVale$Course;)Z"⟩, prog_10_method_4_code, 2, (some Jvm.ClassFile.FieldType.boolean), 8, 1, 4, 129),
  (⟨"EchoVale", "camp", "(II)I"⟩, prog_1_method_16_code, 7, (some Jvm.ClassFile.FieldType.int), 11, 2, 4, 133),
  (⟨"EchoVale", "isAhead", "(I)Z"⟩, prog_1_method_47_code, 1, (some Jvm.ClassFile.FieldType.boolean), 11, 1, 4, 136),
  (⟨"EchoVale", "wealthByCamping", "(III)I"⟩, prog_1_method_49_code, 4, (some Jvm.ClassFile.FieldType.int), 11, 3, 4, 140),
  (⟨"EchoVale$Course", "wealth", "(I)I"⟩, prog_3_method_20_code, 4, (some Jvm.ClassFile.FieldType.int), 1, 1, 4, 145),
  (⟨"EchoVale", "camping", "(III)I"⟩, prog_1_method_17_code, 4, (some Jvm.ClassFile.FieldType.int), 11, 3, 4, 150),
  (⟨"EchoVale", "has", "(III)I"⟩, prog_1_method_18_code, 4, (some Jvm.ClassFile.FieldType.int), 11, 3, 4, 154),
  (⟨"EchoVale", "areCamps", "(I)Z"⟩, prog_1_method_50_code, 2, (some Jvm.ClassFile.FieldType.boolean), 11, 1, 4, 158),
  (⟨"EchoVale$Valley", "campers", "()I"⟩, prog_11_method_18_code, 3, (some Jvm.ClassFile.FieldType.int), 9, 0, 4, 162),
  (⟨"EchoVale", "passByCamps", "(II)V"⟩, prog_1_method_51_code, 4, none, 11, 2, 4, 166),
  (⟨"EchoVale", "rests", "(II)I"⟩, prog_1_method_19_code, 5, (some Jvm.ClassFile.FieldType.int), 11, 2, 4, 171),
  (⟨"EchoVale", "keepOutcome", "(I)V"⟩, prog_1_method_52_code, 3, none, 11, 1, 4, 175),
  (⟨"EchoVale", "isRest", "(I)Z"⟩, prog_1_method_53_code, 5, (some Jvm.ClassFile.FieldType.boolean), 11, 1, 4, 179),
  (⟨"EchoVale", "tells", "(IIIII)I"⟩, prog_1_method_20_code, 8, (some Jvm.ClassFile.FieldType.int), 11, 5, 4, 183),
  (⟨"EchoVale", "passOneSaying", "(IIII)V"⟩, prog_1_method_54_code, 5, none, 11, 4, 4, 187),
  (⟨"EchoVale", "secret", "(II)I"⟩, prog_1_method_21_code, 4, (some Jvm.ClassFile.FieldType.int), 11, 2, 4, 193),
  (⟨"EchoVale", "next", "(I)I"⟩, prog_1_method_22_code, 3, (some Jvm.ClassFile.FieldType.int), 11, 1, 4, 197),
  (⟨"EchoVale", "heirs", "(II)I"⟩, prog_1_method_23_code, 3, (some Jvm.ClassFile.FieldType.int), 11, 2, 4, 202),
  (⟨"EchoVale", "when", "(III)I"⟩, prog_1_method_24_code, 5, (some Jvm.ClassFile.FieldType.int), 11, 3, 4, 206),
  (⟨"EchoVale", "meets", "(III)I"⟩, prog_1_method_25_code, 6, (some Jvm.ClassFile.FieldType.int), 11, 3, 4, 210),
  (⟨"EchoVale", "nearest", "(II)I"⟩, prog_1_method_26_code, 8, (some Jvm.ClassFile.FieldType.int), 11, 2, 4, 214),
  (⟨"EchoVale", "pieces", "()I"⟩, prog_1_method_27_code, 2, (some Jvm.ClassFile.FieldType.int), 11, 0, 4, 222),
  (⟨"EchoVale$Pieces", "take", "(LEchoVale$Reader;LEchoVale$Valley;)Z"⟩, prog_6_method_2_code, 5, (some Jvm.ClassFile.FieldType.boolean), 4, 2, 4, 226)]
def zM3 : List (MethodName × ByteArray × Nat × Option FieldType × Nat × Nat × Nat × Nat) := [(⟨"EchoVale$Pieces", "find", "(LEchoVale$Valley;LEchoVale$Course;)I"⟩, prog_6_method_3_code, 7, (some Jvm.ClassFile.FieldType.int), 4, 2, 4, 231),
  (⟨"EchoVale$Pieces", "canBegin", "(LEchoVale$Valley;I)Z"⟩, prog_6_method_5_code, 4, (some Jvm.ClassFile.FieldType.boolean), 4, 2, 4, 235),
  (⟨"EchoVale$Pieces", "canTake", "(LEchoVale$Valley;II)Z"⟩, prog_6_method_6_code, 6, (some Jvm.ClassFile.FieldType.boolean), 4, 3, 4, 238),
  (⟨"EchoVale$Pieces", "isWay", "(LEchoVale$Valley;LEchoVale$Course;III)Z"⟩, prog_6_method_7_code, 9, (some Jvm.ClassFile.FieldType.boolean), 4, 5, 5, 4),
  (⟨"EchoVale$Course", "leap", "(LEchoVale$Valley;I)Z"⟩, prog_3_method_15_code, 3, (some Jvm.ClassFile.FieldType.boolean), 1, 2, 5, 9),
  (⟨"EchoVale$Course", "isPending", "(I)Z"⟩, prog_3_method_12_code, 2, (some Jvm.ClassFile.FieldType.boolean), 1, 1, 5, 13),
  (⟨"EchoVale$Pieces", "isLogged", "(LEchoVale$Course;I)Z"⟩, prog_6_method_8_code, 4, (some Jvm.ClassFile.FieldType.boolean), 4, 2, 5, 17),
  (⟨"EchoVale$Pieces", "addWay", "(I)V"⟩, prog_6_method_4_code, 2, none, 4, 1, 5, 22),
  (⟨"EchoVale", "piece", "(I)I"⟩, prog_1_method_28_code, 2, (some Jvm.ClassFile.FieldType.int), 11, 1, 5, 26),
  (⟨"EchoVale", "claims", "()I"⟩, prog_1_method_29_code, 2, (some Jvm.ClassFile.FieldType.int), 11, 0, 5, 30),
  (⟨"EchoVale$ClaimsText", "readText", "(LEchoVale$Valley;LEchoVale$Course;)Z"⟩, prog_2_method_2_code, 4, (some Jvm.ClassFile.FieldType.boolean), 0, 2, 5, 34),
  (⟨"EchoVale$ClaimsText", "readLine", "(LEchoVale$Valley;LEchoVale$Course;I)Z"⟩, prog_2_method_3_code, 6, (some Jvm.ClassFile.FieldType.boolean), 0, 3, 5, 40),
  (⟨"EchoVale$ClaimsText", "isSo", "(LEchoVale$Course;III)Z"⟩, prog_2_method_4_code, 4, (some Jvm.ClassFile.FieldType.boolean), 0, 4, 5, 47),
  (⟨"EchoVale", "drawn", "(II)I"⟩, prog_1_method_30_code, 4, (some Jvm.ClassFile.FieldType.int), 11, 2, 5, 54),
  (⟨"EchoVale$Draws", "passHours", "(LEchoVale$Valley;LEchoVale$Course;II)I"⟩, prog_4_method_3_code, 7, (some Jvm.ClassFile.FieldType.int), 2, 4, 5, 58),
  (⟨"EchoVale$Draws", "draw", "(I)I"⟩, prog_4_method_2_code, 2, (some Jvm.ClassFile.FieldType.int), 2, 1, 5, 62),
  (⟨"EchoVale$Draws", "speak", "(LEchoVale$Valley;LEchoVale$Course;)V"⟩, prog_4_method_4_code, 6, none, 2, 2, 5, 68),
  (⟨"EchoVale", "storms", "(I)I"⟩, prog_1_method_31_code, 2, (some Jvm.ClassFile.FieldType.int), 11, 1, 5, 74),
  (⟨"EchoVale", "odds", "(III)I"⟩, prog_1_method_32_code, 7, (some Jvm.ClassFile.FieldType.int), 11, 3, 5, 78),
  (⟨"EchoVale", "poorest", "(I)I"⟩, prog_1_method_33_code, 7, (some Jvm.ClassFile.FieldType.int), 11, 1, 5, 82),
  (⟨"EchoVale", "reach", "(II)I"⟩, prog_1_method_34_code, 6, (some Jvm.ClassFile.FieldType.int), 11, 2, 5, 86),
  (⟨"EchoVale", "hears", "(II)I"⟩, prog_1_method_35_code, 3, (some Jvm.ClassFile.FieldType.int), 11, 2, 5, 90),
  (⟨"EchoVale", "write", "(I)I"⟩, prog_1_method_36_code, 3, (some Jvm.ClassFile.FieldType.int), 11, 1, 5, 95),
  (⟨"EchoVale", "putName", "(J)V"⟩, prog_1_method_56_code, 5, none, 11, 1, 5, 99),
  (⟨"EchoVale", "put", "(I)V"⟩, prog_1_method_55_code, 2, none, 11, 1, 5, 103),
  (⟨"EchoVale", "putNumber", "(I)V"⟩, prog_1_method_57_code, 2, none, 11, 1, 5, 107),
  (⟨"EchoVale", "byteAt", "(I)I"⟩, prog_1_method_37_code, 2, (some Jvm.ClassFile.FieldType.int), 11, 1, 5, 111),
  (⟨"EchoVale", "sentence", "()I"⟩, prog_1_method_38_code, 2, (some Jvm.ClassFile.FieldType.int), 11, 0, 5, 115),
  (⟨"EchoVale$SentenceText", "readText", "(LEchoVale$Valley;)Z"⟩, prog_9_method_2_code, 2, (some Jvm.ClassFile.FieldType.boolean), 7, 1, 5, 119),
  (⟨"EchoVale$SentenceText", "readCondition", "(LEchoVale$Valley;I)Z"⟩, prog_9_method_3_code, 4, (some Jvm.ClassFile.FieldType.boolean), 7, 2, 5, 125),
  (⟨"EchoVale$SentenceText", "readJoined", "(LEchoVale$Valley;I)Z"⟩, prog_9_method_4_code, 4, (some Jvm.ClassFile.FieldType.boolean), 7, 2, 5, 129),
  (⟨"EchoVale$SentenceText", "readOne", "(LEchoVale$Valley;I)Z"⟩, prog_9_method_5_code, 3, (some Jvm.ClassFile.FieldType.boolean), 7, 2, 5, 133),
  (⟨"EchoVale$Reader", "isWord", "(I)Z"⟩, prog_7_method_15_code, 2, (some Jvm.ClassFile.FieldType.boolean), 5, 1, 5, 141),
  (⟨"EchoVale$Sentence", "add", "(III)V"⟩, prog_8_method_4_code, 4, none, 6, 3, 5, 145),
  (⟨"EchoVale$SentenceText", "readPlain", "(LEchoVale$Valley;)Z"⟩, prog_9_method_6_code, 4, (some Jvm.ClassFile.FieldType.boolean), 7, 1, 5, 149),
  (⟨"EchoVale$Sentence", "copyFrom", "(LEchoVale$Sentence;)V"⟩, prog_8_method_3_code, 2, none, 6, 1, 5, 155),
  (⟨"EchoVale", "said", "(I)I"⟩, prog_1_method_39_code, 4, (some Jvm.ClassFile.FieldType.int), 11, 1, 5, 160),
  (⟨"EchoVale$Sentence", "holds", "(LEchoVale$Course;I)Z"⟩, prog_8_method_5_code, 6, (some Jvm.ClassFile.FieldType.boolean), 6, 2, 5, 164),
  (⟨"EchoVale$Sentence", "isSo", "(LEchoVale$Course;II)Z"⟩, prog_8_method_6_code, 6, (some Jvm.ClassFile.FieldType.boolean), 6, 3, 5, 168),
  (⟨"EchoVale$Sentence", "compares", "(III)Z"⟩, prog_8_method_7_code, 3, (some Jvm.ClassFile.FieldType.boolean), 6, 3, 5, 175)]
def zM4 : List (MethodName × ByteArray × Nat × Option FieldType × Nat × Nat × Nat × Nat) := [(⟨"EchoVale", "image", "(I)Z"⟩, prog_1_method_40_code, 2, (some Jvm.ClassFile.FieldType.boolean), 11, 1, 5, 179),
  (⟨"EchoVale", "restore", "(I)Z"⟩, prog_1_method_41_code, 2, (some Jvm.ClassFile.FieldType.boolean), 11, 1, 5, 183),
  (⟨"EchoVale", "count", "(I)I"⟩, prog_1_method_42_code, 2, (some Jvm.ClassFile.FieldType.int), 11, 1, 5, 187),
  (⟨"EchoVale", "cliff", "(II)I"⟩, prog_1_method_6_code, 3, (some Jvm.ClassFile.FieldType.int), 11, 2, 5, 196),
  (⟨"EchoVale", "person", "(II)I"⟩, prog_1_method_7_code, 3, (some Jvm.ClassFile.FieldType.int), 11, 2, 6, 28),
  (⟨"EchoVale$Course", "countWith", "(II)I"⟩, prog_3_method_21_code, 5, (some Jvm.ClassFile.FieldType.int), 1, 2, 6, 33),
  (⟨"EchoVale$Course", "countBy", "(I)I"⟩, prog_3_method_22_code, 4, (some Jvm.ClassFile.FieldType.int), 1, 1, 6, 37),
  (⟨"EchoVale", "saying", "(II)I"⟩, prog_1_method_8_code, 3, (some Jvm.ClassFile.FieldType.int), 11, 2, 6, 44),
  (⟨"EchoValeModel", "<init>", "()V"⟩, prog_14_method_1_code, 1, none, 12, 0, 6, 50),
  (⟨"EchoValeModel", "feed", "(IIIII)I"⟩, prog_14_method_5_code, 6, (some Jvm.ClassFile.FieldType.int), 12, 5, 6, 206),
  (⟨"EchoValeModel", "feed", "(IIIII)I"⟩, prog_14_method_5_code, 6, (some Jvm.ClassFile.FieldType.int), 12, 5, 6, 206),
  (⟨"EchoValeModel", "come", "(I)V"⟩, prog_14_method_4_code, 3, none, 12, 1, 6, 210),
  (⟨"EchoValeModel", "end", "(I)Z"⟩, prog_14_method_6_code, 2, (some Jvm.ClassFile.FieldType.boolean), 12, 1, 6, 214),
  (⟨"EchoValeModel", "valley", "()I"⟩, prog_14_method_41_code, 3, (some Jvm.ClassFile.FieldType.int), 12, 0, 6, 218),
  (⟨"EchoValeModel", "begin", "(I)V"⟩, prog_14_method_27_code, 2, none, 12, 1, 6, 222),
  (⟨"EchoValeModel", "take", "()I"⟩, prog_14_method_7_code, 2, (some Jvm.ClassFile.FieldType.int), 12, 0, 6, 226),
  (⟨"EchoValeModel", "go", "()V"⟩, prog_14_method_17_code, 5, none, 12, 0, 6, 230),
  (⟨"EchoValeModel", "isLetter", "(I)Z"⟩, prog_14_method_16_code, 1, (some Jvm.ClassFile.FieldType.boolean), 12, 1, 6, 233),
  (⟨"EchoValeModel", "isDigit", "(I)Z"⟩, prog_14_method_15_code, 1, (some Jvm.ClassFile.FieldType.boolean), 12, 1, 6, 236),
  (⟨"EchoValeModel", "tapeAt", "(I)I"⟩, prog_14_method_14_code, 2, (some Jvm.ClassFile.FieldType.int), 12, 1, 7, 0),
  (⟨"EchoValeModel", "readLine", "()Z"⟩, prog_14_method_40_code, 2, (some Jvm.ClassFile.FieldType.boolean), 12, 0, 7, 6),
  (⟨"EchoValeModel", "isWord", "(I)Z"⟩, prog_14_method_20_code, 2, (some Jvm.ClassFile.FieldType.boolean), 12, 1, 7, 10),
  (⟨"EchoValeModel", "wordOf", "(I)J"⟩, prog_14_method_19_code, 1, (some Jvm.ClassFile.FieldType.long), 12, 1, 7, 13),
  (⟨"EchoValeModel", "spelt", "(IIIIII)J"⟩, prog_14_method_18_code, 8, (some Jvm.ClassFile.FieldType.long), 12, 6, 7, 16),
  (⟨"EchoValeModel", "readLand", "()Z"⟩, prog_14_method_32_code, 1, (some Jvm.ClassFile.FieldType.boolean), 12, 0, 7, 20),
  (⟨"EchoValeModel", "bad", "(I)Z"⟩, prog_14_method_23_code, 2, (some Jvm.ClassFile.FieldType.boolean), 12, 1, 7, 24),
  (⟨"EchoValeModel", "readNumber", "(II)Z"⟩, prog_14_method_25_code, 3, (some Jvm.ClassFile.FieldType.boolean), 12, 2, 7, 28),
  (⟨"EchoValeModel", "isNumber", "(II)Z"⟩, prog_14_method_24_code, 3, (some Jvm.ClassFile.FieldType.boolean), 12, 2, 7, 32),
  (⟨"EchoValeModel", "isIn", "(III)Z"⟩, prog_14_method_8_code, 3, (some Jvm.ClassFile.FieldType.boolean), 12, 3, 7, 35),
  (⟨"EchoValeModel", "readCliff", "()Z"⟩, prog_14_method_33_code, 3, (some Jvm.ClassFile.FieldType.boolean), 12, 0, 7, 39),
  (⟨"EchoValeModel", "readNew", "(I)Z"⟩, prog_14_method_29_code, 2, (some Jvm.ClassFile.FieldType.boolean), 12, 1, 7, 43),
  (⟨"EchoValeModel", "isName", "()Z"⟩, prog_14_method_22_code, 2, (some Jvm.ClassFile.FieldType.boolean), 12, 0, 7, 47),
  (⟨"EchoValeModel", "findIn", "([JIIJ)I"⟩, prog_14_method_28_code, 6, (some Jvm.ClassFile.FieldType.int), 12, 4, 7, 50),
  (⟨"EchoValeModel", "holdCell", "()Z"⟩, prog_14_method_30_code, 2, (some Jvm.ClassFile.FieldType.boolean), 12, 0, 7, 54),
  (⟨"EchoValeModel", "readPerson", "()Z"⟩, prog_14_method_34_code, 2, (some Jvm.ClassFile.FieldType.boolean), 12, 0, 7, 58),
  (⟨"EchoValeModel", "readCell", "()Z"⟩, prog_14_method_31_code, 1, (some Jvm.ClassFile.FieldType.boolean), 12, 0, 7, 62),
  (⟨"EchoValeModel", "readMove", "()Z"⟩, prog_14_method_36_code, 3, (some Jvm.ClassFile.FieldType.boolean), 12, 0, 7, 66),
  (⟨"EchoValeModel", "isOne", "()Z"⟩, prog_14_method_35_code, 1, (some Jvm.ClassFile.FieldType.boolean), 12, 0, 7, 70),
  (⟨"EchoValeModel", "readCamp", "()Z"⟩, prog_14_method_37_code, 2, (some Jvm.ClassFile.FieldType.boolean), 12, 0, 7, 74),
  (⟨"EchoValeModel", "readFelt", "()Z"⟩, prog_14_method_38_code, 1, (some Jvm.ClassFile.FieldType.boolean), 12, 0, 7, 78)]
def zM5 : List (MethodName × ByteArray × Nat × Option FieldType × Nat × Nat × Nat × Nat) := [(⟨"EchoValeModel", "readSnow", "()Z"⟩, prog_14_method_39_code, 3, (some Jvm.ClassFile.FieldType.boolean), 12, 0, 7, 82),
  (⟨"EchoValeModel", "readEnd", "()Z"⟩, prog_14_method_26_code, 1, (some Jvm.ClassFile.FieldType.boolean), 12, 0, 7, 86),
  (⟨"EchoValeModel", "isSign", "(I)Z"⟩, prog_14_method_21_code, 2, (some Jvm.ClassFile.FieldType.boolean), 12, 1, 7, 90),
  (⟨"EchoValeModel", "fault", "()I"⟩, prog_14_method_42_code, 1, (some Jvm.ClassFile.FieldType.int), 12, 0, 7, 94),
  (⟨"EchoValeModel", "cliff", "(II)I"⟩, prog_14_method_52_code, 4, (some Jvm.ClassFile.FieldType.int), 12, 2, 7, 98),
  (⟨"EchoValeModel", "isCliff", "(I)Z"⟩, prog_14_method_43_code, 2, (some Jvm.ClassFile.FieldType.boolean), 12, 1, 7, 102),
  (⟨"EchoValeModel", "refuse", "()I"⟩, prog_14_method_3_code, 1, (some Jvm.ClassFile.FieldType.int), 12, 0, 7, 106),
  (⟨"EchoValeModel", "strength", "(I)I"⟩, prog_14_method_49_code, 2, (some Jvm.ClassFile.FieldType.int), 12, 1, 7, 110),
  (⟨"EchoValeModel", "snowAt", "(I)I"⟩, prog_14_method_51_code, 6, (some Jvm.ClassFile.FieldType.int), 12, 1, 7, 114),
  (⟨"EchoValeModel", "person", "(II)I"⟩, prog_14_method_55_code, 5, (some Jvm.ClassFile.FieldType.int), 12, 2, 7, 118),
  (⟨"EchoValeModel", "isPerson", "(I)Z"⟩, prog_14_method_44_code, 2, (some Jvm.ClassFile.FieldType.boolean), 12, 1, 7, 122),
  (⟨"EchoValeModel", "hasAll", "(I)I"⟩, prog_14_method_54_code, 4, (some Jvm.ClassFile.FieldType.int), 12, 1, 7, 126),
  (⟨"EchoValeModel", "shareOf", "(II)I"⟩, prog_14_method_53_code, 6, (some Jvm.ClassFile.FieldType.int), 12, 2, 7, 130),
  (⟨"EchoValeModel", "of", "(II)I"⟩, prog_14_method_50_code, 3, (some Jvm.ClassFile.FieldType.int), 12, 2, 7, 134),
  (⟨"EchoValeModel", "has", "(II)Z"⟩, prog_14_method_9_code, 2, (some Jvm.ClassFile.FieldType.boolean), 12, 2, 7, 137),
  (⟨"EchoValeModel", "bits", "(I)I"⟩, prog_14_method_10_code, 3, (some Jvm.ClassFile.FieldType.int), 12, 1, 7, 140),
  (⟨"EchoValeModel", "saying", "(II)I"⟩, prog_14_method_56_code, 3, (some Jvm.ClassFile.FieldType.int), 12, 2, 7, 144),
  (⟨"EchoValeModel", "isSaying", "(I)Z"⟩, prog_14_method_45_code, 2, (some Jvm.ClassFile.FieldType.boolean), 12, 1, 7, 148),
  (⟨"EchoValeModel", "comes", "(III)I"⟩, prog_14_method_57_code, 4, (some Jvm.ClassFile.FieldType.int), 12, 3, 7, 152),
  (⟨"EchoValeModel", "comesAt", "(III)I"⟩, prog_14_method_58_code, 4, (some Jvm.ClassFile.FieldType.int), 12, 3, 7, 156),
  (⟨"EchoValeModel", "share", "(II)I"⟩, prog_14_method_59_code, 3, (some Jvm.ClassFile.FieldType.int), 12, 2, 7, 160),
  (⟨"EchoValeModel", "sounded", "(II)I"⟩, prog_14_method_60_code, 3, (some Jvm.ClassFile.FieldType.int), 12, 2, 7, 164),
  (⟨"EchoValeModel", "undo", "()I"⟩, prog_14_method_70_code, 2, (some Jvm.ClassFile.FieldType.int), 12, 0, 7, 168),
  (⟨"EchoValeModel", "goes", "(II)Z"⟩, prog_14_method_73_code, 3, (some Jvm.ClassFile.FieldType.boolean), 12, 2, 7, 172),
  (⟨"EchoValeModel", "isAt", "(I)Z"⟩, prog_14_method_46_code, 2, (some Jvm.ClassFile.FieldType.boolean), 12, 1, 7, 176),
  (⟨"EchoValeModel", "snap", "()V"⟩, prog_14_method_69_code, 2, none, 12, 0, 7, 180),
  (⟨"EchoValeModel", "says", "(III)I"⟩, prog_14_method_74_code, 4, (some Jvm.ClassFile.FieldType.int), 12, 3, 7, 184),
  (⟨"EchoValeModel", "sayIt", "(III)I"⟩, prog_14_method_63_code, 9, (some Jvm.ClassFile.FieldType.int), 12, 3, 7, 188),
  (⟨"EchoValeModel", "loudAt", "(II)I"⟩, prog_14_method_62_code, 4, (some Jvm.ClassFile.FieldType.int), 12, 2, 7, 192),
  (⟨"EchoValeModel", "cliffAt", "(I)I"⟩, prog_14_method_47_code, 2, (some Jvm.ClassFile.FieldType.int), 12, 1, 7, 196),
  (⟨"EchoValeModel", "apart", "(II)I"⟩, prog_14_method_13_code, 2, (some Jvm.ClassFile.FieldType.int), 12, 2, 7, 199),
  (⟨"EchoValeModel", "size", "(I)I"⟩, prog_14_method_12_code, 1, (some Jvm.ClassFile.FieldType.int), 12, 1, 7, 202),
  (⟨"EchoValeModel", "delay", "(I)I"⟩, prog_14_method_48_code, 2, (some Jvm.ClassFile.FieldType.int), 12, 1, 7, 206),
  (⟨"EchoValeModel", "comeTo", "(IIII)V"⟩, prog_14_method_61_code, 7, none, 12, 4, 7, 210),
  (⟨"EchoValeModel", "on", "(I)I"⟩, prog_14_method_75_code, 2, (some Jvm.ClassFile.FieldType.int), 12, 1, 7, 214),
  (⟨"EchoValeModel", "passHours", "(I)I"⟩, prog_14_method_68_code, 3, (some Jvm.ClassFile.FieldType.int), 12, 1, 7, 218),
  (⟨"EchoValeModel", "pass", "(I)V"⟩, prog_14_method_67_code, 7, none, 12, 1, 7, 222),
  (⟨"EchoValeModel", "moveAll", "(I)V"⟩, prog_14_method_66_code, 3, none, 12, 1, 7, 226),
  (⟨"EchoValeModel", "least", "(II)I"⟩, prog_14_method_11_code, 2, (some Jvm.ClassFile.FieldType.int), 12, 2, 7, 229),
  (⟨"EchoValeModel", "sound", "(III)V"⟩, prog_14_method_65_code, 10, none, 12, 3, 7, 233)]
def zM6 : List (MethodName × ByteArray × Nat × Option FieldType × Nat × Nat × Nat × Nat) := [(⟨"EchoValeModel", "hearersOf", "(II)I"⟩, prog_14_method_64_code, 5, (some Jvm.ClassFile.FieldType.int), 12, 2, 7, 237),
  (⟨"EchoValeModel", "camp", "(II)I"⟩, prog_14_method_78_code, 7, (some Jvm.ClassFile.FieldType.int), 12, 2, 8, 1),
  (⟨"EchoValeModel", "isTime", "(I)Z"⟩, prog_14_method_76_code, 1, (some Jvm.ClassFile.FieldType.boolean), 12, 1, 8, 4),
  (⟨"EchoValeModel", "campingBy", "(III)I"⟩, prog_14_method_77_code, 5, (some Jvm.ClassFile.FieldType.int), 12, 3, 8, 8),
  (⟨"EchoValeModel", "layAside", "()V"⟩, prog_14_method_71_code, 2, none, 12, 0, 8, 12),
  (⟨"EchoValeModel", "layBack", "()V"⟩, prog_14_method_72_code, 2, none, 12, 0, 8, 16),
  (⟨"EchoValeModel", "camping", "(III)I"⟩, prog_14_method_79_code, 4, (some Jvm.ClassFile.FieldType.int), 12, 3, 8, 20),
  (⟨"EchoValeModel", "has", "(III)I"⟩, prog_14_method_82_code, 4, (some Jvm.ClassFile.FieldType.int), 12, 3, 8, 24),
  (⟨"EchoValeModel", "campers", "()I"⟩, prog_14_method_80_code, 3, (some Jvm.ClassFile.FieldType.int), 12, 0, 8, 28),
  (⟨"EchoValeModel", "layHas", "(II)V"⟩, prog_14_method_81_code, 4, none, 12, 2, 8, 32),
  (⟨"EchoValeModel", "rests", "(II)I"⟩, prog_14_method_84_code, 6, (some Jvm.ClassFile.FieldType.int), 12, 2, 8, 36),
  (⟨"EchoValeModel", "isRest", "(II)Z"⟩, prog_14_method_83_code, 4, (some Jvm.ClassFile.FieldType.boolean), 12, 2, 8, 40),
  (⟨"EchoValeModel", "tells", "(IIIII)I"⟩, prog_14_method_85_code, 10, (some Jvm.ClassFile.FieldType.int), 12, 5, 8, 44),
  (⟨"EchoValeModel", "secret", "(II)I"⟩, prog_14_method_86_code, 6, (some Jvm.ClassFile.FieldType.int), 12, 2, 8, 48),
  (⟨"EchoValeModel", "next", "(I)I"⟩, prog_14_method_87_code, 4, (some Jvm.ClassFile.FieldType.int), 12, 1, 8, 52),
  (⟨"EchoValeModel", "heirs", "(II)I"⟩, prog_14_method_88_code, 4, (some Jvm.ClassFile.FieldType.int), 12, 2, 8, 56),
  (⟨"EchoValeModel", "when", "(III)I"⟩, prog_14_method_89_code, 7, (some Jvm.ClassFile.FieldType.int), 12, 3, 8, 60),
  (⟨"EchoValeModel", "meets", "(III)I"⟩, prog_14_method_90_code, 6, (some Jvm.ClassFile.FieldType.int), 12, 3, 8, 64),
  (⟨"EchoValeModel", "nearest", "(II)I"⟩, prog_14_method_92_code, 7, (some Jvm.ClassFile.FieldType.int), 12, 2, 8, 68),
  (⟨"EchoValeModel", "wouldCome", "(III)I"⟩, prog_14_method_91_code, 4, (some Jvm.ClassFile.FieldType.int), 12, 3, 8, 72),
  (⟨"EchoValeModel", "reach", "(II)I"⟩, prog_14_method_93_code, 5, (some Jvm.ClassFile.FieldType.int), 12, 2, 8, 76),
  (⟨"EchoValeModel", "hears", "(II)I"⟩, prog_14_method_94_code, 3, (some Jvm.ClassFile.FieldType.int), 12, 2, 8, 80),
  (⟨"EchoValeModel", "pieces", "()I"⟩, prog_14_method_99_code, 5, (some Jvm.ClassFile.FieldType.int), 12, 0, 8, 84),
  (⟨"EchoValeModel", "takePieces", "()Z"⟩, prog_14_method_98_code, 3, (some Jvm.ClassFile.FieldType.boolean), 12, 0, 8, 88),
  (⟨"EchoValeModel", "soundAll", "(III)V"⟩, prog_14_method_96_code, 10, none, 12, 3, 8, 92),
  (⟨"EchoValeModel", "cometh", "(III)V"⟩, prog_14_method_95_code, 4, none, 12, 3, 8, 96),
  (⟨"EchoValeModel", "allSound", "()Z"⟩, prog_14_method_97_code, 2, (some Jvm.ClassFile.FieldType.boolean), 12, 0, 8, 100),
  (⟨"EchoValeModel", "piece", "(I)I"⟩, prog_14_method_100_code, 2, (some Jvm.ClassFile.FieldType.int), 12, 1, 8, 104),
  (⟨"EchoValeModel", "claims", "()I"⟩, prog_14_method_102_code, 1, (some Jvm.ClassFile.FieldType.int), 12, 0, 8, 108),
  (⟨"EchoValeModel", "readClaim", "()Z"⟩, prog_14_method_101_code, 5, (some Jvm.ClassFile.FieldType.boolean), 12, 0, 8, 112),
  (⟨"EchoValeModel", "drawn", "(II)I"⟩, prog_14_method_105_code, 4, (some Jvm.ClassFile.FieldType.int), 12, 2, 8, 116),
  (⟨"EchoValeModel", "drawnBy", "(II)I"⟩, prog_14_method_104_code, 8, (some Jvm.ClassFile.FieldType.int), 12, 2, 8, 120),
  (⟨"EchoValeModel", "draw", "(I)I"⟩, prog_14_method_103_code, 2, (some Jvm.ClassFile.FieldType.int), 12, 1, 8, 124),
  (⟨"EchoValeModel", "storms", "(I)I"⟩, prog_14_method_106_code, 2, (some Jvm.ClassFile.FieldType.int), 12, 1, 8, 129),
  (⟨"EchoValeModel", "odds", "(III)I"⟩, prog_14_method_107_code, 7, (some Jvm.ClassFile.FieldType.int), 12, 3, 8, 133),
  (⟨"EchoValeModel", "poorest", "(I)I"⟩, prog_14_method_108_code, 4, (some Jvm.ClassFile.FieldType.int), 12, 1, 8, 137),
  (⟨"EchoValeModel", "write", "(I)I"⟩, prog_14_method_111_code, 7, (some Jvm.ClassFile.FieldType.int), 12, 1, 8, 141),
  (⟨"EchoValeModel", "put", "(I)V"⟩, prog_14_method_109_code, 2, none, 12, 1, 8, 145),
  (⟨"EchoValeModel", "putNumber", "(I)V"⟩, prog_14_method_110_code, 2, none, 12, 1, 8, 149),
  (⟨"EchoValeModel", "byteAt", "(I)I"⟩, prog_14_method_112_code, 2, (some Jvm.ClassFile.FieldType.int), 12, 1, 8, 153)]
def zM7 : List (MethodName × ByteArray × Nat × Option FieldType × Nat × Nat × Nat × Nat) := [(⟨"EchoValeModel", "sentence", "()I"⟩, prog_14_method_121_code, 2, (some Jvm.ClassFile.FieldType.int), 12, 0, 8, 157),
  (⟨"EchoValeModel", "readOr", "()Z"⟩, prog_14_method_114_code, 2, (some Jvm.ClassFile.FieldType.boolean), 12, 0, 8, 161),
  (⟨"EchoValeModel", "readAnd", "()Z"⟩, prog_14_method_115_code, 2, (some Jvm.ClassFile.FieldType.boolean), 12, 0, 8, 165),
  (⟨"EchoValeModel", "readOne", "()Z"⟩, prog_14_method_116_code, 4, (some Jvm.ClassFile.FieldType.boolean), 12, 0, 8, 169),
  (⟨"EchoValeModel", "readBracket", "()Z"⟩, prog_14_method_118_code, 1, (some Jvm.ClassFile.FieldType.boolean), 12, 0, 8, 173),
  (⟨"EchoValeModel", "readNot", "()Z"⟩, prog_14_method_117_code, 1, (some Jvm.ClassFile.FieldType.boolean), 12, 0, 8, 177),
  (⟨"EchoValeModel", "saysOne", "(IIII)I"⟩, prog_14_method_113_code, 6, (some Jvm.ClassFile.FieldType.int), 12, 4, 8, 181),
  (⟨"EchoValeModel", "readOf", "(I)Z"⟩, prog_14_method_119_code, 3, (some Jvm.ClassFile.FieldType.boolean), 12, 1, 8, 185),
  (⟨"EchoValeModel", "readCompare", "(I)Z"⟩, prog_14_method_120_code, 3, (some Jvm.ClassFile.FieldType.boolean), 12, 1, 8, 189),
  (⟨"EchoValeModel", "said", "(I)I"⟩, prog_14_method_124_code, 4, (some Jvm.ClassFile.FieldType.int), 12, 1, 8, 193),
  (⟨"EchoValeModel", "holds", "(II)Z"⟩, prog_14_method_123_code, 8, (some Jvm.ClassFile.FieldType.boolean), 12, 2, 8, 197),
  (⟨"EchoValeModel", "isLost", "(I)Z"⟩, prog_14_method_122_code, 3, (some Jvm.ClassFile.FieldType.boolean), 12, 1, 8, 201),
  (⟨"EchoValeModel", "image", "(I)Z"⟩, prog_14_method_125_code, 3, (some Jvm.ClassFile.FieldType.boolean), 12, 1, 8, 205),
  (⟨"EchoValeModel", "restore", "(I)Z"⟩, prog_14_method_126_code, 3, (some Jvm.ClassFile.FieldType.boolean), 12, 1, 8, 209),
  (⟨"EchoValeModel", "count", "(I)I"⟩, prog_14_method_127_code, 2, (some Jvm.ClassFile.FieldType.int), 12, 1, 8, 213)]
def zMs : List (MethodName × ByteArray × Nat × Option FieldType × Nat × Nat × Nat × Nat) := zM0 ++ (zM1 ++ (zM2 ++ (zM3 ++ (zM4 ++ (zM5 ++ (zM6 ++ (zM7)))))))
end
