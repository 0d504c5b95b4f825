section
/-! ===== BEGIN words of one list among another's, by their places ===== -/
theorem goodIn_r {big : List Cond} (ws : List Cond) (ps : List Nat) (hp : ws = ps.filterMap (fun i => big[i]?)) (h : ws.all goodWord = true) : GoodIn big ws := by
  intro w hw
  have h1 := List.all_eq_true.mp h w hw
  rw [hp] at hw
  obtain ⟨i, -, hi⟩ := List.mem_filterMap.mp hw
  have hm : w ∈ big := by first | exact List.mem_of_getElem? hi | exact List.getElem?_mem hi
  exact ⟨hm, good_of_word h1⟩
theorem goodIn_app {big a b : List Cond} (ha : GoodIn big a) (hb : GoodIn big b) : GoodIn big (a ++ b) := fun w h => (List.mem_append.mp h).elim (ha w) (hb w)
theorem goodIn_ca {big a b : List Cond} {c : Cond} (ha : GoodIn big (c :: a)) (hb : GoodIn big b) : GoodIn big (c :: (a ++ b)) := fun w h => (List.mem_cons.mp h).elim (fun e => ha w (List.mem_cons.mpr (Or.inl e))) (fun h => (List.mem_append.mp h).elim (fun h => ha w (List.mem_cons.mpr (Or.inr h))) (hb w))
theorem goodIn_sub {big ws : List Cond} (hm : ∀ w ∈ ws, w ∈ big) (h : ws.all goodWord = true) : GoodIn big ws := fun w hw => ⟨hm w hw, good_of_word (List.all_eq_true.mp h w hw)⟩
/-! ===== END ===== -/

/-! ===== BEGIN exceptions that leave a method, and their catching by the caller (launches without stack traces) ===== -/
section VXA
/-! The laws vx_back, vx_callV, vx_callS, vx_callSW, vx_throw0, vx_throwS follow proofs of the library, with one case more: JvmDerived/Free/Laws.lean (Back.of_free), Shelf42/LK1.lean (callV, callS), Shelf/KitTraced.lean (throwNew0V, throwNewS). -/
/-- where a method has thrown q: the class by its name, the cell, what was written, the world -/
def vx_T (XC : String → State → State → Prop) (st : State) (q : Addr) (t : State) (mc ms : Nat) (free : Addr → Prop) : Prop :=
  ∃ (E : String) (ce : Cell) (L : List Loc), XC E st t ∧ t.heap[q]? = some ce ∧ ce.vm = .none ∧ st.vm.findClass E = some ce.cls ∧ st.WarmedH t.vm ∧ st.sameButNew ({ t with vm := st.vm } : State) L mc ms ∧ ∀ z ∈ L, free z.base
def vx_Q (Qc : Array Value → State → Outcome → State → Prop) (XC : String → State → State → Prop) (mc ms : Nat) (free : Addr → Prop) : Array Value → State → Outcome → State → Prop := fun a st o t =>
  (Qc a st o t ∧ ∃ L, FrameEnd st o t L mc ms ∧ ∀ q ∈ L, free q.base) ∨ ∃ q, o = .threw q ∧ vx_T XC st q t mc ms free
/-- a callee that returns or throws -/
def vx_Met (l : Launch) (y : MethodName) (ws : List Cond) (rm : Room) (Pc : Array Value → State → Prop) (Qc : Array Value → State → Outcome → State → Prop) (XC : String → State → State → Prop) (mc ms : Nat) (free : Addr → Prop) : Prop :=
  MetFree l y (headSpec ws rm) Pc (fun _ _ _ _ _ => True) (vx_Q Qc XC mc ms free)
def vx_Post (XC : String → State → State → Prop) (mc ms : Nat) (free : Addr → Prop) : Pt → Array Value → Addr → Pt → Prop := fun A a q B =>
  ∃ (g : JFrame) (mk : MethodId) (t : State) (L : List Loc) (E : String) (ce : Cell), B.U.heap = t.heap ∧ B.U.vm = t.vm ∧ XC E (A.U.calling g mk a) t ∧ t.heap[q]? = some ce ∧ ce.vm = .none ∧ A.U.vm.findClass E = some ce.cls ∧ B.locs = A.locs ++ L ∧ (∀ z ∈ L, free z.base) ∧ B.cells = A.cells + mc ∧ B.slots = A.slots + ms
def vx_Back (l : Launch) (R : Room) (p : Program) (e : Env) (below : List Frame) (s : State) (sargs : Array Value) (y : MethodName) (len W9 : Nat)
    (Pre : Pt → Array Value → Prop) (Post : Pt → Array Value → Option Value → Pt → Prop) (PostX : Pt → Array Value → Addr → Pt → Prop) : Prop :=
  ∀ (m : MethodId) (meth : Method) (c : Code) (A : Pt) (g : JFrame) (ig : Instr) (mk : MethodId) (a : Array Value),
    Stand p l e R s m sargs below meth c A.U A.locs A.cells A.slots → g.method = m → g.locals.size = c.maxLocals → decode c.code g.pc = .ok (ig, len) →
    2 * g.monitorRoom + (g.stack.map fun v => v.category).sum ≤ W9 → A.U.methodNamed? y = some mk → Pre A a →
    (∃ (v : Option Value) (B : Pt), Stand p l e R s m sargs below meth c B.U B.locs B.cells B.slots ∧ Post A a v B ∧
      Steps p.tables e below (doInvoke e (A.U.setTop g) [] mk a).1 (B.U.setTop { g with pc := g.pc + len, stack := v.toList ++ g.stack })) ∨
    (∃ (q : Addr) (B : Pt), Stand p l e R s m sargs below meth c B.U B.locs B.cells B.slots ∧ PostX A a q B ∧
      Steps p.tables e below (doInvoke e (A.U.setTop g) [] mk a).1 ((B.U.setTop g).pushFrame (.throwing q)))
section Payer
variable {l : Launch} {R : Room} {p : Program} {e : Env} {below : List Frame} {s : State} {sargs : Array Value} {y : MethodName} {len W9 : Nat}
theorem vx_back {ws : List Cond} {rm : Room} {Pc : Array Value → State → Prop} {Qc : Array Value → State → Outcome → State → Prop} {XC : String → State → State → Prop} {mc ms : Nat} {free : Addr → Prop} {bytes : ByteArray} {maxL : Nat} {ret : Option FieldType}
    (hM : vx_Met l y ws rm Pc Qc XC mc ms free) (hblind : FrameBlind Pc) (hrc : rm.cells = mc) (hrs : rm.slots = ms)
    (hframes : rm.frames + 1 ≤ R.frames) (hlocals : W9 + (maxL + 11) + rm.locals ≤ R.locals)
    (hws : ∀ w ∈ ws, ∀ a' U, s.WarmedH U.vm → w.before a' U = true) (hcode : Cond.code y bytes maxL ret ∈ ws) (hinit : ∀ a' U, s.WarmedH U.vm → (Cond.initialized y.cls).before a' U = true) :
    vx_Back l R p e below s sargs y len W9 (PreOf R mc ms Pc) (PostOf Qc mc ms free) (vx_Post XC mc ms free) := by
  intro m meth c A g ig mk a X hg hsize hdg hW hn hp
  have h1 : (headSpec ws rm).pre.before a A.U = true := atoms_intro fun w hw => hws w hw _ _ X.warmed
  have h2 : (Cond.code y bytes maxL ret).before a A.U = true := hws _ hcode _ _ X.warmed
  have h3 : (Cond.initialized y.cls).before a A.U = true := hinit _ _ X.warmed
  have h4 : A.cells + (headSpec ws rm).room.cells ≤ R.cells := by rw [show (headSpec ws rm).room.cells = mc from hrc]; exact hp.1
  have h5 : A.slots + (headSpec ws rm).room.slots ≤ R.slots := by rw [show (headSpec ws rm).room.slots = ms from hrs]; exact hp.2.1
  have hPc : Pc a (A.U.calling g mk a) := hblind _ _ _ _ hp.2.2
  obtain ⟨U, Ls, c0, s0⟩ := A
  dsimp only [Pt.U, Pt.locs, Pt.cells, Pt.slots] at h1 h2 h3 h4 h5 X hn hPc ⊢
  obtain ⟨methY, cY, hmY, hcY, -, hlY, -, -, -, -⟩ := Cond.code_spec hn h2
  obtain ⟨kY, hkY, -⟩ := className_of_methodNamed hn
  have hinitY : kY.init = .initialized := Cond.initialized_spec (findClass_of_methodNamed hn) hkY h3
  have h : At U g.method c below := by rw [hg]; exact X.here
  have hlocals9 : W9 + (maxL + 11) + (headSpec ws rm).room.locals ≤ R.locals := hlocals
  have happ : (headSpec ws rm).appliesLoose y e.platform (U.calling g mk a) = true :=
    Spec.appliesLoose_calling (g := g) h hdg hn hkY hinitY
      (X.room_calling (g := g) (R' := (headSpec ws rm).room) hsize hmY hcY hframes (by rw [hlY]; omega) h4 h5) h1
  obtain ⟨mid, hmid⟩ := h.above
  have hfr : (U.setTop g).frames = (.java g :: mid) ++ below := by rw [State.frames_setTop' g h.top, hmid]; rfl
  obtain ⟨o, s₂, hsteps, -, hend, hq⟩ := Steps.callFree hM p X.admits X.cas X.clock (acts := []) hfr happ hPc trivial
  have hq' : vx_Q Qc XC mc ms free a (U.calling g mk a) o s₂ := hq
  rw [State.frames_setTop' g h.top] at hend
  obtain ⟨g₀, hg0⟩ := Option.isSome_iff_exists.mp h.top
  obtain ⟨r, hr⟩ := State.topJava?_eq_some.mp hg0
  have hr' : (({ U with heap := s₂.heap, slotsUsed := s₂.slotsUsed } : State).setVm s₂.vm).frames = .java g₀ :: r := hr
  rcases hq' with ⟨hqc, L, hfe, hL⟩ | ⟨q, rfl, E, ce, L, hx, hce, hcv, hcl, hW₂, hsm, hL⟩
  · obtain ⟨⟨v, rfl⟩, hW₂, e2, q2, q3, q4, q5, q6⟩ := id hfe
    have e3 : s₂ = ({ (U.calling g mk a).setFrames s₂.frames with heap := s₂.heap, slotsUsed := s₂.slotsUsed } : State).setVm s₂.vm := by
      have : s₂ = ({ s₂ with vm := (U.calling g mk a).vm } : State).setVm s₂.vm := rfl
      rw [e2] at this
      exact this
    obtain ⟨c₂, i₂, len₂, hc₂, hd₂, hf₂⟩ := hend
    have hW' : U.WarmedH s₂.vm := hW₂
    have hcc : c₂ = c := by
      have h1 : s₂.code? g.method = U.code? g.method := by
        rw [State.code?_eq, State.code?_eq, hW'.alike.method?]
      exact Option.some.inj (hc₂.symm.trans (h1.trans h.code))
    subst hcc
    have hlen : len₂ = len := by rw [hdg] at hd₂; cases hd₂; rfl
    subst hlen
    have hs₂ : s₂ = (({ U with heap := s₂.heap, slotsUsed := s₂.slotsUsed } : State).setVm s₂.vm).setTop { g with pc := g.pc + len₂, stack := v.toList ++ g.stack } := by
      refine e3.trans ?_
      rw [hf₂, State.calling_eq h.top, State.setFrames_setFrames, State.setTop_of_frames _ hr', hr]
      rfl
    have hsame : U.sameButNew ({ U with heap := s₂.heap, slotsUsed := s₂.slotsUsed } : State) L mc ms := by
      refine ⟨?_, q2, q3, q4, q5, q6⟩
      obtain ⟨t, ht, -⟩ := State.frames_cons hr
      show ({ U with heap := s₂.heap, slotsUsed := s₂.slotsUsed } : State) = { U.setFrames U.frames with heap := s₂.heap, slotsUsed := s₂.slotsUsed }
      rw [State.setFrames_self ht]
    subst hg
    refine Or.inl ⟨v, ⟨(({ U with heap := s₂.heap, slotsUsed := s₂.slotsUsed } : State).setVm s₂.vm), Ls ++ L, c0 + mc, s0 + ms⟩,
      ⟨X.admits, X.cas, X.clock, X.frames, X.room, X.hears, X.method, X.code, (X.here.setHeapUsed s₂.heap s₂.slotsUsed).setVm hW'.alike, X.tail, State.WarmedH.trans X.warmed hW', X.limits, X.bytes, X.same.trans (hsame.setVm s.vm)⟩,
      ⟨g, mk, s₂, L, rfl, rfl, hqc, rfl, hL, rfl, rfl⟩, ?_⟩
    show Steps p.tables e below _ ((({ U with heap := s₂.heap, slotsUsed := s₂.slotsUsed } : State).setVm s₂.vm).setTop { g with pc := g.pc + len₂, stack := v.toList ++ g.stack })
    rw [← hs₂]
    exact hsteps
  · obtain ⟨e2, q2, q3, q4, q5, q6⟩ := id hsm
    have e3 : s₂ = ({ (U.calling g mk a).setFrames s₂.frames with heap := s₂.heap, slotsUsed := s₂.slotsUsed } : State).setVm s₂.vm := by
      have : s₂ = ({ s₂ with vm := (U.calling g mk a).vm } : State).setVm s₂.vm := rfl
      rw [e2] at this
      exact this
    have hf₂ : s₂.frames = .throwing q :: .java g :: U.frames.tail := hend
    have hW' : U.WarmedH s₂.vm := hW₂
    have hs₂ : s₂ = ((({ U with heap := s₂.heap, slotsUsed := s₂.slotsUsed } : State).setVm s₂.vm).setTop g).pushFrame (.throwing q) := by
      refine e3.trans ?_
      rw [hf₂, State.calling_eq h.top, State.setFrames_setFrames, State.pushFrame, State.frames_setTop _ hr', State.setTop_of_frames _ hr', State.setFrames_setFrames, hr]
      rfl
    have hsame : U.sameButNew ({ U with heap := s₂.heap, slotsUsed := s₂.slotsUsed } : State) L mc ms := by
      refine ⟨?_, q2, q3, q4, q5, q6⟩
      obtain ⟨t, ht, -⟩ := State.frames_cons hr
      show ({ U with heap := s₂.heap, slotsUsed := s₂.slotsUsed } : State) = { U.setFrames U.frames with heap := s₂.heap, slotsUsed := s₂.slotsUsed }
      rw [State.setFrames_self ht]
    subst hg
    refine Or.inr ⟨q, ⟨(({ U with heap := s₂.heap, slotsUsed := s₂.slotsUsed } : State).setVm s₂.vm), Ls ++ L, c0 + mc, s0 + ms⟩,
      ⟨X.admits, X.cas, X.clock, X.frames, X.room, X.hears, X.method, X.code, (X.here.setHeapUsed s₂.heap s₂.slotsUsed).setVm hW'.alike, X.tail, State.WarmedH.trans X.warmed hW', X.limits, X.bytes, X.same.trans (hsame.setVm s.vm)⟩,
      ⟨g, mk, s₂, L, E, ce, rfl, rfl, hx, hce, hcv, hcl, rfl, hL, rfl, rfl⟩, ?_⟩
    show Steps p.tables e below _ (((({ U with heap := s₂.heap, slotsUsed := s₂.slotsUsed } : State).setVm s₂.vm).setTop g).pushFrame (.throwing q))
    rw [← hs₂]
    exact hsteps
end Payer
section Calls
variable {p : Program} {l : Launch} {e : Env} {R : Room} {s : State} {m : MethodId} {args : Array Value} {below : List Frame} {meth : Method} {c : Code} {T : State} {locs : List Loc} {cells slots : Nat}
theorem vx_callV (X : Stand p l e R s m args below meth c T locs cells slots) (hexec : p.tables.exec = Jvm.exec) {own C : String} {index : Nat} {y : MethodName} {bytes : ByteArray} {maxL : Nat} {ret : Option FieldType}
    (hown : s.vm.findClass own = some m.cls) (hlink : (Cond.methodLink own index y).before args s = true) (hinst : (Cond.instanceMethod y).before args s = true) (hsel : (Cond.selects C y y).before args s = true)
    (hcode : (Cond.code y bytes maxL ret).before args s = true) (hy : y.cls ≠ "java/lang/invoke/MethodHandle" ∧ y.cls ≠ "java/lang/invoke/VarHandle")
    {W9 : Nat} {Pre : Pt → Array Value → Prop} {Post : Pt → Array Value → Option Value → Pt → Prop} {PostX : Pt → Array Value → Addr → Pt → Prop} (hK : vx_Back l R p e below s args y 3 W9 Pre Post PostX)
    {b : Addr} {cellB : Cell} (hcell : T.heap[b]? = some cellB) (hobj : cellB.vm.isStatics = false) (hcls : s.vm.findClass C = some cellB.cls)
    {g : JFrame} (hg : g.method = m) (hsize : g.locals.size = c.maxLocals) {argsL rest : List Value} (hlen : ∀ sig, parseMethodDescriptor y.desc = some sig → argsL.length = sig.parameters.length)
    (hstack : g.stack = argsL.reverse ++ .ref b :: rest) (hW : 2 * g.monitorRoom + (rest.map fun v => v.category).sum ≤ W9) (hdg : decode c.code g.pc = .ok (.invokevirtual index, 3))
    (hpre : ∀ vm₁, s.WarmedH vm₁ → Pre ⟨T.setVm vm₁, locs, cells, slots⟩ (Value.ref b :: argsL).toArray) :
    (∃ (v : Option Value) (vm₁ : Vm) (B : Pt), s.WarmedH vm₁ ∧ Stand p l e R s m args below meth c B.U B.locs B.cells B.slots ∧ Post ⟨T.setVm vm₁, locs, cells, slots⟩ (Value.ref b :: argsL).toArray v B ∧
      ∀ target, Steps p.tables e below (B.U.setTop { g with pc := g.pc + 3, stack := v.toList ++ rest }) target → Steps p.tables e below (T.setTop g) target) ∨
    (∃ (q : Addr) (vm₁ : Vm) (B : Pt), s.WarmedH vm₁ ∧ Stand p l e R s m args below meth c B.U B.locs B.cells B.slots ∧ PostX ⟨T.setVm vm₁, locs, cells, slots⟩ (Value.ref b :: argsL).toArray q B ∧
      Steps p.tables e below (T.setTop g) ((B.U.setTop { g with stack := rest }).pushFrame (.throwing q))) := by
  obtain ⟨mk, methM, hnamed, hmethM, hstM, habM⟩ := Cond.instanceMethod_spec hinst
  obtain ⟨methM', cM, hmethM', -, -, -, -, -, -, hsigM⟩ := Cond.code_spec hnamed hcode
  cases hmethM.symm.trans hmethM'
  obtain ⟨c2, r2, m2, q1, q2, q3, q4, kP, hkP, hkPi⟩ := Cond.selects_spec hsel
  cases hcls.symm.trans q1
  cases (State.methodFound?_of_named hnamed hy).symm.trans q2
  cases hnamed.symm.trans q3
  have hselP : selectMethod e.platform s.vm cellB.cls mk = .method mk := by rw [Launch.admits_selectMethod X.admits]; exact q4
  obtain ⟨vm₁, X₁, hstep₁⟩ := X.invokevirtual hexec hown hlink hnamed hmethM hstM hkP hkPi hy (a := b) (cell := cellB) hcell
    (fun z h => by rw [h] at hobj; cases hobj) hselP hmethM habM hkP hkPi (g := g) hg (argsL := argsL) (rest := rest) (hlen _ hsigM) hstack hdg
  rcases hK m meth c ⟨T.setVm vm₁, locs, cells, slots⟩ { g with stack := rest } (.invokevirtual index) mk (Value.ref b :: argsL).toArray X₁ hg hsize hdg hW (X₁.named hnamed) (hpre vm₁ X₁.warmed) with ⟨v, B, X', hpost, hsteps⟩ | ⟨q, B, X', hpost, hsteps⟩
  · exact Or.inl ⟨v, vm₁, B, X₁.warmed, X', hpost, fun target h => hstep₁ _ fun acts => by rw [doInvoke_state]; exact hsteps.trans h⟩
  · exact Or.inr ⟨q, vm₁, B, X₁.warmed, X', hpost, hstep₁ _ fun acts => by rw [doInvoke_state]; exact hsteps⟩
theorem vx_callS (X : Stand p l e R s m args below meth c T locs cells slots) (hexec : p.tables.exec = Jvm.exec) {own : String} {index : Nat} {y : MethodName} {bytes : ByteArray} {maxL : Nat} {ret : Option FieldType}
    (hown : s.vm.findClass own = some m.cls) (hlink : (Cond.methodLink own index y).before args s = true) (hstat : (Cond.static y).before args s = true) (hinit : (Cond.initialized y.cls).before args s = true)
    (hcode : (Cond.code y bytes maxL ret).before args s = true) (hy : y.cls ≠ "java/lang/invoke/MethodHandle" ∧ y.cls ≠ "java/lang/invoke/VarHandle")
    {W9 : Nat} {Pre : Pt → Array Value → Prop} {Post : Pt → Array Value → Option Value → Pt → Prop} {PostX : Pt → Array Value → Addr → Pt → Prop} (hK : vx_Back l R p e below s args y 3 W9 Pre Post PostX)
    {g : JFrame} (hg : g.method = m) (hsize : g.locals.size = c.maxLocals) {argsL rest : List Value} (hlen : ∀ sig, parseMethodDescriptor y.desc = some sig → argsL.length = sig.parameters.length)
    (hstack : g.stack = argsL.reverse ++ rest) (hW : 2 * g.monitorRoom + (rest.map fun v => v.category).sum ≤ W9) (hdg : decode c.code g.pc = .ok (.invokestatic index, 3))
    (hpre : ∀ vm₁, s.WarmedH vm₁ → Pre ⟨T.setVm vm₁, locs, cells, slots⟩ argsL.toArray) :
    (∃ (v : Option Value) (vm₁ : Vm) (B : Pt), s.WarmedH vm₁ ∧ Stand p l e R s m args below meth c B.U B.locs B.cells B.slots ∧ Post ⟨T.setVm vm₁, locs, cells, slots⟩ argsL.toArray v B ∧
      ∀ target, Steps p.tables e below (B.U.setTop { g with pc := g.pc + 3, stack := v.toList ++ rest }) target → Steps p.tables e below (T.setTop g) target) ∨
    (∃ (q : Addr) (vm₁ : Vm) (B : Pt), s.WarmedH vm₁ ∧ Stand p l e R s m args below meth c B.U B.locs B.cells B.slots ∧ PostX ⟨T.setVm vm₁, locs, cells, slots⟩ argsL.toArray q B ∧
      Steps p.tables e below (T.setTop g) ((B.U.setTop { g with stack := rest }).pushFrame (.throwing q))) := by
  obtain ⟨mk, hnamed⟩ := Cond.code_named hcode
  obtain ⟨methM, cM, hmethM, -, -, -, -, -, -, hsigM⟩ := Cond.code_spec hnamed hcode
  have hstatic : methM.isStatic = true := Cond.static_spec hnamed hmethM hstat
  obtain ⟨kP, hkP, -⟩ := className_of_methodNamed hnamed
  have hinitP : kP.init = .initialized := Cond.initialized_spec (findClass_of_methodNamed hnamed) hkP hinit
  obtain ⟨vm₁, X₁, hstep₁⟩ := X.invokestatic hexec hown hlink hnamed hmethM hstatic hkP hinitP hy (g := g) hg (argsL := argsL) (rest := rest) (hlen _ hsigM) hstack hdg
  rcases hK m meth c ⟨T.setVm vm₁, locs, cells, slots⟩ { g with stack := rest } (.invokestatic index) mk argsL.toArray X₁ hg hsize hdg hW (X₁.named hnamed) (hpre vm₁ X₁.warmed) with ⟨v, B, X', hpost, hsteps⟩ | ⟨q, B, X', hpost, hsteps⟩
  · exact Or.inl ⟨v, vm₁, B, X₁.warmed, X', hpost, fun target h => hstep₁ _ fun acts => by rw [doInvoke_state]; exact hsteps.trans h⟩
  · exact Or.inr ⟨q, vm₁, B, X₁.warmed, X', hpost, hstep₁ _ fun acts => by rw [doInvoke_state]; exact hsteps⟩
end Calls
theorem vx_cls {s : State} {T : State} {vm₁ : Vm} {E : String} {k : ClassId} (hW : s.WarmedH vm₁) (h : (T.setVm vm₁).vm.findClass E = some k) : s.vm.findClass E = some k := by
  have h1 : vm₁.findClass E = some k := h
  rw [hW.alike.findClass] at h1
  exact h1
/-- the method's frame g, with q thrown over it -/
def vx_W (p : Program) (l : Launch) (e : Env) (R : Room) (s : State) (m : MethodId) (args : Array Value) (below : List Frame) (meth : Method) (c : Code) (H : Heap) (locs : List Loc) (cells slots : Nat) (Q : State → Prop) (g : JFrame) (q : Addr) : Prop :=
  ∀ T : State, T.heap = H → Stand p l e R s m args below meth c T locs cells slots → ∃ t, Steps p.tables e below ((T.setTop g).pushFrame (.throwing q)) t ∧ Q t
def vx_Run (p : Program) (l : Launch) (e : Env) (R : Room) (s : State) (m : MethodId) (args : Array Value) (below : List Frame) (meth : Method) (c : Code) (H : Heap) (locs : List Loc) (cells slots mc ms : Nat) (g : JFrame) (rest : List Value) (Qa : State → Outcome → State → Prop) (XC : String → State → State → Prop) (free : Addr → Prop) : Prop :=
  ∀ T : State, T.heap = H → Stand p l e R s m args below meth c T locs cells slots →
    (∃ (v : Option Value) (st₀ t T' : State) (L : List Loc), st₀.heap = H ∧ Stand p l e R s m args below meth c T' (locs ++ L) (cells + mc) (slots + ms) ∧ (∀ q ∈ L, free q.base) ∧ T'.heap = t.heap ∧ T'.vm = t.vm ∧ Qa st₀ (.returned v) t ∧
      Goes p e below T g T' { g with pc := g.pc + 3, stack := v.toList ++ rest }) ∨
    (∃ (q : Addr) (st₀ t T' : State) (L : List Loc) (E : String) (ce : Cell), st₀.heap = H ∧ Stand p l e R s m args below meth c T' (locs ++ L) (cells + mc) (slots + ms) ∧ (∀ z ∈ L, free z.base) ∧ T'.heap = t.heap ∧ T'.vm = t.vm ∧ XC E st₀ t ∧ t.heap[q]? = some ce ∧ ce.vm = .none ∧ s.vm.findClass E = some ce.cls ∧
      Steps p.tables e below (T.setTop g) ((T'.setTop { g with stack := rest }).pushFrame (.throwing q)))
def vx_X {S : Type} (px : S → Prop) (B : String → S → State → Prop) (A : Nat → Prop) : String → State → State → Prop := fun E st t => ∃ u : S, px u ∧ B E u t ∧ va_F A st t
section Runs
variable {p : Program} {l : Launch} {e : Env} {R : Room} {s : State} {m : MethodId} {args : Array Value} {below : List Frame} {meth : Method} {c : Code} {H : Heap} {locs : List Loc} {cells slots : Nat}
variable {y : MethodName} {bytes cc : ByteArray} {maxL nL mc ms n index : Nat} {ret : Option FieldType} {ws : List Cond} {rm : Room} {Pc : Array Value → State → Prop} {Qc : Array Value → State → Outcome → State → Prop} {XC : String → State → State → Prop} {free : Addr → Prop} {Ts : List Cond} {own C : String} {b : Addr} {As rest : List Value} {g : JFrame}
theorem vx_callBack (cb : CallB R s args own index y bytes maxL ret ws rm mc ms n) (hM : vx_Met l y ws rm Pc Qc XC mc ms free) (hbl : FrameBlind Pc) : vx_Back l R p e below s args y 3 8 (PreOf R mc ms Pc) (PostOf Qc mc ms free) (vx_Post XC mc ms free) := by
  obtain ⟨hrc, hrs, hfr, hlo, hws, hcw, -, hini, -⟩ := cb
  exact vx_back (bytes := bytes) (maxL := maxL) (ret := ret) hM hbl hrc hrs hfr hlo hws hcw (fun a' U hW => word_at hW (Or.inl (by first | rfl | simp [Cond.onTables, Cond.keeps, Cond.steady])) hini)
theorem vx_runV (S : CallFix p m c cc nL s args Ts own) (hM : vx_Met l y ws rm Pc Qc XC mc ms free) (cw : CallW R s args own C index y bytes maxL ret ws rm mc ms n) (hp : PreV s H C b Pc As)
    (hg : g.method = m) (hn : As.length = n) (hsize : g.locals.size = nL) (hstack : g.stack = As.reverse ++ .ref b :: rest) (hW : 2 * g.monitorRoom + (rest.map fun v => v.category).sum ≤ 8) (hdg : decode cc g.pc = .ok (.invokevirtual index, 3)) (hf : cells + mc ≤ R.cells ∧ slots + ms ≤ R.slots) :
    vx_Run p l e R s m args below meth c H locs cells slots mc ms g rest (Qc (Value.ref b :: As).toArray) XC free := by
  have hK : vx_Back l R p e below s args y 3 8 (PreOf R mc ms Pc) (PostOf Qc mc ms free) (vx_Post XC mc ms free) := vx_callBack cw.1 hM hp.1
  obtain ⟨⟨-, -, -, -, -, -, hcode, -, hy, hlen, hl⟩, hin, hse⟩ := cw
  obtain ⟨hx, hb, hml, ho, -⟩ := S
  obtain ⟨-, ⟨cellB, hcB, hoB, hclB⟩, hPc⟩ := hp
  intro T hT X
  rcases vx_callV X hx (C := C) (bytes := bytes) (maxL := maxL) (ret := ret) ho hl hin hse hcode hy hK (by rw [hT]; exact hcB) hoB hclB hg (hsize.trans hml.symm) (argsL := As) (rest := rest) (fun sig h => hn.trans (hlen sig h)) hstack hW (by rw [hb]; exact hdg)
    (fun vm₁ hW₁ => ⟨hf.1, hf.2, hPc (T.setVm vm₁) hT hW₁⟩) with ⟨v, vm₁, ⟨U', l2, c2, s2⟩, hW₁, X', ⟨g', mk, t, L, e1, e2, hq, h1, hL, h2, h3⟩, st⟩ | ⟨q, vm₁, ⟨U', l2, c2, s2⟩, hW₁, X', ⟨g', mk, t, L, E, ce, e1, e2, hq, hce, hcv, hcl, h1, hL, h2, h3⟩, st⟩
  · dsimp only [Pt.U, Pt.locs, Pt.cells, Pt.slots] at X' e1 e2 h1 h2 h3 st
    subst h1; subst h2; subst h3
    exact Or.inl ⟨v, (T.setVm vm₁).calling g' mk (Value.ref b :: As).toArray, t, U', L, hT, X', hL, e1, e2, hq, st⟩
  · dsimp only [Pt.U, Pt.locs, Pt.cells, Pt.slots] at X' e1 e2 h1 h2 h3 st hcl
    subst h1; subst h2; subst h3
    exact Or.inr ⟨q, (T.setVm vm₁).calling g' mk (Value.ref b :: As).toArray, t, U', L, E, ce, hT, X', hL, e1, e2, hq, hce, hcv, vx_cls hW₁ hcl, st⟩
theorem vx_runS (S : CallFix p m c cc nL s args Ts own) (hM : vx_Met l y ws rm Pc Qc XC mc ms free) (cw : CallB R s args own index y bytes maxL ret ws rm mc ms n ∧ (Cond.static y).before args s = true) (hp : PreS s H Pc As)
    (hg : g.method = m) (hn : As.length = n) (hsize : g.locals.size = nL) (hstack : g.stack = As.reverse ++ rest) (hW : 2 * g.monitorRoom + (rest.map fun v => v.category).sum ≤ 8) (hdg : decode cc g.pc = .ok (.invokestatic index, 3)) (hf : cells + mc ≤ R.cells ∧ slots + ms ≤ R.slots) :
    vx_Run p l e R s m args below meth c H locs cells slots mc ms g rest (Qc As.toArray) XC free := by
  have hK : vx_Back l R p e below s args y 3 8 (PreOf R mc ms Pc) (PostOf Qc mc ms free) (vx_Post XC mc ms free) := vx_callBack cw.1 hM hp.1
  obtain ⟨⟨-, -, -, -, -, -, hcode, hini, hy, hlen, hl⟩, hstt⟩ := cw
  obtain ⟨hx, hb, hml, ho, -⟩ := S
  intro T hT X
  rcases vx_callS X hx (bytes := bytes) (maxL := maxL) (ret := ret) ho hl hstt hini hcode hy hK hg (hsize.trans hml.symm) (argsL := As) (rest := rest) (fun sig h => hn.trans (hlen sig h)) hstack hW (by rw [hb]; exact hdg)
    (fun vm₁ hW₁ => ⟨hf.1, hf.2, hp.2 (T.setVm vm₁) hT hW₁⟩) with ⟨v, vm₁, ⟨U', l2, c2, s2⟩, hW₁, X', ⟨g', mk, t, L, e1, e2, hq, h1, hL, h2, h3⟩, st⟩ | ⟨q, vm₁, ⟨U', l2, c2, s2⟩, hW₁, X', ⟨g', mk, t, L, E, ce, e1, e2, hq, hce, hcv, hcl, h1, hL, h2, h3⟩, st⟩
  · dsimp only [Pt.U, Pt.locs, Pt.cells, Pt.slots] at X' e1 e2 h1 h2 h3 st
    subst h1; subst h2; subst h3
    exact Or.inl ⟨v, (T.setVm vm₁).calling g' mk As.toArray, t, U', L, hT, X', hL, e1, e2, hq, st⟩
  · dsimp only [Pt.U, Pt.locs, Pt.cells, Pt.slots] at X' e1 e2 h1 h2 h3 st hcl
    subst h1; subst h2; subst h3
    exact Or.inr ⟨q, (T.setVm vm₁).calling g' mk As.toArray, t, U', L, E, ce, hT, X', hL, e1, e2, hq, hce, hcv, vx_cls hW₁ hcl, st⟩
end Runs
section Rows
variable {p : Program} {l : Launch} {e : Env} {R : Room} {s : State} {m : MethodId} {args : Array Value} {below : List Frame} {meth : Method} {c : Code} {H : Heap} {locs : List Loc} {cells slots : Nat} {Q : State → Prop}
variable {mc ms : Nat} {free : Addr → Prop} {A0 A1 : Nat → Prop} {H0 : Heap} {a : Array Value} {pc : Nat} {ls : Array Slot} {st0 rest : List Value}
theorem vx_keep {st₀ t T' : State} {L : List Loc} (h0 : st₀.heap = H) (e1 : T'.heap = t.heap) (hS : va_S A0 H0 H locs) (hA : ∀ q, q < H.size → A1 q → A0 q) (hf : ∀ q, free q → A0 q) (hL : ∀ q ∈ L, free q.base) (hF : va_F A1 st₀ t) :
    H.size ≤ T'.heap.size ∧ (∀ q : Nat, q < H.size → ¬ A1 q → T'.heap[q]? = H[q]?) ∧ va_S A0 H0 T'.heap (locs ++ L) := by
  obtain ⟨hz, hk⟩ := hF
  rw [h0] at hz hk
  exact ⟨by rw [e1]; exact hz, fun q h1 h2 => by rw [e1]; exact hk q h1 h2,
    ⟨Nat.le_trans hS.1 (by rw [e1]; exact hz), fun q h1 h2 => by rw [e1, hk q (Nat.lt_of_lt_of_le h1 hS.1) (fun z => h2 (hA q (Nat.lt_of_lt_of_le h1 hS.1) z))]; exact hS.2.1 q h1 h2, fun q hq => by
      rcases List.mem_append.mp hq with h | h
      · exact hS.2.2 q h
      · exact hf _ (hL q h)⟩⟩
theorem vx_calli {S SX : Type} {post : Int32 → S → Prop} {px : SX → Prop} {B : S → State → Prop} {BX : String → SX → State → Prop} {AX : Nat → Prop} (hr : vx_Run p l e R s m args below meth c H locs cells slots mc ms (F0 m pc ls st0) rest (va_Qi post B A1 a) (vx_X px BX AX) free) (hS : va_S A0 H0 H locs) (hA : ∀ q, q < H.size → A1 q → A0 q) (hf : ∀ q, free q → A0 q) (hAX : ∀ q, q < H.size → AX q → A0 q)
    (kx : ∀ (E : String) (ce : Cell) (q9 : Addr) (u : SX) (t : State) (H1 : Heap) (locs1 : List Loc), t.heap = H1 → s.vm.Alike t.vm → px u → BX E u t → H.size ≤ H1.size → (∀ q : Nat, q < H.size → ¬ AX q → H1[q]? = H[q]?) → va_S A0 H0 H1 locs1 → H1[q9]? = some ce → ce.vm = .none → s.vm.findClass E = some ce.cls → vx_W p l e R s m args below meth c H1 locs1 (cells + mc) (slots + ms) Q (F0 m pc ls rest) q9)
    (kk : ∀ (r : Int32) (u : S) (t : State) (H1 : Heap) (locs1 : List Loc), t.heap = H1 → s.vm.Alike t.vm → post r u → B u t → H.size ≤ H1.size → (∀ q : Nat, q < H.size → ¬ A1 q → H1[q]? = H[q]?) → va_S A0 H0 H1 locs1 → W p l e R s m args below meth c H1 locs1 (cells + mc) (slots + ms) Q (F0 m (pc + 3) ls (.int r :: rest))) : W p l e R s m args below meth c H locs cells slots Q (F0 m pc ls st0) := by
  intro T hT X
  rcases hr T hT X with ⟨v, st₀, t, T', L, h0, X', hL, e1, e2, ⟨⟨r, u, hv, hp, hb⟩, hF⟩, st⟩ | ⟨q, st₀, t, T', L, E, ce, h0, X', hL, e1, e2, ⟨u, hp, hb, hF⟩, hce, hcv, hcl, st⟩
  · cases hv
    obtain ⟨k1, k2, k3⟩ := vx_keep h0 e1 hS hA hf hL hF
    obtain ⟨t2, a1, b1⟩ := kk r u t T'.heap (locs ++ L) e1.symm (by rw [← e2]; exact X'.warmed.alike) hp hb k1 k2 k3 T' rfl X'
    exact ⟨t2, st t2 a1, b1⟩
  · obtain ⟨k1, k2, k3⟩ := vx_keep h0 e1 hS hAX hf hL hF
    obtain ⟨t2, a1, b1⟩ := kx E ce q u t T'.heap (locs ++ L) e1.symm (by rw [← e2]; exact X'.warmed.alike) hp hb k1 k2 k3 (by rw [e1]; exact hce) hcv hcl T' rfl X'
    exact ⟨t2, st.trans a1, b1⟩
theorem vx_calll {S SX : Type} {post : Int64 → S → Prop} {px : SX → Prop} {B : S → State → Prop} {BX : String → SX → State → Prop} {AX : Nat → Prop} (hr : vx_Run p l e R s m args below meth c H locs cells slots mc ms (F0 m pc ls st0) rest (va_Ql post B A1 a) (vx_X px BX AX) free) (hS : va_S A0 H0 H locs) (hA : ∀ q, q < H.size → A1 q → A0 q) (hf : ∀ q, free q → A0 q) (hAX : ∀ q, q < H.size → AX q → A0 q)
    (kx : ∀ (E : String) (ce : Cell) (q9 : Addr) (u : SX) (t : State) (H1 : Heap) (locs1 : List Loc), t.heap = H1 → s.vm.Alike t.vm → px u → BX E u t → H.size ≤ H1.size → (∀ q : Nat, q < H.size → ¬ AX q → H1[q]? = H[q]?) → va_S A0 H0 H1 locs1 → H1[q9]? = some ce → ce.vm = .none → s.vm.findClass E = some ce.cls → vx_W p l e R s m args below meth c H1 locs1 (cells + mc) (slots + ms) Q (F0 m pc ls rest) q9)
    (kk : ∀ (r : Int64) (u : S) (t : State) (H1 : Heap) (locs1 : List Loc), t.heap = H1 → s.vm.Alike t.vm → post r u → B u t → H.size ≤ H1.size → (∀ q : Nat, q < H.size → ¬ A1 q → H1[q]? = H[q]?) → va_S A0 H0 H1 locs1 → W p l e R s m args below meth c H1 locs1 (cells + mc) (slots + ms) Q (F0 m (pc + 3) ls (.long r :: rest))) : W p l e R s m args below meth c H locs cells slots Q (F0 m pc ls st0) := by
  intro T hT X
  rcases hr T hT X with ⟨v, st₀, t, T', L, h0, X', hL, e1, e2, ⟨⟨r, u, hv, hp, hb⟩, hF⟩, st⟩ | ⟨q, st₀, t, T', L, E, ce, h0, X', hL, e1, e2, ⟨u, hp, hb, hF⟩, hce, hcv, hcl, st⟩
  · cases hv
    obtain ⟨k1, k2, k3⟩ := vx_keep h0 e1 hS hA hf hL hF
    obtain ⟨t2, a1, b1⟩ := kk r u t T'.heap (locs ++ L) e1.symm (by rw [← e2]; exact X'.warmed.alike) hp hb k1 k2 k3 T' rfl X'
    exact ⟨t2, st t2 a1, b1⟩
  · obtain ⟨k1, k2, k3⟩ := vx_keep h0 e1 hS hAX hf hL hF
    obtain ⟨t2, a1, b1⟩ := kx E ce q u t T'.heap (locs ++ L) e1.symm (by rw [← e2]; exact X'.warmed.alike) hp hb k1 k2 k3 (by rw [e1]; exact hce) hcv hcl T' rfl X'
    exact ⟨t2, st.trans a1, b1⟩
theorem vx_callf {S SX : Type} {post : UInt32 → S → Prop} {px : SX → Prop} {B : S → State → Prop} {BX : String → SX → State → Prop} {AX : Nat → Prop} (hr : vx_Run p l e R s m args below meth c H locs cells slots mc ms (F0 m pc ls st0) rest (va_Qf post B A1 a) (vx_X px BX AX) free) (hS : va_S A0 H0 H locs) (hA : ∀ q, q < H.size → A1 q → A0 q) (hf : ∀ q, free q → A0 q) (hAX : ∀ q, q < H.size → AX q → A0 q)
    (kx : ∀ (E : String) (ce : Cell) (q9 : Addr) (u : SX) (t : State) (H1 : Heap) (locs1 : List Loc), t.heap = H1 → s.vm.Alike t.vm → px u → BX E u t → H.size ≤ H1.size → (∀ q : Nat, q < H.size → ¬ AX q → H1[q]? = H[q]?) → va_S A0 H0 H1 locs1 → H1[q9]? = some ce → ce.vm = .none → s.vm.findClass E = some ce.cls → vx_W p l e R s m args below meth c H1 locs1 (cells + mc) (slots + ms) Q (F0 m pc ls rest) q9)
    (kk : ∀ (r : UInt32) (u : S) (t : State) (H1 : Heap) (locs1 : List Loc), t.heap = H1 → s.vm.Alike t.vm → post r u → B u t → H.size ≤ H1.size → (∀ q : Nat, q < H.size → ¬ A1 q → H1[q]? = H[q]?) → va_S A0 H0 H1 locs1 → W p l e R s m args below meth c H1 locs1 (cells + mc) (slots + ms) Q (F0 m (pc + 3) ls (.float r :: rest))) : W p l e R s m args below meth c H locs cells slots Q (F0 m pc ls st0) := by
  intro T hT X
  rcases hr T hT X with ⟨v, st₀, t, T', L, h0, X', hL, e1, e2, ⟨⟨r, u, hv, hp, hb⟩, hF⟩, st⟩ | ⟨q, st₀, t, T', L, E, ce, h0, X', hL, e1, e2, ⟨u, hp, hb, hF⟩, hce, hcv, hcl, st⟩
  · cases hv
    obtain ⟨k1, k2, k3⟩ := vx_keep h0 e1 hS hA hf hL hF
    obtain ⟨t2, a1, b1⟩ := kk r u t T'.heap (locs ++ L) e1.symm (by rw [← e2]; exact X'.warmed.alike) hp hb k1 k2 k3 T' rfl X'
    exact ⟨t2, st t2 a1, b1⟩
  · obtain ⟨k1, k2, k3⟩ := vx_keep h0 e1 hS hAX hf hL hF
    obtain ⟨t2, a1, b1⟩ := kx E ce q u t T'.heap (locs ++ L) e1.symm (by rw [← e2]; exact X'.warmed.alike) hp hb k1 k2 k3 (by rw [e1]; exact hce) hcv hcl T' rfl X'
    exact ⟨t2, st.trans a1, b1⟩
theorem vx_calld {S SX : Type} {post : UInt64 → S → Prop} {px : SX → Prop} {B : S → State → Prop} {BX : String → SX → State → Prop} {AX : Nat → Prop} (hr : vx_Run p l e R s m args below meth c H locs cells slots mc ms (F0 m pc ls st0) rest (va_Qd post B A1 a) (vx_X px BX AX) free) (hS : va_S A0 H0 H locs) (hA : ∀ q, q < H.size → A1 q → A0 q) (hf : ∀ q, free q → A0 q) (hAX : ∀ q, q < H.size → AX q → A0 q)
    (kx : ∀ (E : String) (ce : Cell) (q9 : Addr) (u : SX) (t : State) (H1 : Heap) (locs1 : List Loc), t.heap = H1 → s.vm.Alike t.vm → px u → BX E u t → H.size ≤ H1.size → (∀ q : Nat, q < H.size → ¬ AX q → H1[q]? = H[q]?) → va_S A0 H0 H1 locs1 → H1[q9]? = some ce → ce.vm = .none → s.vm.findClass E = some ce.cls → vx_W p l e R s m args below meth c H1 locs1 (cells + mc) (slots + ms) Q (F0 m pc ls rest) q9)
    (kk : ∀ (r : UInt64) (u : S) (t : State) (H1 : Heap) (locs1 : List Loc), t.heap = H1 → s.vm.Alike t.vm → post r u → B u t → H.size ≤ H1.size → (∀ q : Nat, q < H.size → ¬ A1 q → H1[q]? = H[q]?) → va_S A0 H0 H1 locs1 → W p l e R s m args below meth c H1 locs1 (cells + mc) (slots + ms) Q (F0 m (pc + 3) ls (.double r :: rest))) : W p l e R s m args below meth c H locs cells slots Q (F0 m pc ls st0) := by
  intro T hT X
  rcases hr T hT X with ⟨v, st₀, t, T', L, h0, X', hL, e1, e2, ⟨⟨r, u, hv, hp, hb⟩, hF⟩, st⟩ | ⟨q, st₀, t, T', L, E, ce, h0, X', hL, e1, e2, ⟨u, hp, hb, hF⟩, hce, hcv, hcl, st⟩
  · cases hv
    obtain ⟨k1, k2, k3⟩ := vx_keep h0 e1 hS hA hf hL hF
    obtain ⟨t2, a1, b1⟩ := kk r u t T'.heap (locs ++ L) e1.symm (by rw [← e2]; exact X'.warmed.alike) hp hb k1 k2 k3 T' rfl X'
    exact ⟨t2, st t2 a1, b1⟩
  · obtain ⟨k1, k2, k3⟩ := vx_keep h0 e1 hS hAX hf hL hF
    obtain ⟨t2, a1, b1⟩ := kx E ce q u t T'.heap (locs ++ L) e1.symm (by rw [← e2]; exact X'.warmed.alike) hp hb k1 k2 k3 (by rw [e1]; exact hce) hcv hcl T' rfl X'
    exact ⟨t2, st.trans a1, b1⟩
theorem vx_callv {S SX : Type} {post : S → Prop} {px : SX → Prop} {B : S → State → Prop} {BX : String → SX → State → Prop} {AX : Nat → Prop} (hr : vx_Run p l e R s m args below meth c H locs cells slots mc ms (F0 m pc ls st0) rest (va_Qv post B A1 a) (vx_X px BX AX) free) (hS : va_S A0 H0 H locs) (hA : ∀ q, q < H.size → A1 q → A0 q) (hf : ∀ q, free q → A0 q) (hAX : ∀ q, q < H.size → AX q → A0 q)
    (kx : ∀ (E : String) (ce : Cell) (q9 : Addr) (u : SX) (t : State) (H1 : Heap) (locs1 : List Loc), t.heap = H1 → s.vm.Alike t.vm → px u → BX E u t → H.size ≤ H1.size → (∀ q : Nat, q < H.size → ¬ AX q → H1[q]? = H[q]?) → va_S A0 H0 H1 locs1 → H1[q9]? = some ce → ce.vm = .none → s.vm.findClass E = some ce.cls → vx_W p l e R s m args below meth c H1 locs1 (cells + mc) (slots + ms) Q (F0 m pc ls rest) q9)
    (kk : ∀ (u : S) (t : State) (H1 : Heap) (locs1 : List Loc), t.heap = H1 → s.vm.Alike t.vm → post u → B u t → H.size ≤ H1.size → (∀ q : Nat, q < H.size → ¬ A1 q → H1[q]? = H[q]?) → va_S A0 H0 H1 locs1 → W p l e R s m args below meth c H1 locs1 (cells + mc) (slots + ms) Q (F0 m (pc + 3) ls (rest))) : W p l e R s m args below meth c H locs cells slots Q (F0 m pc ls st0) := by
  intro T hT X
  rcases hr T hT X with ⟨v, st₀, t, T', L, h0, X', hL, e1, e2, ⟨⟨u, hv, hp, hb⟩, hF⟩, st⟩ | ⟨q, st₀, t, T', L, E, ce, h0, X', hL, e1, e2, ⟨u, hp, hb, hF⟩, hce, hcv, hcl, st⟩
  · cases hv
    obtain ⟨k1, k2, k3⟩ := vx_keep h0 e1 hS hA hf hL hF
    obtain ⟨t2, a1, b1⟩ := kk u t T'.heap (locs ++ L) e1.symm (by rw [← e2]; exact X'.warmed.alike) hp hb k1 k2 k3 T' rfl X'
    exact ⟨t2, st t2 a1, b1⟩
  · obtain ⟨k1, k2, k3⟩ := vx_keep h0 e1 hS hAX hf hL hF
    obtain ⟨t2, a1, b1⟩ := kx E ce q u t T'.heap (locs ++ L) e1.symm (by rw [← e2]; exact X'.warmed.alike) hp hb k1 k2 k3 (by rw [e1]; exact hce) hcv hcl T' rfl X'
    exact ⟨t2, st.trans a1, b1⟩
/-- caught by the row x of this method's table; the rows ahead don't take it -/
theorem vx_catch {own name : String} {E : String} {ce : Cell} {q : Addr} (hown : s.vm.findClass own = some m.cls) (pre : List ExceptionTableEntry) (x : ExceptionTableEntry) (suf : List ExceptionTableEntry) (hsplit : c.exceptionTable.toList = pre ++ x :: suf)
    (hpass : ∀ z ∈ pre, covers z pc = false ∨ (z.catchType ≠ 0 ∧ ∃ nm : String, (Cond.classLink own z.catchType nm).before args s = true ∧ va_Nc E nm s)) (hx : covers x pc = true) (h0 : x.catchType ≠ 0)
    (hlink : (Cond.classLink own x.catchType name).before args s = true) (hcast : (Cond.castable E name).before args s = true) (hcell : H[q]? = some ce) (hv : ce.vm = .none) (hcl : s.vm.findClass E = some ce.cls)
    (kk : W p l e R s m args below meth c H locs cells slots Q (F0 m x.handlerPc ls [.ref q])) : vx_W p l e R s m args below meth c H locs cells slots Q (F0 m pc ls rest) q := by
  intro T hT X
  have hpl : e.platform.magicAccessors = ({} : Platform).magicAccessors := by rw [X.admits.platform]
  obtain ⟨c3, c4, hc3, hc4, hasg⟩ := Cond.castable_spec hcast
  cases Option.some.inj (hc3.symm.trans hcl)
  obtain ⟨c5, hc5, hcl5⟩ := Cond.classLink_spec hown hlink e.platform hpl
  cases Option.some.inj (hc4.symm.trans hc5)
  obtain ⟨vm', X', st⟩ := X.thenCaughtThrough q (g := F0 m pc ls rest) rfl (Steps.refl _) (by rw [hT]; exact hcell) (by rw [hv]; rfl) (by obtain ⟨k9, h9, -⟩ := Vm.findClass_spec hcl; exact ⟨k9, h9⟩) pre x suf hsplit
    (fun z hz => by
      rcases hpass z hz with h | ⟨hz0, nm, hl1, hn1⟩
      · exact Or.inl h
      · obtain ⟨c6, hc6, hcl6⟩ := Cond.classLink_spec hown hl1 e.platform hpl
        obtain ⟨a8, b8, h1, h2, h3⟩ := hn1
        cases Option.some.inj (h1.symm.trans hcl)
        cases Option.some.inj (h2.symm.trans hc6)
        exact Or.inr ⟨hz0, _, hcl6, h3⟩) hx (Or.inr ⟨h0, c4, hcl5, hasg⟩)
  obtain ⟨t, a1, b1⟩ := kk (T.setVm vm') hT X'
  exact ⟨t, st.trans a1, b1⟩
end Rows
section Ends
variable {p : Program} {l : Launch} {e : Env} {R : Room} {s : State} {m : MethodId} {args : Array Value} {below : List Frame} {meth : Method} {c : Code} {H : Heap} {locs : List Loc} {cells slots : Nat} {Q : State → Prop}
variable {mc ms : Nat} {free : Addr → Prop} {A0 A1 : Nat → Prop} {H0 : Heap} {a : Array Value} {ls : Array Slot} {st0 rest : List Value}
variable {Qc : Array Value → State → Outcome → State → Prop} {XC : String → State → State → Prop}
/-- what a body that may throw owes at its end -/
def vx_MQ (below : List Frame) (Qc : Array Value → State → Outcome → State → Prop) (XC : String → State → State → Prop) (a : Array Value) (s : State) (mc ms : Nat) (free : Addr → Prop) : State → Prop := fun t =>
  ∃ o, t.status = .running ∧ Ended t below o ∧ vx_Q Qc XC mc ms free a s o t
theorem vx_ret {g : JFrame} {mc ms : Nat} (k : W p l e R s m args below meth c H locs cells slots (MQ below Qc args s mc ms free) g) : W p l e R s m args below meth c H locs cells slots (vx_MQ below Qc XC args s mc ms free) g := by
  intro T hT X
  obtain ⟨t, a1, o, b1, b2, b3, b4⟩ := k T hT X
  exact ⟨t, a1, o, b1, b2, Or.inl ⟨b3, b4⟩⟩
/-- not caught here: it goes on to the caller -/
theorem vx_widen {g : JFrame} {q : Addr} {k n : Nat} (h1 : cells ≤ k) (h2 : slots ≤ n) (kk : vx_W p l e R s m args below meth c H locs k n Q g q) : vx_W p l e R s m args below meth c H locs cells slots Q g q := fun T hT X => kk T hT (stand_widen X h1 h2)
theorem vx_out {pc : Nat} {E : String} {ce : Cell} {q : Addr} {mc ms : Nat} (hout : ∀ x ∈ c.exceptionTable.toList, covers x pc = false) (hlocks : meth.locks = false) (hcell : H[q]? = some ce) (hv : ce.vm = .none) (hcl : s.vm.findClass E = some ce.cls)
    (hx : ∀ t : State, t.heap = H → s.vm.Alike t.vm → XC E s t) (hf : ∀ z ∈ locs, free z.base) (hc : cells ≤ mc) (hs : slots ≤ ms) :
    vx_W p l e R s m args below meth c H locs cells slots (vx_MQ below Qc XC args s mc ms free) (F0 m pc ls rest) q := by
  intro T hT X
  obtain ⟨st1, hrun, hend, hW, hsm⟩ := X.leaveThrown q (g := F0 m pc ls rest) rfl rfl rfl hout hlocks
  have hcell9 : (T.setFrames (.throwing q :: below)).heap[q]? = some ce := by
    show T.heap[q]? = some ce
    rw [hT]; exact hcell
  exact ⟨_, st1, .threw q, hrun, hend, Or.inr ⟨q, rfl, E, ce, locs, hx _ hT hW.alike, hcell9, hv, hcl, hW, hsm.mono hc hs, hf⟩⟩
theorem vx_frame {U : State} {k n : Nat} (h : s.sameButNew ({ U with vm := s.vm } : State) locs k n) : s.heap.size ≤ U.heap.size ∧ ∀ q : Nat, q < s.heap.size → (∀ z ∈ locs, z.base ≠ q) → U.heap[q]? = s.heap[q]? := by
  obtain ⟨-, h2, -, -, -, h6⟩ := h
  refine ⟨h2, fun q hq hz => ?_⟩
  obtain ⟨c9, e1, e2, e3, e4⟩ := h6 q _ (Array.getElem?_eq_getElem hq)
  have hs : c9.slots = (s.heap[q]).slots := Array.ext_getElem? fun i => e4 i fun hm => hz _ hm rfl
  have h9 : c9 = s.heap[q] := by
    rw [hs] at e2
    exact e2
  have e5 : U.heap[q]? = some c9 := e1
  rw [e5, h9, Array.getElem?_eq_getElem hq]
/-- the words of a throw but the four that speak of the heap -/
def vx_no (w : Cond) : Bool := decide (w ≠ .isRef (.static Bundle.tN "UNASSIGNED_STACK" Bundle.steD)) && decide (w ≠ .isRef (.static Bundle.tN "SUPPRESSED_SENTINEL" Bundle.listD)) && decide (w ≠ .laysStatic Bundle.tN "UNASSIGNED_STACK" Bundle.steD) && decide (w ≠ .laysStatic Bundle.tN "SUPPRESSED_SENTINEL" Bundle.listD)
def vx_at0 (own : String) (ic : Nat) (X : String) (names : List String) : List Cond := (Bundle.ownAtoms0 own ic X names).filter vx_no
def vx_atS (own : String) (ic : Nat) (X : String) (names : List String) : List Cond := (Bundle.ownAtoms own ic X names).filter vx_no
/-- a word that the tables alone decide, or a good one -/
def vx_ot (w : Cond) : Bool := w.onTables || goodWord w
theorem vx_ot_at {args a' : Array Value} {s U : State} {w : Cond} (hW : s.WarmedH U.vm) (hvm : s.vm = U.vm) (hg : vx_ot w = true) (h : w.before args s = true) : w.before a' U = true := by
  simp only [vx_ot, Bool.or_eq_true] at hg
  rcases hg with hg | hg
  · exact va_tabs hg hvm h
  · exact word_at hW (good_of_word hg) h
/-- a list's words: the good ones out of the method's own list, the others by premises of their own -/
theorem vx_hat {args : Array Value} {s : State} {L B : List Cond} (h1 : ∀ w ∈ L.filter goodWord, w.before args s = true) (h2 : ∀ w ∈ L.filter (fun w => !goodWord w), w ∈ B) (h3 : ∀ w ∈ B, w.before args s = true) : ∀ w ∈ L, w.before args s = true := by
  intro w hw
  by_cases g : goodWord w = true
  · exact h1 w (List.mem_filter.mpr ⟨hw, g⟩)
  · refine h3 w (h2 w (List.mem_filter.mpr ⟨hw, ?_⟩))
    show (!goodWord w) = true
    cases hgw : goodWord w
    · rfl
    · exact absurd hgw g
theorem vx_c {args : Array Value} {s : State} {w : Cond} {B : List Cond} (h : w.before args s = true) (t : ∀ w ∈ B, w.before args s = true) : ∀ w' ∈ w :: B, w'.before args s = true := fun w' h' => (List.mem_cons.mp h').elim (fun e => by rw [e]; exact h) (t w')
theorem vx_n {args : Array Value} {s : State} : ∀ w ∈ ([] : List Cond), w.before args s = true := fun _ h => nomatch h
theorem vx_own {args : Array Value} {s : State} {L : List Cond} (h1 : ∀ w ∈ L.filter vx_no, w.before args s = true)
    (hU : (Cond.isRef (.static Bundle.tN "UNASSIGNED_STACK" Bundle.steD)).before args s = true) (hN : (Cond.isRef (.static Bundle.tN "SUPPRESSED_SENTINEL" Bundle.listD)).before args s = true)
    (lU : (Cond.laysStatic Bundle.tN "UNASSIGNED_STACK" Bundle.steD).before args s = true) (lN : (Cond.laysStatic Bundle.tN "SUPPRESSED_SENTINEL" Bundle.listD).before args s = true) : ∀ w ∈ L, w.before args s = true := by
  intro w hw
  by_cases e1 : w = .isRef (.static Bundle.tN "UNASSIGNED_STACK" Bundle.steD)
  · rw [e1]; exact hU
  · by_cases e2 : w = .isRef (.static Bundle.tN "SUPPRESSED_SENTINEL" Bundle.listD)
    · rw [e2]; exact hN
    · by_cases e3 : w = .laysStatic Bundle.tN "UNASSIGNED_STACK" Bundle.steD
      · rw [e3]; exact lU
      · by_cases e4 : w = .laysStatic Bundle.tN "SUPPRESSED_SENTINEL" Bundle.listD
        · rw [e4]; exact lN
        · exact h1 w (List.mem_filter.mpr ⟨hw, by unfold vx_no; rw [decide_eq_true e1, decide_eq_true e2, decide_eq_true e3, decide_eq_true e4]; rfl⟩)
/-- where a static field lies, its class's statics cell in H -/
def vx_L (C n d : String) (A : Nat → Prop) (U : State) (H : Heap) : Prop := ∃ (c : ClassId) (k : Class) (i : Nat) (f : Field) (a : Nat) (cell : Cell), U.vm.findClass C = some c ∧ U.fieldFound? C n d = some (c, k, i, f) ∧ f.isStatic = true ∧ k.statics = some a ∧ H[a]? = some cell ∧ cell.vm.isStatics = true ∧ cell.cls = c ∧ f.slot < cell.slots.size ∧ k.staticTypes[f.slot]? = some f.type ∧ ¬ A a
theorem vx_L.moved {C n d : String} {A : Nat → Prop} {u U : State} {H : Heap} (hvm : u.vm.Alike U.vm) (h : vx_L C n d A u H) : vx_L C n d A U H := by
  obtain ⟨c, k, i, f, a, cell, h1, h2, h3, h4, h5, h6, h7, h8, h9, h10⟩ := h
  obtain ⟨k', hi', he⟩ := State.fieldFound?_setVm hvm h2
  exact ⟨c, k', i, f, a, cell, by rw [hvm.findClass]; exact h1, hi', h3, by rw [he]; exact h4, h5, h6, h7, h8, by rw [he]; exact h9, h10⟩
theorem vx_L.kept {C n d : String} {A : Nat → Prop} {U : State} {H H1 : Heap} (h : vx_L C n d A U H) (hq : ∀ a : Nat, a < H.size → ¬ A a → H1[a]? = H[a]?) : vx_L C n d A U H1 := by
  obtain ⟨c, k, i, f, a, cell, h1, h2, h3, h4, h5, h6, h7, h8, h9, h10⟩ := h
  exact ⟨c, k, i, f, a, cell, h1, h2, h3, h4, by rw [hq a (Array.getElem?_eq_some_iff.mp h5).1 h10]; exact h5, h6, h7, h8, h9, h10⟩
theorem vx_L.narrow {C n d : String} {A B : Nat → Prop} {U : State} {H : Heap} (h : vx_L C n d A U H) (hAB : ∀ q, B q → A q) : vx_L C n d B U H := by
  obtain ⟨c, k, i, f, a, cell, h1, h2, h3, h4, h5, h6, h7, h8, h9, h10⟩ := h
  exact ⟨c, k, i, f, a, cell, h1, h2, h3, h4, h5, h6, h7, h8, h9, fun z => h10 (hAB _ z)⟩
theorem vx_L.word {C n d : String} {A : Nat → Prop} {s : State} {args : Array Value} (h : vx_L C n d A s s.heap) : (Cond.laysStatic C n d).before args s = true := by
  obtain ⟨c, k, i, f, a, cell, h1, h2, h3, h4, h5, h6, h7, h8, h9, -⟩ := h
  show (Cond.laysStatic C n d).holds args s none s [] = true
  exact Cond.laysStatic_of h1 h2 h3 h4 h5 h6 h7 h8 h9
/-- .. and what it holds: null or some reference -/
def vx_Zq (C n d : String) (A : Nat → Prop) (U : State) (H : Heap) : Prop := va_Zq C n d A U H ∧ vx_L C n d A U H
theorem vx_Zq.moved {C n d : String} {A : Nat → Prop} {u U : State} {H : Heap} (hvm : u.vm.Alike U.vm) (h : vx_Zq C n d A u H) : vx_Zq C n d A U H := ⟨va_Zq.moved hvm h.1, vx_L.moved hvm h.2⟩
theorem vx_Zq.kept {C n d : String} {A : Nat → Prop} {U : State} {H H1 : Heap} (h : vx_Zq C n d A U H) (hq : ∀ a : Nat, a < H.size → ¬ A a → H1[a]? = H[a]?) : vx_Zq C n d A U H1 := ⟨va_Zq.kept h.1 hq, vx_L.kept h.2 hq⟩
theorem vx_Zq.narrow {C n d : String} {A B : Nat → Prop} {U : State} {H : Heap} (h : vx_Zq C n d A U H) (hAB : ∀ q, B q → A q) : vx_Zq C n d B U H := ⟨va_Zq.narrow h.1 hAB, vx_L.narrow h.2 hAB⟩
theorem vx_Zqof {args : Array Value} {s : State} {C n d : String} {A : Nat → Prop} (hl : (Cond.laysStatic C n d).before args s = true) (hini : (Cond.initialized C).before args s = true) (h : (Cond.isRef (.static C n d)).before args s = true) (hA : ∀ a : Nat, a < s.heap.size → ¬ A a) : vx_Zq C n d A s s.heap := by
  refine ⟨va_Zqof hl hini h hA, ?_⟩
  obtain ⟨c, k, i, f, a, cell, h1, h2, h3, h4, h5, h6, h7, h8, h9⟩ := Cond.laysStatic_spec hl
  exact ⟨c, k, i, f, a, cell, h1, h2, h3, h4, h5, h6, h7, h8, h9, hA a (Array.getElem?_eq_some_iff.mp h5).1⟩
theorem vx_isRef {C n d : String} {v : Value} {A : Nat → Prop} {s : State} {args : Array Value} (h : va_Z C n d v A s s.heap) (hv : v.isRef = true) : (Cond.isRef (.static C n d)).before args s = true := by
  obtain ⟨cf, kf, fi, f, a, cell, h1, h2, h3, h4, h5, h6, h7, -⟩ := h
  have he : (Term.static C n d).eval args s none [] s = some v := by
    simp [Term.eval, State.fieldNamed?, h1, h2, h4, h5, h6, h7]
  simp only [Cond.before, Cond.holds, Cond.value, he]
  cases v <;> simp_all [Value.isRef]
theorem vx_isRefq {C n d : String} {A : Nat → Prop} {s : State} {args : Array Value} (h : va_Zq C n d A s s.heap) : (Cond.isRef (.static C n d)).before args s = true := by
  rcases h with h | ⟨t, h⟩
  · exact vx_isRef h rfl
  · exact vx_isRef h rfl
/-- the same frame, seen from here: as if the method were called anew in this heap -/
theorem vx_rebase {T : State} (X : Stand p l e R s m args below meth c T locs cells slots) {R' : Room} (hf : R'.frames ≤ R.frames) (hl : R'.locals ≤ R.locals) (hc : cells + R'.cells ≤ R.cells) (hs : slots + R'.slots ≤ R.slots) :
    Stand p l e R' ((T.setVm s.vm).setFrames (.invoking m args :: below)) m args below meth c T [] 0 0 := by
  have htop : (T.setVm s.vm).topJava?.isSome := X.here.top
  have hF : ((T.setVm s.vm).setFrames (.invoking m args :: below)).frames = .invoking m args :: below := State.frames_setFrames _ (State.cur_lt_of_top htop)
  obtain ⟨g₀, hg0⟩ := Option.isSome_iff_exists.mp htop
  obtain ⟨r, hr⟩ := State.topJava?_eq_some.mp hg0
  have hl9 : e.platform.stackLimits (T.setVm s.vm).me = e.platform.stackLimits s.me := X.limits
  have hb9 : (T.setVm s.vm).me.stackBytes = s.me.stackBytes := X.bytes
  refine ⟨X.admits, X.cas, X.clock, hF, ?_, X.hears, X.method, X.code, X.here, X.tail, X.warmed, ?_, ?_, ?_⟩
  · have h := X.room
    have hU : ((T.setVm s.vm).setFrames (.invoking m args :: below)).localsInUse = s.localsInUse := by
      rw [State.localsInUse_invoking hF (meth := meth) (c := c) X.method X.code, State.localsInUse_invoking X.frames X.method X.code]
    simp only [State.hasRoom, Bool.and_eq_true, decide_eq_true_eq] at h ⊢
    obtain ⟨⟨⟨⟨h1, h2, h3, h4, h5, h6⟩, h7⟩, h8⟩, h9⟩ := h
    rw [X.frames, List.length_cons] at h2 h3
    have q1 := X.heapSize
    have q2 := X.used
    simp only [hF, hU, List.length_cons, State.stackLimits_setFrames, State.stackBytes_setFrames, hl9, hb9]
    refine ⟨⟨⟨⟨by omega, by omega, by omega, by omega, by omega, h6⟩, ?_⟩, ?_⟩, X.book⟩
    · show T.heap.size + R'.cells ≤ e.platform.maxCells
      omega
    · show T.slotsUsed + R'.slots ≤ e.platform.maxSlots
      omega
  · rw [State.stackLimits_setFrames]; rfl
  · rw [State.stackBytes_setFrames]; rfl
  · refine ⟨?_, Nat.le_refl _, Nat.le_refl _, ?_, ?_, fun a c9 h9 => ⟨c9, h9, rfl, rfl, fun _ _ => rfl⟩⟩
    · obtain ⟨t, ht, -⟩ := State.frames_cons hr
      show T.setVm s.vm = { ((T.setVm s.vm).setFrames (.invoking m args :: below)).setFrames (T.setVm s.vm).frames with heap := T.heap, slotsUsed := T.slotsUsed }
      rw [State.setFrames_setFrames, State.setFrames_self ht]
      rfl
    · show T.slotsUsed = T.slotsUsed + ((T.heap.toList.drop T.heap.size).map (·.slots.size)).sum
      rw [List.drop_eq_nil_of_le (Nat.le_of_eq Array.length_toList)]
      rfl
    · show ((T.heap.toList.drop T.heap.size).map (·.slots.size)).sum ≤ 0
      rw [List.drop_eq_nil_of_le (Nat.le_of_eq Array.length_toList)]
      exact Nat.le_refl _
/-- 'throw new E()': new; dup; invokespecial; athrow -/
theorem vx_throw0 {cc : ByteArray} {pc : Nat} (hexec : p.tables.exec = Jvm.exec) (hb : c.code = cc) (hl : l.stackTraces = false) {own cls : String} {names : List String} {ik ic mc ms : Nat} {A : Nat → Prop}
    (hown : s.vm.findClass own = some m.cls) (hcls : Bundle.fit cls = true) (hnames : ∀ n ∈ names, Bundle.fit n = true)
    (hk : (Cond.classLink own ik cls).before args s = true) (hini : (Cond.initialized cls).before args s = true) (hat : ∀ w ∈ vx_at0 own ic cls names, w.before args s = true)
    (hgood : ∀ w ∈ Cond.classLink own ik cls :: Cond.initialized cls :: vx_at0 own ic cls names, vx_ot w = true)
    (hU : vx_Zq Bundle.tN "UNASSIGNED_STACK" Bundle.steD A s s.heap) (hN : vx_Zq Bundle.tN "SUPPRESSED_SENTINEL" Bundle.listD A s s.heap) (hS : va_S A s.heap H locs) (hsize : ls.size = c.maxLocals)
    (d0 : decode cc pc = .ok (.new ik, 3)) (d3 : decode cc (pc + 3) = .ok (.dup, 1)) (d4 : decode cc (pc + 4) = .ok (.invokespecial ic, 3)) (d7 : decode cc (pc + 7) = .ok (.athrow, 1))
    (hout : ∀ x ∈ c.exceptionTable.toList, covers x (pc + 7) = false)
    (hRframes : names.length + 3 < R.frames) (hRlocals : (rest.map fun v => v.category).sum + (13 * (names.length + 1) + 42) ≤ R.locals) (hRcells : cells + 1 ≤ R.cells) (hRslots : slots + 6 ≤ R.slots) (hlocks : meth.locks = false)
    (hx : ∀ t : State, s.vm.Alike t.vm → H.size ≤ t.heap.size → (∀ q : Nat, q < H.size → t.heap[q]? = H[q]?) → XC cls s t)
    (hf : ∀ z ∈ locs, free z.base) (hc : cells + 1 ≤ mc) (hs : slots + 6 ≤ ms) :
    W p l e R s m args below meth c H locs cells slots (vx_MQ below Qc XC args s mc ms free) (F0 m pc ls rest) := by
  intro T hT X
  have htr : e.platform.stackTraces = false := (show e.platform.stackTraces = l.stackTraces by rw [X.admits.platform]).trans hl
  have Y := vx_rebase X (R' := { frames := R.frames, locals := R.locals, cells := 1, slots := 6 }) (Nat.le_refl _) (Nat.le_refl _) hRcells hRslots
  obtain ⟨s', hA⟩ : ∃ z, z = (T.setVm s.vm).setFrames (.invoking m args :: below) := ⟨_, rfl⟩
  rw [← hA] at Y
  have hvm : s'.vm = s.vm := by rw [hA]; rfl
  have hhp : s'.heap = H := by rw [hA]; exact hT
  have hW0 : s.WarmedH s'.vm := by rw [hvm]; exact State.WarmedH.refl s
  have hat' : ∀ w ∈ vx_at0 own ic cls names, w.before args s' = true := fun w hw => vx_ot_at hW0 hvm.symm (hgood w (List.mem_cons_of_mem _ (List.mem_cons_of_mem _ hw))) (hat w hw)
  have hk' : (Cond.classLink own ik cls).before args s' = true := vx_ot_at hW0 hvm.symm (hgood _ List.mem_cons_self) hk
  have hini' : (Cond.initialized cls).before args s' = true := vx_ot_at hW0 hvm.symm (hgood _ (List.mem_cons_of_mem _ List.mem_cons_self)) hini
  have hU' : vx_Zq Bundle.tN "UNASSIGNED_STACK" Bundle.steD A s' s'.heap := by rw [hhp]; exact vx_Zq.moved hW0.alike (hU.kept hS.2.1)
  have hN' : vx_Zq Bundle.tN "SUPPRESSED_SENTINEL" Bundle.listD A s' s'.heap := by rw [hhp]; exact vx_Zq.moved hW0.alike (hN.kept hS.2.1)
  have h : ∀ w ∈ Bundle.ownAtoms0 own ic cls names, w.before args s' = true := vx_own hat' (vx_isRefq hU'.1) (vx_isRefq hN'.1) hU'.2.word hN'.2.word
  have hown' : s'.vm.findClass own = some m.cls := by rw [hvm]; exact hown
  have hins : (Cond.instantiable cls 6).before args s' = true := h _ (by simp [Bundle.ownAtoms0])
  obtain ⟨vm₁, cX, kX, hfX, hkX, -, -, X₁, st1⟩ := Y.newCold hexec (own := own) (C := cls) (index := ik) (n := 6) hown' hk' hins hini'
    (g := F0 m pc ls rest) rfl (by rw [hb]; exact d0) (Nat.le_refl _) (Nat.le_refl _)
  generalize hT1 : (T.setVm vm₁).pushCell { cls := cX, slots := kX.instanceTypes.map defaultValue, vm := .none } = T1 at X₁ st1
  have hcat : (Value.ref T.heap.size).category = 1 := rfl
  have hcellA : T1.heap[T.heap.size]? = some (freshCell cX kX) := by rw [← hT1]; exact State.heap_pushCell_size _ _
  have d3' : decode c.code (pc + 3) = .ok (.dup, 1) := by rw [hb]; exact d3
  obtain ⟨U, hsteps, hrun, hend, hW, hsame, ce, hce, hO⟩ := X₁.ctorThrow0 hexec htr (own := own) (cls := cls) (names := names) (ic := ic) hown' hcls hnames h (fun x hx => nomatch hx) hfX hkX hcellA (by rw [hhp, hT]; exact Nat.le_refl _)
    (g := { method := m, pc := pc + 4, locals := ls, stack := .ref T.heap.size :: .ref T.heap.size :: rest, locked := none }) rfl hsize rfl rfl (rest := rest) rfl
    (by rw [hb]; exact d4) (by rw [hb]; exact d7) hout hRframes (by simp only [List.map_cons, List.sum_cons, hcat]; omega) hlocks
  obtain ⟨f1, f2⟩ := vx_frame hsame
  rw [hhp] at f1 f2
  have hWs : s.WarmedH U.vm := State.WarmedH.trans hW0 hW
  have hcl : s.vm.findClass cls = some ce.cls := by
    have h9 := hO.cls
    rw [hvm] at h9
    exact h9
  have hall : s.sameButNew ({ U with vm := s.vm } : State) locs mc ms := by
    subst hA
    obtain ⟨e1, e2⟩ := hsame
    rw [State.setFrames_setFrames] at e1
    have h2 : (T.setVm s.vm).sameButNew ({ U with vm := s.vm } : State) [] (0 + 1) (0 + 6) := ⟨e1, e2⟩
    have h3 := X.same.trans h2
    rw [List.append_nil] at h3
    exact h3.mono hc hs
  refine ⟨U, ?_, .threw T.heap.size, hrun, hend, Or.inr ⟨T.heap.size, rfl, cls, ce, locs, hx U hWs.alike f1 (fun q hq => f2 q hq (fun z hz => nomatch hz)), hce, hO.vm, hcl, hWs, hall, hf⟩⟩
  refine st1 _ ?_
  show Steps p.tables e below (T1.setTop { method := m, pc := pc + 3, locals := ls, stack := .ref T.heap.size :: rest, locked := none }) _
  jvm_step X₁.here [X₁.here.top, hexec, d3', Value.category]
  exact hsteps
/-- 'throw new E("text")': new; dup; ldc; invokespecial; athrow -/
theorem vx_throwS {cc : ByteArray} {pc : Nat} (hexec : p.tables.exec = Jvm.exec) (hb : c.code = cc) (hl : l.stackTraces = false) {own cls text : String} {names : List String} {ik is ic mc ms sa : Nat} {A : Nat → Prop}
    (hown : s.vm.findClass own = some m.cls) (hcls : Bundle.fit cls = true) (hnames : ∀ n ∈ names, Bundle.fit n = true)
    (hk : (Cond.classLink own ik cls).before args s = true) (hini : (Cond.initialized cls).before args s = true) (hstr : vk_R own is text sa s) (hat : ∀ w ∈ vx_atS own ic cls names, w.before args s = true)
    (hgood : ∀ w ∈ Cond.classLink own ik cls :: Cond.initialized cls :: vx_atS own ic cls names, vx_ot w = true)
    (hU : vx_Zq Bundle.tN "UNASSIGNED_STACK" Bundle.steD A s s.heap) (hN : vx_Zq Bundle.tN "SUPPRESSED_SENTINEL" Bundle.listD A s s.heap) (hS : va_S A s.heap H locs) (hsize : ls.size = c.maxLocals)
    (d0 : decode cc pc = .ok (.new ik, 3)) (d3 : decode cc (pc + 3) = .ok (.dup, 1)) (d4 : decode cc (pc + 4) = .ok (.ldc is, 2)) (d6 : decode cc (pc + 6) = .ok (.invokespecial ic, 3)) (d9 : decode cc (pc + 9) = .ok (.athrow, 1))
    (hout : ∀ x ∈ c.exceptionTable.toList, covers x (pc + 9) = false)
    (hRframes : names.length + 3 < R.frames) (hRlocals : (rest.map fun v => v.category).sum + (13 * (names.length + 1) + 43) ≤ R.locals) (hRcells : cells + 1 ≤ R.cells) (hRslots : slots + 6 ≤ R.slots) (hlocks : meth.locks = false)
    (hx : ∀ t : State, s.vm.Alike t.vm → H.size ≤ t.heap.size → (∀ q : Nat, q < H.size → t.heap[q]? = H[q]?) → XC cls s t)
    (hf : ∀ z ∈ locs, free z.base) (hc : cells + 1 ≤ mc) (hs : slots + 6 ≤ ms) :
    W p l e R s m args below meth c H locs cells slots (vx_MQ below Qc XC args s mc ms free) (F0 m pc ls rest) := by
  intro T hT X
  have htr : e.platform.stackTraces = false := (show e.platform.stackTraces = l.stackTraces by rw [X.admits.platform]).trans hl
  have Y := vx_rebase X (R' := { frames := R.frames, locals := R.locals, cells := 1, slots := 6 }) (Nat.le_refl _) (Nat.le_refl _) hRcells hRslots
  obtain ⟨s', hA⟩ : ∃ z, z = (T.setVm s.vm).setFrames (.invoking m args :: below) := ⟨_, rfl⟩
  rw [← hA] at Y
  have hvm : s'.vm = s.vm := by rw [hA]; rfl
  have hhp : s'.heap = H := by rw [hA]; exact hT
  have hW0 : s.WarmedH s'.vm := by rw [hvm]; exact State.WarmedH.refl s
  have hat' : ∀ w ∈ vx_atS own ic cls names, w.before args s' = true := fun w hw => vx_ot_at hW0 hvm.symm (hgood w (List.mem_cons_of_mem _ (List.mem_cons_of_mem _ hw))) (hat w hw)
  have hk' : (Cond.classLink own ik cls).before args s' = true := vx_ot_at hW0 hvm.symm (hgood _ List.mem_cons_self) hk
  have hini' : (Cond.initialized cls).before args s' = true := vx_ot_at hW0 hvm.symm (hgood _ (List.mem_cons_of_mem _ List.mem_cons_self)) hini
  have hU' : vx_Zq Bundle.tN "UNASSIGNED_STACK" Bundle.steD A s' s'.heap := by rw [hhp]; exact vx_Zq.moved hW0.alike (hU.kept hS.2.1)
  have hN' : vx_Zq Bundle.tN "SUPPRESSED_SENTINEL" Bundle.listD A s' s'.heap := by rw [hhp]; exact vx_Zq.moved hW0.alike (hN.kept hS.2.1)
  have h : ∀ w ∈ Bundle.ownAtoms own ic cls names, w.before args s' = true := vx_own hat' (vx_isRefq hU'.1) (vx_isRefq hN'.1) hU'.2.word hN'.2.word
  have hown' : s'.vm.findClass own = some m.cls := by rw [hvm]; exact hown
  have hins : (Cond.instantiable cls 6).before args s' = true := h _ (by simp [Bundle.ownAtoms])
  obtain ⟨vm₁, cX, kX, hfX, hkX, -, -, X₁, st1⟩ := Y.newCold hexec (own := own) (C := cls) (index := ik) (n := 6) hown' hk' hins hini'
    (g := F0 m pc ls rest) rfl (by rw [hb]; exact d0) (Nat.le_refl _) (Nat.le_refl _)
  generalize hT1 : (T.setVm vm₁).pushCell { cls := cX, slots := kX.instanceTypes.map defaultValue, vm := .none } = T1 at X₁ st1
  have hcat : (Value.ref T.heap.size).category = 1 := rfl
  have hcellA : T1.heap[T.heap.size]? = some (freshCell cX kX) := by rw [← hT1]; exact State.heap_pushCell_size _ _
  have d3' : decode c.code (pc + 3) = .ok (.dup, 1) := by rw [hb]; exact d3
  have d4' : decode c.code (pc + 4) = .ok (.ldc is, 2) := by rw [hb]; exact d4
  have hstr' : vk_R own is text sa s' := vk_R.warm hW0 hstr
  obtain ⟨U, hsteps, hrun, hend, hW, hsame, ce, hce, hO⟩ := X₁.ctorThrowS hexec htr (own := own) (cls := cls) (names := names) (ic := ic) hown' hcls hnames h (fun x hx => nomatch hx) hfX hkX hcellA (by rw [hhp, hT]; exact Nat.le_refl _) (msg := .ref sa) rfl
    (g := { method := m, pc := pc + 6, locals := ls, stack := .ref sa :: .ref T.heap.size :: .ref T.heap.size :: rest, locked := none }) rfl hsize rfl rfl (rest := rest) rfl
    (by rw [hb]; exact d6) (by rw [hb]; exact d9) hout hRframes (by simp only [List.map_cons, List.sum_cons, hcat]; omega) hlocks
  obtain ⟨f1, f2⟩ := vx_frame hsame
  rw [hhp] at f1 f2
  have hWs : s.WarmedH U.vm := State.WarmedH.trans hW0 hW
  have hcl : s.vm.findClass cls = some ce.cls := by
    have h9 := hO.cls
    rw [hvm] at h9
    exact h9
  have hall : s.sameButNew ({ U with vm := s.vm } : State) locs mc ms := by
    subst hA
    obtain ⟨e1, e2⟩ := hsame
    rw [State.setFrames_setFrames] at e1
    have h2 : (T.setVm s.vm).sameButNew ({ U with vm := s.vm } : State) [] (0 + 1) (0 + 6) := ⟨e1, e2⟩
    have h3 := X.same.trans h2
    rw [List.append_nil] at h3
    exact h3.mono hc hs
  refine ⟨U, ?_, .threw T.heap.size, hrun, hend, Or.inr ⟨T.heap.size, rfl, cls, ce, locs, hx U hWs.alike f1 (fun q hq => f2 q hq (fun z hz => nomatch hz)), hce, hO.vm, hcl, hWs, hall, hf⟩⟩
  refine st1 _ ?_
  show Steps p.tables e below (T1.setTop { method := m, pc := pc + 3, locals := ls, stack := .ref T.heap.size :: rest, locked := none }) _
  jvm_step X₁.here [X₁.here.top, hexec, d3', Value.category]
  exact X₁.ldcString hexec (own := own) (text := text) (index := is) (a := sa) hown' hstr'.1 hstr'.2
    (g := { method := m, pc := pc + 4, locals := ls, stack := .ref T.heap.size :: .ref T.heap.size :: rest, locked := none }) rfl d4' _ hsteps
/-- 'throw new E("text")', the text by a wide index -/
theorem vx_throwSW {cc : ByteArray} {pc : Nat} (hexec : p.tables.exec = Jvm.exec) (hb : c.code = cc) (hl : l.stackTraces = false) {own cls text : String} {names : List String} {ik is ic mc ms sa : Nat} {A : Nat → Prop}
    (hown : s.vm.findClass own = some m.cls) (hcls : Bundle.fit cls = true) (hnames : ∀ n ∈ names, Bundle.fit n = true)
    (hk : (Cond.classLink own ik cls).before args s = true) (hini : (Cond.initialized cls).before args s = true) (hstr : vk_R own is text sa s) (hat : ∀ w ∈ vx_atS own ic cls names, w.before args s = true)
    (hgood : ∀ w ∈ Cond.classLink own ik cls :: Cond.initialized cls :: vx_atS own ic cls names, vx_ot w = true)
    (hU : vx_Zq Bundle.tN "UNASSIGNED_STACK" Bundle.steD A s s.heap) (hN : vx_Zq Bundle.tN "SUPPRESSED_SENTINEL" Bundle.listD A s s.heap) (hS : va_S A s.heap H locs) (hsize : ls.size = c.maxLocals)
    (d0 : decode cc pc = .ok (.new ik, 3)) (d3 : decode cc (pc + 3) = .ok (.dup, 1)) (d4 : decode cc (pc + 4) = .ok (.ldc_w is, 3)) (d7 : decode cc (pc + 7) = .ok (.invokespecial ic, 3)) (d10 : decode cc (pc + 10) = .ok (.athrow, 1))
    (hout : ∀ x ∈ c.exceptionTable.toList, covers x (pc + 10) = false)
    (hRframes : names.length + 3 < R.frames) (hRlocals : (rest.map fun v => v.category).sum + (13 * (names.length + 1) + 43) ≤ R.locals) (hRcells : cells + 1 ≤ R.cells) (hRslots : slots + 6 ≤ R.slots) (hlocks : meth.locks = false)
    (hx : ∀ t : State, s.vm.Alike t.vm → H.size ≤ t.heap.size → (∀ q : Nat, q < H.size → t.heap[q]? = H[q]?) → XC cls s t)
    (hf : ∀ z ∈ locs, free z.base) (hc : cells + 1 ≤ mc) (hs : slots + 6 ≤ ms) :
    W p l e R s m args below meth c H locs cells slots (vx_MQ below Qc XC args s mc ms free) (F0 m pc ls rest) := by
  intro T hT X
  have htr : e.platform.stackTraces = false := (show e.platform.stackTraces = l.stackTraces by rw [X.admits.platform]).trans hl
  have Y := vx_rebase X (R' := { frames := R.frames, locals := R.locals, cells := 1, slots := 6 }) (Nat.le_refl _) (Nat.le_refl _) hRcells hRslots
  obtain ⟨s', hA⟩ : ∃ z, z = (T.setVm s.vm).setFrames (.invoking m args :: below) := ⟨_, rfl⟩
  rw [← hA] at Y
  have hvm : s'.vm = s.vm := by rw [hA]; rfl
  have hhp : s'.heap = H := by rw [hA]; exact hT
  have hW0 : s.WarmedH s'.vm := by rw [hvm]; exact State.WarmedH.refl s
  have hat' : ∀ w ∈ vx_atS own ic cls names, w.before args s' = true := fun w hw => vx_ot_at hW0 hvm.symm (hgood w (List.mem_cons_of_mem _ (List.mem_cons_of_mem _ hw))) (hat w hw)
  have hk' : (Cond.classLink own ik cls).before args s' = true := vx_ot_at hW0 hvm.symm (hgood _ List.mem_cons_self) hk
  have hini' : (Cond.initialized cls).before args s' = true := vx_ot_at hW0 hvm.symm (hgood _ (List.mem_cons_of_mem _ List.mem_cons_self)) hini
  have hU' : vx_Zq Bundle.tN "UNASSIGNED_STACK" Bundle.steD A s' s'.heap := by rw [hhp]; exact vx_Zq.moved hW0.alike (hU.kept hS.2.1)
  have hN' : vx_Zq Bundle.tN "SUPPRESSED_SENTINEL" Bundle.listD A s' s'.heap := by rw [hhp]; exact vx_Zq.moved hW0.alike (hN.kept hS.2.1)
  have h : ∀ w ∈ Bundle.ownAtoms own ic cls names, w.before args s' = true := vx_own hat' (vx_isRefq hU'.1) (vx_isRefq hN'.1) hU'.2.word hN'.2.word
  have hown' : s'.vm.findClass own = some m.cls := by rw [hvm]; exact hown
  have hins : (Cond.instantiable cls 6).before args s' = true := h _ (by simp [Bundle.ownAtoms])
  obtain ⟨vm₁, cX, kX, hfX, hkX, -, -, X₁, st1⟩ := Y.newCold hexec (own := own) (C := cls) (index := ik) (n := 6) hown' hk' hins hini'
    (g := F0 m pc ls rest) rfl (by rw [hb]; exact d0) (Nat.le_refl _) (Nat.le_refl _)
  generalize hT1 : (T.setVm vm₁).pushCell { cls := cX, slots := kX.instanceTypes.map defaultValue, vm := .none } = T1 at X₁ st1
  have hcat : (Value.ref T.heap.size).category = 1 := rfl
  have hcellA : T1.heap[T.heap.size]? = some (freshCell cX kX) := by rw [← hT1]; exact State.heap_pushCell_size _ _
  have d3' : decode c.code (pc + 3) = .ok (.dup, 1) := by rw [hb]; exact d3
  have d4' : decode c.code (pc + 4) = .ok (.ldc_w is, 3) := by rw [hb]; exact d4
  have hstr' : vk_R own is text sa s' := vk_R.warm hW0 hstr
  obtain ⟨U, hsteps, hrun, hend, hW, hsame, ce, hce, hO⟩ := X₁.ctorThrowS hexec htr (own := own) (cls := cls) (names := names) (ic := ic) hown' hcls hnames h (fun x hx => nomatch hx) hfX hkX hcellA (by rw [hhp, hT]; exact Nat.le_refl _) (msg := .ref sa) rfl
    (g := { method := m, pc := pc + 7, locals := ls, stack := .ref sa :: .ref T.heap.size :: .ref T.heap.size :: rest, locked := none }) rfl hsize rfl rfl (rest := rest) rfl
    (by rw [hb]; exact d7) (by rw [hb]; exact d10) hout hRframes (by simp only [List.map_cons, List.sum_cons, hcat]; omega) hlocks
  obtain ⟨f1, f2⟩ := vx_frame hsame
  rw [hhp] at f1 f2
  have hWs : s.WarmedH U.vm := State.WarmedH.trans hW0 hW
  have hcl : s.vm.findClass cls = some ce.cls := by
    have h9 := hO.cls
    rw [hvm] at h9
    exact h9
  have hall : s.sameButNew ({ U with vm := s.vm } : State) locs mc ms := by
    subst hA
    obtain ⟨e1, e2⟩ := hsame
    rw [State.setFrames_setFrames] at e1
    have h2 : (T.setVm s.vm).sameButNew ({ U with vm := s.vm } : State) [] (0 + 1) (0 + 6) := ⟨e1, e2⟩
    have h3 := X.same.trans h2
    rw [List.append_nil] at h3
    exact h3.mono hc hs
  refine ⟨U, ?_, .threw T.heap.size, hrun, hend, Or.inr ⟨T.heap.size, rfl, cls, ce, locs, hx U hWs.alike f1 (fun q hq => f2 q hq (fun z hz => nomatch hz)), hce, hO.vm, hcl, hWs, hall, hf⟩⟩
  refine st1 _ ?_
  show Steps p.tables e below (T1.setTop { method := m, pc := pc + 3, locals := ls, stack := .ref T.heap.size :: rest, locked := none }) _
  jvm_step X₁.here [X₁.here.top, hexec, d3', Value.category]
  exact X₁.ldcStringW hexec (own := own) (text := text) (index := is) (a := sa) hown' hstr'.1 hstr'.2
    (g := { method := m, pc := pc + 4, locals := ls, stack := .ref T.heap.size :: .ref T.heap.size :: rest, locked := none }) rfl d4' _ hsteps
end Ends
section Bodies
variable {l : Launch}
theorem vx_ofW {y : MethodName} {ws ws' : List Cond} {rm : Room} {Pc : Array Value → State → Prop} {Qc : Array Value → State → Outcome → State → Prop} {XC : String → State → State → Prop} {mc ms : Nat} {free : Addr → Prop} {cc : ByteArray} {maxL : Nat} {ret : Option FieldType}
    (hy : plainName y.cls = true) (hw : ws = Cond.code y cc maxL ret :: ws')
    (body : ∀ p e s m args below meth c s₁, BodyLoose p l y (headSpec ws rm) cc maxL ret e s m args below meth c s₁ → c.maxLocals = maxL → (∀ x ∈ c.exceptionTable.toList, False) → Pc args s →
      W p l e (headSpec ws rm).room s m args below meth c s.heap [] 0 0 (vx_MQ below Qc XC args s mc ms free) (entryFrame m args maxL)) : vx_Met l y ws rm Pc Qc XC mc ms free := by
  refine MetFree.of_bodyS (code := cc) (maxLocals := maxL) (ret := ret) hy ?_ ?_
  · intro args s m h hn
    obtain ⟨meth, c, h1, h2, h3, h4, h5, h6, -, -⟩ := Cond.code_spec hn (atoms_spec (ws := ws) h _ (by rw [hw]; exact List.mem_cons_self))
    exact ⟨meth, c, h1, h2, h3, h4, h5, h6⟩
  · intro p e s m args below meth c s₁ B hml hP _
    have hh0 : s₁.heap = s.heap := by rw [B.state]; rfl
    have ht : ∀ x ∈ c.exceptionTable.toList, False := by
      obtain ⟨meth9, c9, h1, h2, -, -, -, -, h7, -⟩ := Cond.code_spec B.named (atoms_spec (ws := ws) B.pre _ (by rw [hw]; exact List.mem_cons_self))
      cases Option.some.inj (h1.symm.trans B.method)
      cases Option.some.inj (h2.symm.trans (Stand.of_body B).code)
      intro x hx
      rw [Array.isEmpty_iff.mp h7] at hx
      cases hx
    obtain ⟨t, a1, o, b1, b2, b3⟩ := body p e s m args below meth c s₁ B hml ht hP s₁ hh0 (Stand.of_body B)
    exact ⟨t, o, a1, b1, b2, b3⟩
/-- the table of a body with handlers -/
theorem vx_table {p : Program} {x y : MethodName} {S : Spec} {cc bytes : ByteArray} {maxL maxL' : Nat} {ret ret' : Option FieldType} {e : Env} {s s₁ : State} {m : MethodId} {args : Array Value} {below : List Frame} {meth : Method} {c : Code} {hh : List (Nat × Nat × Nat × Nat)}
    (B : BodyLoose p l y S cc maxL ret e s m args below meth c s₁) (h : (Cond.codeWith y bytes maxL' ret' hh).before args s = true) : c.exceptionTable.toList = tableOf hh := by
  obtain ⟨m9, meth9, c9, hn9, h1, h2, -, -, h6, -⟩ := Cond.codeWith_spec h
  cases Option.some.inj (hn9.symm.trans B.named)
  cases Option.some.inj (h1.symm.trans B.method)
  cases Option.some.inj (h2.symm.trans (Stand.of_body B).code)
  rw [← h6, table_eq]
end Bodies
end VXA
/-! ===== END ===== -/
/-! ===== BEGIN a static call of a method with an exception table ===== -/
section VXS
variable {p : Program} {l : Launch} {e : Env} {R : Room} {s : State} {m : MethodId} {args : Array Value} {below : List Frame} {meth : Method} {c : Code} {T : State} {H : Heap} {locs : List Loc} {cells slots : Nat}
abbrev vx_CSW (R : Room) (s : State) (args : Array Value) (own : String) (index : Nat) (y : MethodName) (bytes : ByteArray) (maxL : Nat) (ret : Option FieldType) (hh : List (Nat × Nat × Nat × Nat)) (ws : List Cond) (rm : Room) (mc ms n : Nat) : Prop :=
  (rm.cells = mc ∧ rm.slots = ms ∧ rm.frames + 1 ≤ R.frames ∧ 8 + (maxL + 11) + rm.locals ≤ R.locals ∧ (∀ w ∈ ws, ∀ (a' : Array Value) (U : State), s.WarmedH U.vm → w.before a' U = true) ∧ Cond.codeWith y bytes maxL ret hh ∈ ws) ∧
  (Cond.codeWith y bytes maxL ret hh).before args s = true ∧ (Cond.initialized y.cls).before args s = true ∧ (y.cls ≠ "java/lang/invoke/MethodHandle" ∧ y.cls ≠ "java/lang/invoke/VarHandle") ∧
  (∀ sig, parseMethodDescriptor y.desc = some sig → n = sig.parameters.length) ∧ (Cond.methodLink own index y).before args s = true ∧ (Cond.static y).before args s = true
theorem vx_cwSW {own : String} {index maxL mc ms : Nat} {y : MethodName} {bytes : ByteArray} {ret : Option FieldType} {hh : List (Nat × Nat × Nat × Nat)} {Ts ws ws' : List Cond} {rm : Room} (n : Nat) (ht : ∀ w ∈ Ts, w.before args s = true) (hT : GoodIn Ts (va_wsS own index y ws)) (hw : ws = Cond.codeWith y bytes maxL ret hh :: ws') (hrc : rm.cells = mc) (hrs : rm.slots = ms)
    (hd : y.cls ≠ "java/lang/invoke/MethodHandle" ∧ y.cls ≠ "java/lang/invoke/VarHandle" ∧ (parseMethodDescriptor y.desc).map (fun d => d.parameters.length) = some n) (hR : rm.frames + 1 ≤ R.frames ∧ 8 + (maxL + 11) + rm.locals ≤ R.locals) :
    vx_CSW R s args own index y bytes maxL ret hh ws rm mc ms n := by
  have ok : ∀ w ∈ va_wsS own index y ws, w.before args s = true := fun w h => ht w (hT w h).1
  have hG : GoodIn Ts ws := fun w h => hT w (by unfold va_wsS; exact List.mem_append_right _ h)
  have hc : Cond.codeWith y bytes maxL ret hh ∈ ws := by rw [hw]; exact List.mem_cons_self
  refine ⟨⟨hrc, hrs, hR.1, hR.2, pay_in ht hG, hc⟩, ht _ (hG _ hc).1, ok _ (by simp [va_wsS]), ⟨hd.1, hd.2.1⟩, fun sig h => ?_, ok _ (by simp [va_wsS]), ok _ (by simp [va_wsS])⟩
  have h2 := hd.2.2
  rw [h] at h2
  exact (Option.some.inj h2).symm
theorem vx_callSW (X : Stand p l e R s m args below meth c T locs cells slots) (hexec : p.tables.exec = Jvm.exec) {own : String} {index : Nat} {y : MethodName} {bytes : ByteArray} {maxL : Nat} {ret : Option FieldType} {hh : List (Nat × Nat × Nat × Nat)}
    (hown : s.vm.findClass own = some m.cls) (hlink : (Cond.methodLink own index y).before args s = true) (hstat : (Cond.static y).before args s = true) (hinit : (Cond.initialized y.cls).before args s = true)
    (hcode : (Cond.codeWith y bytes maxL ret hh).before args s = true) (hy : y.cls ≠ "java/lang/invoke/MethodHandle" ∧ y.cls ≠ "java/lang/invoke/VarHandle")
    {W9 : Nat} {Pre : Pt → Array Value → Prop} {Post : Pt → Array Value → Option Value → Pt → Prop} (hK : Back l R p e below s args y 3 W9 Pre Post)
    {g : JFrame} (hg : g.method = m) (hsize : g.locals.size = c.maxLocals) {argsL rest : List Value} (hlen : ∀ sig, parseMethodDescriptor y.desc = some sig → argsL.length = sig.parameters.length)
    (hstack : g.stack = argsL.reverse ++ rest) (hW : 2 * g.monitorRoom + (rest.map fun v => v.category).sum ≤ W9) (hdg : decode c.code g.pc = .ok (.invokestatic index, 3))
    (hpre : ∀ vm₁, s.WarmedH vm₁ → Pre ⟨T.setVm vm₁, locs, cells, slots⟩ argsL.toArray) :
    ∃ (v : Option Value) (vm₁ : Vm) (B : Pt), s.WarmedH vm₁ ∧ Stand p l e R s m args below meth c B.U B.locs B.cells B.slots ∧ Post ⟨T.setVm vm₁, locs, cells, slots⟩ argsL.toArray v B ∧
      ∀ target, Steps p.tables e below (B.U.setTop { g with pc := g.pc + 3, stack := v.toList ++ rest }) target → Steps p.tables e below (T.setTop g) target := by
  obtain ⟨mk, methM, cM, hnamed, hmethM, -, -, -, -, -, -, hsigM⟩ := Cond.codeWith_spec hcode
  have hstatic : methM.isStatic = true := Cond.static_spec hnamed hmethM hstat
  obtain ⟨kP, hkP, -⟩ := className_of_methodNamed hnamed
  have hinitP : kP.init = .initialized := Cond.initialized_spec (findClass_of_methodNamed hnamed) hkP hinit
  obtain ⟨vm₁, X₁, hstep₁⟩ := X.invokestatic hexec hown hlink hnamed hmethM hstatic hkP hinitP hy (g := g) hg (argsL := argsL) (rest := rest) (hlen _ hsigM) hstack hdg
  obtain ⟨v, B, X', hpost, hsteps⟩ := hK m meth c ⟨T.setVm vm₁, locs, cells, slots⟩ { g with stack := rest } (.invokestatic index) mk argsL.toArray X₁ hg hsize hdg hW (X₁.named hnamed) (hpre vm₁ X₁.warmed)
  exact ⟨v, vm₁, B, X₁.warmed, X', hpost, fun target h => hstep₁ _ fun acts => by rw [doInvoke_state]; exact hsteps.trans h⟩
theorem vx_runSW {y : MethodName} {bytes cc : ByteArray} {maxL nL mc ms n index : Nat} {ret : Option FieldType} {hh : List (Nat × Nat × Nat × Nat)} {ws : List Cond} {rm : Room} {Pc : Array Value → State → Prop} {Qc : Array Value → State → Outcome → State → Prop} {free : Addr → Prop} {Ts : List Cond} {own : String} {As rest : List Value} {g : JFrame}
    (S : CallFix p m c cc nL s args Ts own) (hM : Met l y ws rm Pc Qc mc ms free) (cw : vx_CSW R s args own index y bytes maxL ret hh ws rm mc ms n) (hp : PreS s H Pc As)
    (hg : g.method = m) (hn : As.length = n) (hsize : g.locals.size = nL) (hstack : g.stack = As.reverse ++ rest) (hW : 2 * g.monitorRoom + (rest.map fun v => v.category).sum ≤ 8) (hdg : decode cc g.pc = .ok (.invokestatic index, 3)) (hf : cells + mc ≤ R.cells ∧ slots + ms ≤ R.slots) :
    va_Run p l e R s m args below meth c H locs cells slots mc ms g rest (Qc As.toArray) (free) := by
  obtain ⟨⟨hrc, hrs, hfr, hlo, hws, hcw⟩, hcode, hini, hy, hlen, hl, hstt⟩ := cw
  have hK : Back l R p e below s args y 3 8 (PreOf R mc ms Pc) (PostOf Qc mc ms free) := va_backW (hh := hh) (bytes := bytes) (maxL := maxL) (ret := ret) hM hp.1 hrc hrs hfr hlo hws hcw (fun a' U hW => word_at hW (Or.inl (by first | rfl | simp [Cond.onTables, Cond.keeps, Cond.steady])) hini)
  obtain ⟨hx, hb, hml, ho, -⟩ := S
  intro T hT X
  obtain ⟨v, vm₁, ⟨U', l2, c2, s2⟩, hW₁, X', ⟨g', mk, t, L, e1, e2, hq, h1, hL, h2, h3⟩, st⟩ := vx_callSW X hx (hh := hh) (bytes := bytes) (maxL := maxL) (ret := ret) ho hl hstt hini hcode hy hK hg (hsize.trans hml.symm) (argsL := As) (rest := rest) (fun sig h => hn.trans (hlen sig h)) hstack hW (by rw [hb]; exact hdg)
    (fun vm₁ hW₁ => ⟨hf.1, hf.2, hp.2 (T.setVm vm₁) hT hW₁⟩)
  dsimp only [Pt.U, Pt.locs, Pt.cells, Pt.slots] at X' e1 e2 h1 h2 h3 st
  subst h1; subst h2; subst h3
  exact ⟨v, (T.setVm vm₁).calling g' mk As.toArray, t, U', L, hT, X', hL, e1, e2, hq, st⟩
/-- not caught here, past rows that name other classes: it goes on to the caller -/
theorem vx_outP {p : Program} {l : Launch} {e : Env} {R : Room} {s : State} {m : MethodId} {args : Array Value} {below : List Frame} {meth : Method} {c : Code} {H : Heap} {locs : List Loc} {cells slots : Nat} {free : Addr → Prop} {ls : Array Slot} {rest : List Value} {Qc : Array Value → State → Outcome → State → Prop} {XC : String → State → State → Prop}
    {pc : Nat} {own E : String} {ce : Cell} {q : Addr} {mc ms : Nat} (hown : s.vm.findClass own = some m.cls) (hlocks : meth.locks = false)
    (hpass : ∀ z ∈ c.exceptionTable.toList, covers z pc = false ∨ (z.catchType ≠ 0 ∧ ∃ nm : String, (Cond.classLink own z.catchType nm).before args s = true ∧ va_Nc E nm s)) (hcell : H[q]? = some ce) (hv : ce.vm = .none) (hcl : s.vm.findClass E = some ce.cls)
    (hx : ∀ t : State, t.heap = H → s.vm.Alike t.vm → XC E s t) (hf : ∀ z ∈ locs, free z.base) (hc : cells ≤ mc) (hs : slots ≤ ms) :
    vx_W p l e R s m args below meth c H locs cells slots (vx_MQ below Qc XC args s mc ms free) (F0 m pc ls rest) q := by
  intro T hT X
  have hpl : e.platform.magicAccessors = ({} : Platform).magicAccessors := by rw [X.admits.platform]
  obtain ⟨vm', hW', X', st⟩ := X.outThrough hlocks q (g := F0 m pc ls rest) rfl rfl rfl (cell := ce) (by rw [hT]; exact hcell) (by rw [hv]; rfl)
    (by obtain ⟨k9, h9, -⟩ := Vm.findClass_spec hcl; exact ⟨k9, h9⟩) (fun z hz => by
      rcases hpass z hz with h | ⟨hz0, nm, hl1, hn1⟩
      · exact Or.inl h
      · obtain ⟨c6, hc6, hcl6⟩ := Cond.classLink_spec hown hl1 e.platform hpl
        obtain ⟨a8, b8, h1, h2, h3⟩ := hn1
        cases Option.some.inj (h1.symm.trans hcl)
        cases Option.some.inj (h2.symm.trans hc6)
        exact Or.inr ⟨hz0, _, hcl6, h3⟩)
  obtain ⟨g₀, hfr⟩ := X'.frames_eq
  have hcell9 : ((T.setVm vm').setFrames (.throwing q :: below)).heap[q]? = some ce := by
    show T.heap[q]? = some ce
    rw [hT]; exact hcell
  have hend : Ended ((T.setVm vm').setFrames (.throwing q :: below)) below (.threw q) := State.frames_setFrames _ (State.cur_lt_of_frames hfr)
  refine ⟨(T.setVm vm').setFrames (.throwing q :: below), ?_, .threw q, X'.here.running, hend, Or.inr ⟨q, rfl, E, ce, locs, hx _ hT (X'.ends _).1.alike, hcell9, hv, hcl, (X'.ends _).1, (X'.ends _).2.mono hc hs, hf⟩⟩
  rw [X.pushThrowing_eq]
  exact st
/-- a thing of a world lies in the heap -/
theorem vx_lt {D : va_G} {cl : List vw_C} {ws : va_W} {H1 : Heap} (h : va_P D cl ws H1) {k : Nat} {q : Nat × va_E} (hk : ws[k]? = some q) : q.1 < H1.size := (h k q hk).lt
end VXS
/-! ===== END ===== -/
/-! ===== BEGIN methods with a table of their own: called by a name, returning or throwing ===== -/
section VXH
/-! vx_backW, vx_callVX, vx_callSX, vx_callVW, vx_runVW, vx_runVX, vx_runSX, vx_ofWH follow the same proofs as their sisters above (Free/Laws.lean, Shelf42/LK1.lean); vx_outP calls Shelf42/NT130.lean (outThrough). -/
section
variable {l : Launch} {R : Room} {p : Program} {e : Env} {below : List Frame} {s : State} {sargs : Array Value} {y : MethodName} {len W9 : Nat}
theorem vx_backW {ws : List Cond} {rm : Room} {Pc : Array Value → State → Prop} {Qc : Array Value → State → Outcome → State → Prop} {XC : String → State → State → Prop} {mc ms : Nat} {free : Addr → Prop} {bytes : ByteArray} {maxL : Nat} {ret : Option FieldType} {hh : List (Nat × Nat × Nat × Nat)}
    (hM : vx_Met l y ws rm Pc Qc XC mc ms free) (hblind : FrameBlind Pc) (hrc : rm.cells = mc) (hrs : rm.slots = ms)
    (hframes : rm.frames + 1 ≤ R.frames) (hlocals : W9 + (maxL + 11) + rm.locals ≤ R.locals)
    (hws : ∀ w ∈ ws, ∀ a' U, s.WarmedH U.vm → w.before a' U = true) (hcode : Cond.codeWith y bytes maxL ret hh ∈ ws) (hinit : ∀ a' U, s.WarmedH U.vm → (Cond.initialized y.cls).before a' U = true) :
    vx_Back l R p e below s sargs y len W9 (PreOf R mc ms Pc) (PostOf Qc mc ms free) (vx_Post XC mc ms free) := by
  intro m meth c A g ig mk a X hg hsize hdg hW hn hp
  have h1 : (headSpec ws rm).pre.before a A.U = true := atoms_intro fun w hw => hws w hw _ _ X.warmed
  have h2 : (Cond.codeWith y bytes maxL ret hh).before a A.U = true := hws _ hcode _ _ X.warmed
  have h3 : (Cond.initialized y.cls).before a A.U = true := hinit _ _ X.warmed
  have h4 : A.cells + (headSpec ws rm).room.cells ≤ R.cells := by rw [show (headSpec ws rm).room.cells = mc from hrc]; exact hp.1
  have h5 : A.slots + (headSpec ws rm).room.slots ≤ R.slots := by rw [show (headSpec ws rm).room.slots = ms from hrs]; exact hp.2.1
  have hPc : Pc a (A.U.calling g mk a) := hblind _ _ _ _ hp.2.2
  obtain ⟨U, Ls, c0, s0⟩ := A
  dsimp only [Pt.U, Pt.locs, Pt.cells, Pt.slots] at h1 h2 h3 h4 h5 X hn hPc ⊢
  obtain ⟨m9, methY, cY, hn9, hmY, hcY, -, hlY, -⟩ := Cond.codeWith_spec h2
  cases Option.some.inj (hn9.symm.trans hn)
  obtain ⟨kY, hkY, -⟩ := className_of_methodNamed hn
  have hinitY : kY.init = .initialized := Cond.initialized_spec (findClass_of_methodNamed hn) hkY h3
  have h : At U g.method c below := by rw [hg]; exact X.here
  have hlocals9 : W9 + (maxL + 11) + (headSpec ws rm).room.locals ≤ R.locals := hlocals
  have happ : (headSpec ws rm).appliesLoose y e.platform (U.calling g mk a) = true :=
    Spec.appliesLoose_calling (g := g) h hdg hn hkY hinitY
      (X.room_calling (g := g) (R' := (headSpec ws rm).room) hsize hmY hcY hframes (by rw [hlY]; omega) h4 h5) h1
  obtain ⟨mid, hmid⟩ := h.above
  have hfr : (U.setTop g).frames = (.java g :: mid) ++ below := by rw [State.frames_setTop' g h.top, hmid]; rfl
  obtain ⟨o, s₂, hsteps, -, hend, hq⟩ := Steps.callFree hM p X.admits X.cas X.clock (acts := []) hfr happ hPc trivial
  have hq' : vx_Q Qc XC mc ms free a (U.calling g mk a) o s₂ := hq
  rw [State.frames_setTop' g h.top] at hend
  obtain ⟨g₀, hg0⟩ := Option.isSome_iff_exists.mp h.top
  obtain ⟨r, hr⟩ := State.topJava?_eq_some.mp hg0
  have hr' : (({ U with heap := s₂.heap, slotsUsed := s₂.slotsUsed } : State).setVm s₂.vm).frames = .java g₀ :: r := hr
  rcases hq' with ⟨hqc, L, hfe, hL⟩ | ⟨q, rfl, E, ce, L, hx, hce, hcv, hcl, hW₂, hsm, hL⟩
  · obtain ⟨⟨v, rfl⟩, hW₂, e2, q2, q3, q4, q5, q6⟩ := id hfe
    have e3 : s₂ = ({ (U.calling g mk a).setFrames s₂.frames with heap := s₂.heap, slotsUsed := s₂.slotsUsed } : State).setVm s₂.vm := by
      have : s₂ = ({ s₂ with vm := (U.calling g mk a).vm } : State).setVm s₂.vm := rfl
      rw [e2] at this
      exact this
    obtain ⟨c₂, i₂, len₂, hc₂, hd₂, hf₂⟩ := hend
    have hW' : U.WarmedH s₂.vm := hW₂
    have hcc : c₂ = c := by
      have h1 : s₂.code? g.method = U.code? g.method := by
        rw [State.code?_eq, State.code?_eq, hW'.alike.method?]
      exact Option.some.inj (hc₂.symm.trans (h1.trans h.code))
    subst hcc
    have hlen : len₂ = len := by rw [hdg] at hd₂; cases hd₂; rfl
    subst hlen
    have hs₂ : s₂ = (({ U with heap := s₂.heap, slotsUsed := s₂.slotsUsed } : State).setVm s₂.vm).setTop { g with pc := g.pc + len₂, stack := v.toList ++ g.stack } := by
      refine e3.trans ?_
      rw [hf₂, State.calling_eq h.top, State.setFrames_setFrames, State.setTop_of_frames _ hr', hr]
      rfl
    have hsame : U.sameButNew ({ U with heap := s₂.heap, slotsUsed := s₂.slotsUsed } : State) L mc ms := by
      refine ⟨?_, q2, q3, q4, q5, q6⟩
      obtain ⟨t, ht, -⟩ := State.frames_cons hr
      show ({ U with heap := s₂.heap, slotsUsed := s₂.slotsUsed } : State) = { U.setFrames U.frames with heap := s₂.heap, slotsUsed := s₂.slotsUsed }
      rw [State.setFrames_self ht]
    subst hg
    refine Or.inl ⟨v, ⟨(({ U with heap := s₂.heap, slotsUsed := s₂.slotsUsed } : State).setVm s₂.vm), Ls ++ L, c0 + mc, s0 + ms⟩,
      ⟨X.admits, X.cas, X.clock, X.frames, X.room, X.hears, X.method, X.code, (X.here.setHeapUsed s₂.heap s₂.slotsUsed).setVm hW'.alike, X.tail, State.WarmedH.trans X.warmed hW', X.limits, X.bytes, X.same.trans (hsame.setVm s.vm)⟩,
      ⟨g, mk, s₂, L, rfl, rfl, hqc, rfl, hL, rfl, rfl⟩, ?_⟩
    show Steps p.tables e below _ ((({ U with heap := s₂.heap, slotsUsed := s₂.slotsUsed } : State).setVm s₂.vm).setTop { g with pc := g.pc + len₂, stack := v.toList ++ g.stack })
    rw [← hs₂]
    exact hsteps
  · obtain ⟨e2, q2, q3, q4, q5, q6⟩ := id hsm
    have e3 : s₂ = ({ (U.calling g mk a).setFrames s₂.frames with heap := s₂.heap, slotsUsed := s₂.slotsUsed } : State).setVm s₂.vm := by
      have : s₂ = ({ s₂ with vm := (U.calling g mk a).vm } : State).setVm s₂.vm := rfl
      rw [e2] at this
      exact this
    have hf₂ : s₂.frames = .throwing q :: .java g :: U.frames.tail := hend
    have hW' : U.WarmedH s₂.vm := hW₂
    have hs₂ : s₂ = ((({ U with heap := s₂.heap, slotsUsed := s₂.slotsUsed } : State).setVm s₂.vm).setTop g).pushFrame (.throwing q) := by
      refine e3.trans ?_
      rw [hf₂, State.calling_eq h.top, State.setFrames_setFrames, State.pushFrame, State.frames_setTop _ hr', State.setTop_of_frames _ hr', State.setFrames_setFrames, hr]
      rfl
    have hsame : U.sameButNew ({ U with heap := s₂.heap, slotsUsed := s₂.slotsUsed } : State) L mc ms := by
      refine ⟨?_, q2, q3, q4, q5, q6⟩
      obtain ⟨t, ht, -⟩ := State.frames_cons hr
      show ({ U with heap := s₂.heap, slotsUsed := s₂.slotsUsed } : State) = { U.setFrames U.frames with heap := s₂.heap, slotsUsed := s₂.slotsUsed }
      rw [State.setFrames_self ht]
    subst hg
    refine Or.inr ⟨q, ⟨(({ U with heap := s₂.heap, slotsUsed := s₂.slotsUsed } : State).setVm s₂.vm), Ls ++ L, c0 + mc, s0 + ms⟩,
      ⟨X.admits, X.cas, X.clock, X.frames, X.room, X.hears, X.method, X.code, (X.here.setHeapUsed s₂.heap s₂.slotsUsed).setVm hW'.alike, X.tail, State.WarmedH.trans X.warmed hW', X.limits, X.bytes, X.same.trans (hsame.setVm s.vm)⟩,
      ⟨g, mk, s₂, L, E, ce, rfl, rfl, hx, hce, hcv, hcl, rfl, hL, rfl, rfl⟩, ?_⟩
    show Steps p.tables e below _ (((({ U with heap := s₂.heap, slotsUsed := s₂.slotsUsed } : State).setVm s₂.vm).setTop g).pushFrame (.throwing q))
    rw [← hs₂]
    exact hsteps
end
variable {p : Program} {l : Launch} {e : Env} {R : Room} {s : State} {m : MethodId} {args : Array Value} {below : List Frame} {meth : Method} {c : Code} {T : State} {H : Heap} {locs : List Loc} {cells slots : Nat}
theorem vx_callVX (X : Stand p l e R s m args below meth c T locs cells slots) (hexec : p.tables.exec = Jvm.exec) {own C : String} {index : Nat} {y : MethodName} {bytes : ByteArray} {maxL : Nat} {ret : Option FieldType} {hh : List (Nat × Nat × Nat × Nat)}
    (hown : s.vm.findClass own = some m.cls) (hlink : (Cond.methodLink own index y).before args s = true) (hinst : (Cond.instanceMethod y).before args s = true) (hsel : (Cond.selects C y y).before args s = true)
    (hcode : (Cond.codeWith y bytes maxL ret hh).before args s = true) (hy : y.cls ≠ "java/lang/invoke/MethodHandle" ∧ y.cls ≠ "java/lang/invoke/VarHandle")
    {W9 : Nat} {Pre : Pt → Array Value → Prop} {Post : Pt → Array Value → Option Value → Pt → Prop} {PostX : Pt → Array Value → Addr → Pt → Prop} (hK : vx_Back l R p e below s args y 3 W9 Pre Post PostX)
    {b : Addr} {cellB : Cell} (hcell : T.heap[b]? = some cellB) (hobj : cellB.vm.isStatics = false) (hcls : s.vm.findClass C = some cellB.cls)
    {g : JFrame} (hg : g.method = m) (hsize : g.locals.size = c.maxLocals) {argsL rest : List Value} (hlen : ∀ sig, parseMethodDescriptor y.desc = some sig → argsL.length = sig.parameters.length)
    (hstack : g.stack = argsL.reverse ++ .ref b :: rest) (hW : 2 * g.monitorRoom + (rest.map fun v => v.category).sum ≤ W9) (hdg : decode c.code g.pc = .ok (.invokevirtual index, 3))
    (hpre : ∀ vm₁, s.WarmedH vm₁ → Pre ⟨T.setVm vm₁, locs, cells, slots⟩ (Value.ref b :: argsL).toArray) :
    (∃ (v : Option Value) (vm₁ : Vm) (B : Pt), s.WarmedH vm₁ ∧ Stand p l e R s m args below meth c B.U B.locs B.cells B.slots ∧ Post ⟨T.setVm vm₁, locs, cells, slots⟩ (Value.ref b :: argsL).toArray v B ∧
      ∀ target, Steps p.tables e below (B.U.setTop { g with pc := g.pc + 3, stack := v.toList ++ rest }) target → Steps p.tables e below (T.setTop g) target) ∨
    (∃ (q : Addr) (vm₁ : Vm) (B : Pt), s.WarmedH vm₁ ∧ Stand p l e R s m args below meth c B.U B.locs B.cells B.slots ∧ PostX ⟨T.setVm vm₁, locs, cells, slots⟩ (Value.ref b :: argsL).toArray q B ∧
      Steps p.tables e below (T.setTop g) ((B.U.setTop { g with stack := rest }).pushFrame (.throwing q))) := by
  obtain ⟨mk, methM, hnamed, hmethM, hstM, habM⟩ := Cond.instanceMethod_spec hinst
  obtain ⟨m8, methM', cM, hn8, hmethM', -, -, -, -, -, -, hsigM⟩ := Cond.codeWith_spec hcode
  cases Option.some.inj (hn8.symm.trans hnamed)
  cases hmethM.symm.trans hmethM'
  obtain ⟨c2, r2, m2, q1, q2, q3, q4, kP, hkP, hkPi⟩ := Cond.selects_spec hsel
  cases hcls.symm.trans q1
  cases (State.methodFound?_of_named hnamed hy).symm.trans q2
  cases hnamed.symm.trans q3
  have hselP : selectMethod e.platform s.vm cellB.cls mk = .method mk := by rw [Launch.admits_selectMethod X.admits]; exact q4
  obtain ⟨vm₁, X₁, hstep₁⟩ := X.invokevirtual hexec hown hlink hnamed hmethM hstM hkP hkPi hy (a := b) (cell := cellB) hcell
    (fun z h => by rw [h] at hobj; cases hobj) hselP hmethM habM hkP hkPi (g := g) hg (argsL := argsL) (rest := rest) (hlen _ hsigM) hstack hdg
  rcases hK m meth c ⟨T.setVm vm₁, locs, cells, slots⟩ { g with stack := rest } (.invokevirtual index) mk (Value.ref b :: argsL).toArray X₁ hg hsize hdg hW (X₁.named hnamed) (hpre vm₁ X₁.warmed) with ⟨v, B, X', hpost, hsteps⟩ | ⟨q, B, X', hpost, hsteps⟩
  · exact Or.inl ⟨v, vm₁, B, X₁.warmed, X', hpost, fun target h => hstep₁ _ fun acts => by rw [doInvoke_state]; exact hsteps.trans h⟩
  · exact Or.inr ⟨q, vm₁, B, X₁.warmed, X', hpost, hstep₁ _ fun acts => by rw [doInvoke_state]; exact hsteps⟩
theorem vx_callSX (X : Stand p l e R s m args below meth c T locs cells slots) (hexec : p.tables.exec = Jvm.exec) {own : String} {index : Nat} {y : MethodName} {bytes : ByteArray} {maxL : Nat} {ret : Option FieldType} {hh : List (Nat × Nat × Nat × Nat)}
    (hown : s.vm.findClass own = some m.cls) (hlink : (Cond.methodLink own index y).before args s = true) (hstat : (Cond.static y).before args s = true) (hinit : (Cond.initialized y.cls).before args s = true)
    (hcode : (Cond.codeWith y bytes maxL ret hh).before args s = true) (hy : y.cls ≠ "java/lang/invoke/MethodHandle" ∧ y.cls ≠ "java/lang/invoke/VarHandle")
    {W9 : Nat} {Pre : Pt → Array Value → Prop} {Post : Pt → Array Value → Option Value → Pt → Prop} {PostX : Pt → Array Value → Addr → Pt → Prop} (hK : vx_Back l R p e below s args y 3 W9 Pre Post PostX)
    {g : JFrame} (hg : g.method = m) (hsize : g.locals.size = c.maxLocals) {argsL rest : List Value} (hlen : ∀ sig, parseMethodDescriptor y.desc = some sig → argsL.length = sig.parameters.length)
    (hstack : g.stack = argsL.reverse ++ rest) (hW : 2 * g.monitorRoom + (rest.map fun v => v.category).sum ≤ W9) (hdg : decode c.code g.pc = .ok (.invokestatic index, 3))
    (hpre : ∀ vm₁, s.WarmedH vm₁ → Pre ⟨T.setVm vm₁, locs, cells, slots⟩ argsL.toArray) :
    (∃ (v : Option Value) (vm₁ : Vm) (B : Pt), s.WarmedH vm₁ ∧ Stand p l e R s m args below meth c B.U B.locs B.cells B.slots ∧ Post ⟨T.setVm vm₁, locs, cells, slots⟩ argsL.toArray v B ∧
      ∀ target, Steps p.tables e below (B.U.setTop { g with pc := g.pc + 3, stack := v.toList ++ rest }) target → Steps p.tables e below (T.setTop g) target) ∨
    (∃ (q : Addr) (vm₁ : Vm) (B : Pt), s.WarmedH vm₁ ∧ Stand p l e R s m args below meth c B.U B.locs B.cells B.slots ∧ PostX ⟨T.setVm vm₁, locs, cells, slots⟩ argsL.toArray q B ∧
      Steps p.tables e below (T.setTop g) ((B.U.setTop { g with stack := rest }).pushFrame (.throwing q))) := by
  obtain ⟨mk, methM, cM, hnamed, hmethM, -, -, -, -, -, -, hsigM⟩ := Cond.codeWith_spec hcode
  have hstatic : methM.isStatic = true := Cond.static_spec hnamed hmethM hstat
  obtain ⟨kP, hkP, -⟩ := className_of_methodNamed hnamed
  have hinitP : kP.init = .initialized := Cond.initialized_spec (findClass_of_methodNamed hnamed) hkP hinit
  obtain ⟨vm₁, X₁, hstep₁⟩ := X.invokestatic hexec hown hlink hnamed hmethM hstatic hkP hinitP hy (g := g) hg (argsL := argsL) (rest := rest) (hlen _ hsigM) hstack hdg
  rcases hK m meth c ⟨T.setVm vm₁, locs, cells, slots⟩ { g with stack := rest } (.invokestatic index) mk argsL.toArray X₁ hg hsize hdg hW (X₁.named hnamed) (hpre vm₁ X₁.warmed) with ⟨v, B, X', hpost, hsteps⟩ | ⟨q, B, X', hpost, hsteps⟩
  · exact Or.inl ⟨v, vm₁, B, X₁.warmed, X', hpost, fun target h => hstep₁ _ fun acts => by rw [doInvoke_state]; exact hsteps.trans h⟩
  · exact Or.inr ⟨q, vm₁, B, X₁.warmed, X', hpost, hstep₁ _ fun acts => by rw [doInvoke_state]; exact hsteps⟩
theorem vx_callVW (X : Stand p l e R s m args below meth c T locs cells slots) (hexec : p.tables.exec = Jvm.exec) {own C : String} {index : Nat} {y : MethodName} {bytes : ByteArray} {maxL : Nat} {ret : Option FieldType} {hh : List (Nat × Nat × Nat × Nat)}
    (hown : s.vm.findClass own = some m.cls) (hlink : (Cond.methodLink own index y).before args s = true) (hinst : (Cond.instanceMethod y).before args s = true) (hsel : (Cond.selects C y y).before args s = true)
    (hcode : (Cond.codeWith y bytes maxL ret hh).before args s = true) (hy : y.cls ≠ "java/lang/invoke/MethodHandle" ∧ y.cls ≠ "java/lang/invoke/VarHandle")
    {W9 : Nat} {Pre : Pt → Array Value → Prop} {Post : Pt → Array Value → Option Value → Pt → Prop} (hK : Back l R p e below s args y 3 W9 Pre Post)
    {b : Addr} {cellB : Cell} (hcell : T.heap[b]? = some cellB) (hobj : cellB.vm.isStatics = false) (hcls : s.vm.findClass C = some cellB.cls)
    {g : JFrame} (hg : g.method = m) (hsize : g.locals.size = c.maxLocals) {argsL rest : List Value} (hlen : ∀ sig, parseMethodDescriptor y.desc = some sig → argsL.length = sig.parameters.length)
    (hstack : g.stack = argsL.reverse ++ .ref b :: rest) (hW : 2 * g.monitorRoom + (rest.map fun v => v.category).sum ≤ W9) (hdg : decode c.code g.pc = .ok (.invokevirtual index, 3))
    (hpre : ∀ vm₁, s.WarmedH vm₁ → Pre ⟨T.setVm vm₁, locs, cells, slots⟩ (Value.ref b :: argsL).toArray) :
    ∃ (v : Option Value) (vm₁ : Vm) (B : Pt), s.WarmedH vm₁ ∧ Stand p l e R s m args below meth c B.U B.locs B.cells B.slots ∧ Post ⟨T.setVm vm₁, locs, cells, slots⟩ (Value.ref b :: argsL).toArray v B ∧
      ∀ target, Steps p.tables e below (B.U.setTop { g with pc := g.pc + 3, stack := v.toList ++ rest }) target → Steps p.tables e below (T.setTop g) target := by
  obtain ⟨mk, methM, hnamed, hmethM, hstM, habM⟩ := Cond.instanceMethod_spec hinst
  obtain ⟨m8, methM', cM, hn8, hmethM', -, -, -, -, -, -, hsigM⟩ := Cond.codeWith_spec hcode
  cases Option.some.inj (hn8.symm.trans hnamed)
  cases hmethM.symm.trans hmethM'
  obtain ⟨c2, r2, m2, q1, q2, q3, q4, kP, hkP, hkPi⟩ := Cond.selects_spec hsel
  cases hcls.symm.trans q1
  cases (State.methodFound?_of_named hnamed hy).symm.trans q2
  cases hnamed.symm.trans q3
  have hselP : selectMethod e.platform s.vm cellB.cls mk = .method mk := by rw [Launch.admits_selectMethod X.admits]; exact q4
  obtain ⟨vm₁, X₁, hstep₁⟩ := X.invokevirtual hexec hown hlink hnamed hmethM hstM hkP hkPi hy (a := b) (cell := cellB) hcell
    (fun z h => by rw [h] at hobj; cases hobj) hselP hmethM habM hkP hkPi (g := g) hg (argsL := argsL) (rest := rest) (hlen _ hsigM) hstack hdg
  obtain ⟨v, B, X', hpost, hsteps⟩ := hK m meth c ⟨T.setVm vm₁, locs, cells, slots⟩ { g with stack := rest } (.invokevirtual index) mk (Value.ref b :: argsL).toArray X₁ hg hsize hdg hW (X₁.named hnamed) (hpre vm₁ X₁.warmed)
  exact ⟨v, vm₁, B, X₁.warmed, X', hpost, fun target h => hstep₁ _ fun acts => by rw [doInvoke_state]; exact hsteps.trans h⟩
abbrev vx_CVW (R : Room) (s : State) (args : Array Value) (own C : String) (index : Nat) (y : MethodName) (bytes : ByteArray) (maxL : Nat) (ret : Option FieldType) (hh : List (Nat × Nat × Nat × Nat)) (ws : List Cond) (rm : Room) (mc ms n : Nat) : Prop :=
  (rm.cells = mc ∧ rm.slots = ms ∧ rm.frames + 1 ≤ R.frames ∧ 8 + (maxL + 11) + rm.locals ≤ R.locals ∧ (∀ w ∈ ws, ∀ (a' : Array Value) (U : State), s.WarmedH U.vm → w.before a' U = true) ∧ Cond.codeWith y bytes maxL ret hh ∈ ws) ∧
  (Cond.codeWith y bytes maxL ret hh).before args s = true ∧ (Cond.initialized y.cls).before args s = true ∧ (y.cls ≠ "java/lang/invoke/MethodHandle" ∧ y.cls ≠ "java/lang/invoke/VarHandle") ∧
  (∀ sig, parseMethodDescriptor y.desc = some sig → n = sig.parameters.length) ∧ (Cond.methodLink own index y).before args s = true ∧ (Cond.instanceMethod y).before args s = true ∧ (Cond.selects C y y).before args s = true
theorem vx_cwVW {own C : String} {index maxL mc ms : Nat} {y : MethodName} {bytes : ByteArray} {ret : Option FieldType} {hh : List (Nat × Nat × Nat × Nat)} {Ts ws ws' : List Cond} {rm : Room} (n : Nat) (ht : ∀ w ∈ Ts, w.before args s = true) (hT : GoodIn Ts (wsV own index C y ws)) (hw : ws = Cond.codeWith y bytes maxL ret hh :: ws') (hrc : rm.cells = mc) (hrs : rm.slots = ms)
    (hd : y.cls = C ∧ y.cls ≠ "java/lang/invoke/MethodHandle" ∧ y.cls ≠ "java/lang/invoke/VarHandle" ∧ (parseMethodDescriptor y.desc).map (fun d => d.parameters.length) = some n) (hR : rm.frames + 1 ≤ R.frames ∧ 8 + (maxL + 11) + rm.locals ≤ R.locals) :
    vx_CVW R s args own C index y bytes maxL ret hh ws rm mc ms n := by
  obtain ⟨hC, hd⟩ := hd
  subst hC
  have ok : ∀ w ∈ wsV own index y.cls y ws, w.before args s = true := fun w h => ht w (hT w h).1
  have hG : GoodIn Ts ws := fun w h => hT w (by unfold wsV; exact List.mem_append_right _ h)
  have hc : Cond.codeWith y bytes maxL ret hh ∈ ws := by rw [hw]; exact List.mem_cons_self
  refine ⟨⟨hrc, hrs, hR.1, hR.2, pay_in ht hG, hc⟩, ht _ (hG _ hc).1, ok _ (by simp [wsV]), ⟨hd.1, hd.2.1⟩, fun sig h => ?_, ok _ (by simp [wsV]), ok _ (by simp [wsV]), ok _ (by simp [wsV])⟩
  have h2 := hd.2.2
  rw [h] at h2
  exact (Option.some.inj h2).symm
theorem vx_runVW {y : MethodName} {bytes cc : ByteArray} {maxL nL mc ms n index : Nat} {ret : Option FieldType} {hh : List (Nat × Nat × Nat × Nat)} {ws : List Cond} {rm : Room} {Pc : Array Value → State → Prop} {Qc : Array Value → State → Outcome → State → Prop} {free : Addr → Prop} {Ts : List Cond} {own C : String} {b : Addr} {As rest : List Value} {g : JFrame}
    (S : CallFix p m c cc nL s args Ts own) (hM : Met l y ws rm Pc Qc mc ms free) (cw : vx_CVW R s args own C index y bytes maxL ret hh ws rm mc ms n) (hp : PreV s H C b Pc As)
    (hg : g.method = m) (hn : As.length = n) (hsize : g.locals.size = nL) (hstack : g.stack = As.reverse ++ .ref b :: rest) (hW : 2 * g.monitorRoom + (rest.map fun v => v.category).sum ≤ 8) (hdg : decode cc g.pc = .ok (.invokevirtual index, 3)) (hf : cells + mc ≤ R.cells ∧ slots + ms ≤ R.slots) :
    va_Run p l e R s m args below meth c H locs cells slots mc ms g rest (Qc (Value.ref b :: As).toArray) free := by
  obtain ⟨⟨hrc, hrs, hfr, hlo, hws, hcw⟩, hcode, hini, hy, hlen, hl, hin, hse⟩ := cw
  have hK : Back l R p e below s args y 3 8 (PreOf R mc ms Pc) (PostOf Qc mc ms free) := va_backW (hh := hh) (bytes := bytes) (maxL := maxL) (ret := ret) hM hp.1 hrc hrs hfr hlo hws hcw (fun a' U hW => word_at hW (Or.inl (by first | rfl | simp [Cond.onTables, Cond.keeps, Cond.steady])) hini)
  obtain ⟨hx, hb, hml, ho, -⟩ := S
  obtain ⟨-, ⟨cellB, hcB, hoB, hclB⟩, hPc⟩ := hp
  intro T hT X
  obtain ⟨v, vm₁, ⟨U', l2, c2, s2⟩, hW₁, X', ⟨g', mk, t, L, e1, e2, hq, h1, hL, h2, h3⟩, st⟩ := vx_callVW X hx (C := C) (hh := hh) (bytes := bytes) (maxL := maxL) (ret := ret) ho hl hin hse hcode hy hK (by rw [hT]; exact hcB) hoB hclB hg (hsize.trans hml.symm) (argsL := As) (rest := rest) (fun sig h => hn.trans (hlen sig h)) hstack hW (by rw [hb]; exact hdg)
    (fun vm₁ hW₁ => ⟨hf.1, hf.2, hPc (T.setVm vm₁) hT hW₁⟩)
  dsimp only [Pt.U, Pt.locs, Pt.cells, Pt.slots] at X' e1 e2 h1 h2 h3 st
  subst h1; subst h2; subst h3
  exact ⟨v, (T.setVm vm₁).calling g' mk (Value.ref b :: As).toArray, t, U', L, hT, X', hL, e1, e2, hq, st⟩
section
variable {y : MethodName} {bytes cc : ByteArray} {maxL nL mc ms n index : Nat} {ret : Option FieldType} {ws : List Cond} {rm : Room} {Pc : Array Value → State → Prop} {Qc : Array Value → State → Outcome → State → Prop} {XC : String → State → State → Prop} {free : Addr → Prop} {Ts : List Cond} {own C : String} {b : Addr} {As rest : List Value} {g : JFrame}
theorem vx_runVX {hh : List (Nat × Nat × Nat × Nat)} (S : CallFix p m c cc nL s args Ts own) (hM : vx_Met l y ws rm Pc Qc XC mc ms free) (cw : vx_CVW R s args own C index y bytes maxL ret hh ws rm mc ms n) (hp : PreV s H C b Pc As)
    (hg : g.method = m) (hn : As.length = n) (hsize : g.locals.size = nL) (hstack : g.stack = As.reverse ++ .ref b :: rest) (hW : 2 * g.monitorRoom + (rest.map fun v => v.category).sum ≤ 8) (hdg : decode cc g.pc = .ok (.invokevirtual index, 3)) (hf : cells + mc ≤ R.cells ∧ slots + ms ≤ R.slots) :
    vx_Run p l e R s m args below meth c H locs cells slots mc ms g rest (Qc (Value.ref b :: As).toArray) XC free := by
  obtain ⟨⟨hrc, hrs, hfr, hlo, hws, hcw⟩, hcode, hini, hy, hlen, hl, hin, hse⟩ := cw
  have hK : vx_Back l R p e below s args y 3 8 (PreOf R mc ms Pc) (PostOf Qc mc ms free) (vx_Post XC mc ms free) := vx_backW (hh := hh) (bytes := bytes) (maxL := maxL) (ret := ret) hM hp.1 hrc hrs hfr hlo hws hcw (fun a' U hW => word_at hW (Or.inl (by first | rfl | simp [Cond.onTables, Cond.keeps, Cond.steady])) hini)
  obtain ⟨hx, hb, hml, ho, -⟩ := S
  obtain ⟨-, ⟨cellB, hcB, hoB, hclB⟩, hPc⟩ := hp
  intro T hT X
  rcases vx_callVX X hx (C := C) (hh := hh) (bytes := bytes) (maxL := maxL) (ret := ret) ho hl hin hse hcode hy hK (by rw [hT]; exact hcB) hoB hclB hg (hsize.trans hml.symm) (argsL := As) (rest := rest) (fun sig h => hn.trans (hlen sig h)) hstack hW (by rw [hb]; exact hdg)
    (fun vm₁ hW₁ => ⟨hf.1, hf.2, hPc (T.setVm vm₁) hT hW₁⟩) with ⟨v, vm₁, ⟨U', l2, c2, s2⟩, hW₁, X', ⟨g', mk, t, L, e1, e2, hq, h1, hL, h2, h3⟩, st⟩ | ⟨q, vm₁, ⟨U', l2, c2, s2⟩, hW₁, X', ⟨g', mk, t, L, E, ce, e1, e2, hq, hce, hcv, hcl, h1, hL, h2, h3⟩, st⟩
  · dsimp only [Pt.U, Pt.locs, Pt.cells, Pt.slots] at X' e1 e2 h1 h2 h3 st
    subst h1; subst h2; subst h3
    exact Or.inl ⟨v, (T.setVm vm₁).calling g' mk (Value.ref b :: As).toArray, t, U', L, hT, X', hL, e1, e2, hq, st⟩
  · dsimp only [Pt.U, Pt.locs, Pt.cells, Pt.slots] at X' e1 e2 h1 h2 h3 st hcl
    subst h1; subst h2; subst h3
    exact Or.inr ⟨q, (T.setVm vm₁).calling g' mk (Value.ref b :: As).toArray, t, U', L, E, ce, hT, X', hL, e1, e2, hq, hce, hcv, vx_cls hW₁ hcl, st⟩
theorem vx_runSX {hh : List (Nat × Nat × Nat × Nat)} (S : CallFix p m c cc nL s args Ts own) (hM : vx_Met l y ws rm Pc Qc XC mc ms free) (cw : vx_CSW R s args own index y bytes maxL ret hh ws rm mc ms n) (hp : PreS s H Pc As)
    (hg : g.method = m) (hn : As.length = n) (hsize : g.locals.size = nL) (hstack : g.stack = As.reverse ++ rest) (hW : 2 * g.monitorRoom + (rest.map fun v => v.category).sum ≤ 8) (hdg : decode cc g.pc = .ok (.invokestatic index, 3)) (hf : cells + mc ≤ R.cells ∧ slots + ms ≤ R.slots) :
    vx_Run p l e R s m args below meth c H locs cells slots mc ms g rest (Qc As.toArray) XC free := by
  obtain ⟨⟨hrc, hrs, hfr, hlo, hws, hcw⟩, hcode, hini, hy, hlen, hl, hstt⟩ := cw
  have hK : vx_Back l R p e below s args y 3 8 (PreOf R mc ms Pc) (PostOf Qc mc ms free) (vx_Post XC mc ms free) := vx_backW (hh := hh) (bytes := bytes) (maxL := maxL) (ret := ret) hM hp.1 hrc hrs hfr hlo hws hcw (fun a' U hW => word_at hW (Or.inl (by first | rfl | simp [Cond.onTables, Cond.keeps, Cond.steady])) hini)
  obtain ⟨hx, hb, hml, ho, -⟩ := S
  intro T hT X
  rcases vx_callSX X hx (hh := hh) (bytes := bytes) (maxL := maxL) (ret := ret) ho hl hstt hini hcode hy hK hg (hsize.trans hml.symm) (argsL := As) (rest := rest) (fun sig h => hn.trans (hlen sig h)) hstack hW (by rw [hb]; exact hdg)
    (fun vm₁ hW₁ => ⟨hf.1, hf.2, hp.2 (T.setVm vm₁) hT hW₁⟩) with ⟨v, vm₁, ⟨U', l2, c2, s2⟩, hW₁, X', ⟨g', mk, t, L, e1, e2, hq, h1, hL, h2, h3⟩, st⟩ | ⟨q, vm₁, ⟨U', l2, c2, s2⟩, hW₁, X', ⟨g', mk, t, L, E, ce, e1, e2, hq, hce, hcv, hcl, h1, hL, h2, h3⟩, st⟩
  · dsimp only [Pt.U, Pt.locs, Pt.cells, Pt.slots] at X' e1 e2 h1 h2 h3 st
    subst h1; subst h2; subst h3
    exact Or.inl ⟨v, (T.setVm vm₁).calling g' mk As.toArray, t, U', L, hT, X', hL, e1, e2, hq, st⟩
  · dsimp only [Pt.U, Pt.locs, Pt.cells, Pt.slots] at X' e1 e2 h1 h2 h3 st hcl
    subst h1; subst h2; subst h3
    exact Or.inr ⟨q, (T.setVm vm₁).calling g' mk As.toArray, t, U', L, E, ce, hT, X', hL, e1, e2, hq, hce, hcv, vx_cls hW₁ hcl, st⟩
end
end VXH
theorem vx_ofWH {l : Launch} {y : MethodName} {ws ws' : List Cond} {rm : Room} {Pc : Array Value → State → Prop} {Qc : Array Value → State → Outcome → State → Prop} {XC : String → State → State → Prop} {mc ms : Nat} {free : Addr → Prop} {cc : ByteArray} {maxL : Nat} {ret : Option FieldType} {hh : List (Nat × Nat × Nat × Nat)}
    (hy : plainName y.cls = true) (hw : ws = Cond.codeWith y cc maxL ret hh :: ws')
    (body : ∀ p e s m args below meth c s₁, BodyLoose p l y (headSpec ws rm) cc maxL ret e s m args below meth c s₁ → c.maxLocals = maxL → Pc args s →
      W p l e (headSpec ws rm).room s m args below meth c s.heap [] 0 0 (vx_MQ below Qc XC args s mc ms free) (entryFrame m args maxL)) : vx_Met l y ws rm Pc Qc XC mc ms free := by
  refine MetFree.of_bodyS (code := cc) (maxLocals := maxL) (ret := ret) hy ?_ ?_
  · intro args s m h hn
    obtain ⟨m9, meth, c, hn9, h1, h2, h3, h4, -, h5, h6, -⟩ := Cond.codeWith_spec (atoms_spec (ws := ws) h _ (by rw [hw]; exact List.mem_cons_self))
    cases hn.symm.trans hn9
    exact ⟨meth, c, h1, h2, h3, h4, h5, h6⟩
  · intro p e s m args below meth c s₁ B hml hP _
    have hh0 : s₁.heap = s.heap := by rw [B.state]; rfl
    obtain ⟨t, a1, o, b1, b2, b3⟩ := body p e s m args below meth c s₁ B hml hP s₁ hh0 (Stand.of_body B)
    exact ⟨t, o, a1, b1, b2, b3⟩
/-! ===== END ===== -/
end
section
-- ===== PART A: goes FIRST, ahead of the names: the tables' words, and 'selects' of the private methods out of them =====
/-- a private method of a class that the tables say can be made, by its rows of tables_1 -/
def lw_okq (q : MethodName × Nat) : Prop := (q.1.cls ≠ "java/lang/invoke/MethodHandle" ∧ q.1.cls ≠ "java/lang/invoke/VarHandle") ∧ Cond.instantiable q.1.cls q.2 ∈ tables_1 ∧ Cond.privateMethod q.1 ∈ tables_1 ∧ Cond.instanceMethod q.1 ∈ tables_1
theorem lw_p0 : lw_okq (⟨"EchoVale$Reader", "readRun", "()V"⟩, 11) := ⟨⟨by decide +kernel, by decide +kernel⟩, List.mem_of_getElem? (i := 35) (by decide +kernel), List.mem_of_getElem? (i := 559) (by decide +kernel), List.mem_of_getElem? (i := 560) (by decide +kernel)⟩
theorem lw_p1 : lw_okq (⟨"EchoVale$Reader", "keywordOf", "(J)I"⟩, 11) := ⟨⟨by decide +kernel, by decide +kernel⟩, List.mem_of_getElem? (i := 35) (by decide +kernel), List.mem_of_getElem? (i := 563) (by decide +kernel), List.mem_of_getElem? (i := 564) (by decide +kernel)⟩
theorem lw_p2 : lw_okq (⟨"EchoVale$ValleyText", "readLine", "()Z"⟩, 3) := ⟨⟨by decide +kernel, by decide +kernel⟩, List.mem_of_getElem? (i := 252) (by decide +kernel), List.mem_of_getElem? (i := 574) (by decide +kernel), List.mem_of_getElem? (i := 575) (by decide +kernel)⟩
theorem lw_p3 : lw_okq (⟨"EchoVale$ValleyText", "readLand", "()Z"⟩, 3) := ⟨⟨by decide +kernel, by decide +kernel⟩, List.mem_of_getElem? (i := 252) (by decide +kernel), List.mem_of_getElem? (i := 582) (by decide +kernel), List.mem_of_getElem? (i := 583) (by decide +kernel)⟩
theorem lw_p4 : lw_okq (⟨"EchoVale$ValleyText", "readCliff", "()Z"⟩, 3) := ⟨⟨by decide +kernel, by decide +kernel⟩, List.mem_of_getElem? (i := 252) (by decide +kernel), List.mem_of_getElem? (i := 592) (by decide +kernel), List.mem_of_getElem? (i := 593) (by decide +kernel)⟩
theorem lw_p5 : lw_okq (⟨"EchoVale$ValleyText", "isNewName", "()Z"⟩, 3) := ⟨⟨by decide +kernel, by decide +kernel⟩, List.mem_of_getElem? (i := 252) (by decide +kernel), List.mem_of_getElem? (i := 596) (by decide +kernel), List.mem_of_getElem? (i := 597) (by decide +kernel)⟩
theorem lw_p6 : lw_okq (⟨"EchoVale$ValleyText", "cellHere", "()I"⟩, 3) := ⟨⟨by decide +kernel, by decide +kernel⟩, List.mem_of_getElem? (i := 252) (by decide +kernel), List.mem_of_getElem? (i := 612) (by decide +kernel), List.mem_of_getElem? (i := 613) (by decide +kernel)⟩
theorem lw_p7 : lw_okq (⟨"EchoVale$ValleyText", "readPerson", "()Z"⟩, 3) := ⟨⟨by decide +kernel, by decide +kernel⟩, List.mem_of_getElem? (i := 252) (by decide +kernel), List.mem_of_getElem? (i := 620) (by decide +kernel), List.mem_of_getElem? (i := 621) (by decide +kernel)⟩
theorem lw_p8 : lw_okq (⟨"EchoVale$ValleyText", "readMove", "()Z"⟩, 3) := ⟨⟨by decide +kernel, by decide +kernel⟩, List.mem_of_getElem? (i := 252) (by decide +kernel), List.mem_of_getElem? (i := 624) (by decide +kernel), List.mem_of_getElem? (i := 625) (by decide +kernel)⟩
theorem lw_p9 : lw_okq (⟨"EchoVale$ValleyText", "readCamp", "()Z"⟩, 3) := ⟨⟨by decide +kernel, by decide +kernel⟩, List.mem_of_getElem? (i := 252) (by decide +kernel), List.mem_of_getElem? (i := 637) (by decide +kernel), List.mem_of_getElem? (i := 638) (by decide +kernel)⟩
theorem lw_p10 : lw_okq (⟨"EchoVale$ValleyText", "readFelt", "()Z"⟩, 3) := ⟨⟨by decide +kernel, by decide +kernel⟩, List.mem_of_getElem? (i := 252) (by decide +kernel), List.mem_of_getElem? (i := 641) (by decide +kernel), List.mem_of_getElem? (i := 642) (by decide +kernel)⟩
theorem lw_p11 : lw_okq (⟨"EchoVale$ValleyText", "readSnow", "()Z"⟩, 3) := ⟨⟨by decide +kernel, by decide +kernel⟩, List.mem_of_getElem? (i := 252) (by decide +kernel), List.mem_of_getElem? (i := 649) (by decide +kernel), List.mem_of_getElem? (i := 650) (by decide +kernel)⟩
theorem lw_p12 : lw_okq (⟨"EchoVale", "isSaying", "(I)Z"⟩, 17) := ⟨⟨by decide +kernel, by decide +kernel⟩, List.mem_of_getElem? (i := 27) (by decide +kernel), List.mem_of_getElem? (i := 693) (by decide +kernel), List.mem_of_getElem? (i := 694) (by decide +kernel)⟩
theorem lw_p13 : lw_okq (⟨"EchoVale", "isCliff", "(I)Z"⟩, 17) := ⟨⟨by decide +kernel, by decide +kernel⟩, List.mem_of_getElem? (i := 27) (by decide +kernel), List.mem_of_getElem? (i := 697) (by decide +kernel), List.mem_of_getElem? (i := 698) (by decide +kernel)⟩
theorem lw_p14 : lw_okq (⟨"EchoVale", "isPerson", "(I)Z"⟩, 17) := ⟨⟨by decide +kernel, by decide +kernel⟩, List.mem_of_getElem? (i := 27) (by decide +kernel), List.mem_of_getElem? (i := 705) (by decide +kernel), List.mem_of_getElem? (i := 706) (by decide +kernel)⟩
theorem lw_p15 : lw_okq (⟨"EchoVale$Course", "offer", "(LEchoVale$Valley;III)V"⟩, 9) := ⟨⟨by decide +kernel, by decide +kernel⟩, List.mem_of_getElem? (i := 324) (by decide +kernel), List.mem_of_getElem? (i := 797) (by decide +kernel), List.mem_of_getElem? (i := 798) (by decide +kernel)⟩
def lw_privs_1 : List (MethodName × Nat) := [(⟨"EchoVale$Reader", "readRun", "()V"⟩, 11), (⟨"EchoVale$Reader", "keywordOf", "(J)I"⟩, 11), (⟨"EchoVale$ValleyText", "readLine", "()Z"⟩, 3), (⟨"EchoVale$ValleyText", "readLand", "()Z"⟩, 3), (⟨"EchoVale$ValleyText", "readCliff", "()Z"⟩, 3), (⟨"EchoVale$ValleyText", "isNewName", "()Z"⟩, 3), (⟨"EchoVale$ValleyText", "cellHere", "()I"⟩, 3), (⟨"EchoVale$ValleyText", "readPerson", "()Z"⟩, 3), (⟨"EchoVale$ValleyText", "readMove", "()Z"⟩, 3), (⟨"EchoVale$ValleyText", "readCamp", "()Z"⟩, 3), (⟨"EchoVale$ValleyText", "readFelt", "()Z"⟩, 3), (⟨"EchoVale$ValleyText", "readSnow", "()Z"⟩, 3), (⟨"EchoVale", "isSaying", "(I)Z"⟩, 17), (⟨"EchoVale", "isCliff", "(I)Z"⟩, 17), (⟨"EchoVale", "isPerson", "(I)Z"⟩, 17), (⟨"EchoVale$Course", "offer", "(LEchoVale$Valley;III)V"⟩, 9)]
theorem lw_r1 : ∀ q ∈ lw_privs_1, lw_okq q := List.forall_mem_cons.mpr ⟨lw_p0, List.forall_mem_cons.mpr ⟨lw_p1, List.forall_mem_cons.mpr ⟨lw_p2, List.forall_mem_cons.mpr ⟨lw_p3, List.forall_mem_cons.mpr ⟨lw_p4, List.forall_mem_cons.mpr ⟨lw_p5, List.forall_mem_cons.mpr ⟨lw_p6, List.forall_mem_cons.mpr ⟨lw_p7, List.forall_mem_cons.mpr ⟨lw_p8, List.forall_mem_cons.mpr ⟨lw_p9, List.forall_mem_cons.mpr ⟨lw_p10, List.forall_mem_cons.mpr ⟨lw_p11, List.forall_mem_cons.mpr ⟨lw_p12, List.forall_mem_cons.mpr ⟨lw_p13, List.forall_mem_cons.mpr ⟨lw_p14, List.forall_mem_cons.mpr ⟨lw_p15, fun _ h => absurd h List.not_mem_nil⟩⟩⟩⟩⟩⟩⟩⟩⟩⟩⟩⟩⟩⟩⟩⟩
theorem lw_p16 : lw_okq (⟨"EchoVale$Course", "findSoonest", "(I)V"⟩, 9) := ⟨⟨by decide +kernel, by decide +kernel⟩, List.mem_of_getElem? (i := 324) (by decide +kernel), List.mem_of_getElem? (i := 801) (by decide +kernel), List.mem_of_getElem? (i := 802) (by decide +kernel)⟩
theorem lw_p17 : lw_okq (⟨"EchoVale$Course", "giveBack", "(LEchoVale$Valley;II)V"⟩, 9) := ⟨⟨by decide +kernel, by decide +kernel⟩, List.mem_of_getElem? (i := 324) (by decide +kernel), List.mem_of_getElem? (i := 818) (by decide +kernel), List.mem_of_getElem? (i := 819) (by decide +kernel)⟩
theorem lw_p18 : lw_okq (⟨"EchoVale$Course", "sound", "(LEchoVale$Valley;III)V"⟩, 9) := ⟨⟨by decide +kernel, by decide +kernel⟩, List.mem_of_getElem? (i := 324) (by decide +kernel), List.mem_of_getElem? (i := 827) (by decide +kernel), List.mem_of_getElem? (i := 828) (by decide +kernel)⟩
theorem lw_p19 : lw_okq (⟨"EchoVale$Course", "enterLog", "(IIII)V"⟩, 9) := ⟨⟨by decide +kernel, by decide +kernel⟩, List.mem_of_getElem? (i := 324) (by decide +kernel), List.mem_of_getElem? (i := 835) (by decide +kernel), List.mem_of_getElem? (i := 836) (by decide +kernel)⟩
theorem lw_p20 : lw_okq (⟨"EchoVale", "wealthByCamping", "(III)I"⟩, 17) := ⟨⟨by decide +kernel, by decide +kernel⟩, List.mem_of_getElem? (i := 27) (by decide +kernel), List.mem_of_getElem? (i := 858) (by decide +kernel), List.mem_of_getElem? (i := 859) (by decide +kernel)⟩
theorem lw_p21 : lw_okq (⟨"EchoVale", "areCamps", "(I)Z"⟩, 17) := ⟨⟨by decide +kernel, by decide +kernel⟩, List.mem_of_getElem? (i := 27) (by decide +kernel), List.mem_of_getElem? (i := 876) (by decide +kernel), List.mem_of_getElem? (i := 877) (by decide +kernel)⟩
theorem lw_p22 : lw_okq (⟨"EchoVale", "passByCamps", "(II)V"⟩, 17) := ⟨⟨by decide +kernel, by decide +kernel⟩, List.mem_of_getElem? (i := 27) (by decide +kernel), List.mem_of_getElem? (i := 884) (by decide +kernel), List.mem_of_getElem? (i := 885) (by decide +kernel)⟩
theorem lw_p23 : lw_okq (⟨"EchoVale", "keepOutcome", "(I)V"⟩, 17) := ⟨⟨by decide +kernel, by decide +kernel⟩, List.mem_of_getElem? (i := 27) (by decide +kernel), List.mem_of_getElem? (i := 893) (by decide +kernel), List.mem_of_getElem? (i := 894) (by decide +kernel)⟩
theorem lw_p24 : lw_okq (⟨"EchoVale", "isRest", "(I)Z"⟩, 17) := ⟨⟨by decide +kernel, by decide +kernel⟩, List.mem_of_getElem? (i := 27) (by decide +kernel), List.mem_of_getElem? (i := 897) (by decide +kernel), List.mem_of_getElem? (i := 898) (by decide +kernel)⟩
theorem lw_p25 : lw_okq (⟨"EchoVale", "passOneSaying", "(IIII)V"⟩, 17) := ⟨⟨by decide +kernel, by decide +kernel⟩, List.mem_of_getElem? (i := 27) (by decide +kernel), List.mem_of_getElem? (i := 905) (by decide +kernel), List.mem_of_getElem? (i := 906) (by decide +kernel)⟩
theorem lw_p26 : lw_okq (⟨"EchoVale$Pieces", "canBegin", "(LEchoVale$Valley;I)Z"⟩, 6) := ⟨⟨by decide +kernel, by decide +kernel⟩, List.mem_of_getElem? (i := 418) (by decide +kernel), List.mem_of_getElem? (i := 952) (by decide +kernel), List.mem_of_getElem? (i := 953) (by decide +kernel)⟩
theorem lw_p27 : lw_okq (⟨"EchoVale$Pieces", "isWay", "(LEchoVale$Valley;LEchoVale$Course;III)Z"⟩, 6) := ⟨⟨by decide +kernel, by decide +kernel⟩, List.mem_of_getElem? (i := 418) (by decide +kernel), List.mem_of_getElem? (i := 961) (by decide +kernel), List.mem_of_getElem? (i := 962) (by decide +kernel)⟩
theorem lw_p28 : lw_okq (⟨"EchoVale$Pieces", "isLogged", "(LEchoVale$Course;I)Z"⟩, 6) := ⟨⟨by decide +kernel, by decide +kernel⟩, List.mem_of_getElem? (i := 418) (by decide +kernel), List.mem_of_getElem? (i := 974) (by decide +kernel), List.mem_of_getElem? (i := 975) (by decide +kernel)⟩
theorem lw_p29 : lw_okq (⟨"EchoVale$Pieces", "addWay", "(I)V"⟩, 6) := ⟨⟨by decide +kernel, by decide +kernel⟩, List.mem_of_getElem? (i := 418) (by decide +kernel), List.mem_of_getElem? (i := 979) (by decide +kernel), List.mem_of_getElem? (i := 980) (by decide +kernel)⟩
theorem lw_p30 : lw_okq (⟨"EchoVale$ClaimsText", "readLine", "(LEchoVale$Valley;LEchoVale$Course;I)Z"⟩, 2) := ⟨⟨by decide +kernel, by decide +kernel⟩, List.mem_of_getElem? (i := 272) (by decide +kernel), List.mem_of_getElem? (i := 997) (by decide +kernel), List.mem_of_getElem? (i := 998) (by decide +kernel)⟩
theorem lw_p31 : lw_okq (⟨"EchoVale$Draws", "draw", "(I)I"⟩, 3) := ⟨⟨by decide +kernel, by decide +kernel⟩, List.mem_of_getElem? (i := 445) (by decide +kernel), List.mem_of_getElem? (i := 1019) (by decide +kernel), List.mem_of_getElem? (i := 1020) (by decide +kernel)⟩
def lw_privs_2 : List (MethodName × Nat) := [(⟨"EchoVale$Course", "findSoonest", "(I)V"⟩, 9), (⟨"EchoVale$Course", "giveBack", "(LEchoVale$Valley;II)V"⟩, 9), (⟨"EchoVale$Course", "sound", "(LEchoVale$Valley;III)V"⟩, 9), (⟨"EchoVale$Course", "enterLog", "(IIII)V"⟩, 9), (⟨"EchoVale", "wealthByCamping", "(III)I"⟩, 17), (⟨"EchoVale", "areCamps", "(I)Z"⟩, 17), (⟨"EchoVale", "passByCamps", "(II)V"⟩, 17), (⟨"EchoVale", "keepOutcome", "(I)V"⟩, 17), (⟨"EchoVale", "isRest", "(I)Z"⟩, 17), (⟨"EchoVale", "passOneSaying", "(IIII)V"⟩, 17), (⟨"EchoVale$Pieces", "canBegin", "(LEchoVale$Valley;I)Z"⟩, 6), (⟨"EchoVale$Pieces", "isWay", "(LEchoVale$Valley;LEchoVale$Course;III)Z"⟩, 6), (⟨"EchoVale$Pieces", "isLogged", "(LEchoVale$Course;I)Z"⟩, 6), (⟨"EchoVale$Pieces", "addWay", "(I)V"⟩, 6), (⟨"EchoVale$ClaimsText", "readLine", "(LEchoVale$Valley;LEchoVale$Course;I)Z"⟩, 2), (⟨"EchoVale$Draws", "draw", "(I)I"⟩, 3)]
theorem lw_r2 : ∀ q ∈ lw_privs_2, lw_okq q := List.forall_mem_cons.mpr ⟨lw_p16, List.forall_mem_cons.mpr ⟨lw_p17, List.forall_mem_cons.mpr ⟨lw_p18, List.forall_mem_cons.mpr ⟨lw_p19, List.forall_mem_cons.mpr ⟨lw_p20, List.forall_mem_cons.mpr ⟨lw_p21, List.forall_mem_cons.mpr ⟨lw_p22, List.forall_mem_cons.mpr ⟨lw_p23, List.forall_mem_cons.mpr ⟨lw_p24, List.forall_mem_cons.mpr ⟨lw_p25, List.forall_mem_cons.mpr ⟨lw_p26, List.forall_mem_cons.mpr ⟨lw_p27, List.forall_mem_cons.mpr ⟨lw_p28, List.forall_mem_cons.mpr ⟨lw_p29, List.forall_mem_cons.mpr ⟨lw_p30, List.forall_mem_cons.mpr ⟨lw_p31, fun _ h => absurd h List.not_mem_nil⟩⟩⟩⟩⟩⟩⟩⟩⟩⟩⟩⟩⟩⟩⟩⟩
theorem lw_p32 : lw_okq (⟨"EchoVale$Draws", "speak", "(LEchoVale$Valley;LEchoVale$Course;)V"⟩, 3) := ⟨⟨by decide +kernel, by decide +kernel⟩, List.mem_of_getElem? (i := 445) (by decide +kernel), List.mem_of_getElem? (i := 1025) (by decide +kernel), List.mem_of_getElem? (i := 1026) (by decide +kernel)⟩
theorem lw_p33 : lw_okq (⟨"EchoVale", "putName", "(J)V"⟩, 17) := ⟨⟨by decide +kernel, by decide +kernel⟩, List.mem_of_getElem? (i := 27) (by decide +kernel), List.mem_of_getElem? (i := 1056) (by decide +kernel), List.mem_of_getElem? (i := 1057) (by decide +kernel)⟩
theorem lw_p34 : lw_okq (⟨"EchoVale", "put", "(I)V"⟩, 17) := ⟨⟨by decide +kernel, by decide +kernel⟩, List.mem_of_getElem? (i := 27) (by decide +kernel), List.mem_of_getElem? (i := 1060) (by decide +kernel), List.mem_of_getElem? (i := 1061) (by decide +kernel)⟩
theorem lw_p35 : lw_okq (⟨"EchoVale", "putNumber", "(I)V"⟩, 17) := ⟨⟨by decide +kernel, by decide +kernel⟩, List.mem_of_getElem? (i := 27) (by decide +kernel), List.mem_of_getElem? (i := 1064) (by decide +kernel), List.mem_of_getElem? (i := 1065) (by decide +kernel)⟩
theorem lw_p36 : lw_okq (⟨"EchoVale$SentenceText", "readCondition", "(LEchoVale$Valley;I)Z"⟩, 2) := ⟨⟨by decide +kernel, by decide +kernel⟩, List.mem_of_getElem? (i := 308) (by decide +kernel), List.mem_of_getElem? (i := 1082) (by decide +kernel), List.mem_of_getElem? (i := 1083) (by decide +kernel)⟩
theorem lw_p37 : lw_okq (⟨"EchoVale$SentenceText", "readJoined", "(LEchoVale$Valley;I)Z"⟩, 2) := ⟨⟨by decide +kernel, by decide +kernel⟩, List.mem_of_getElem? (i := 308) (by decide +kernel), List.mem_of_getElem? (i := 1086) (by decide +kernel), List.mem_of_getElem? (i := 1087) (by decide +kernel)⟩
theorem lw_p38 : lw_okq (⟨"EchoVale$SentenceText", "readOne", "(LEchoVale$Valley;I)Z"⟩, 2) := ⟨⟨by decide +kernel, by decide +kernel⟩, List.mem_of_getElem? (i := 308) (by decide +kernel), List.mem_of_getElem? (i := 1090) (by decide +kernel), List.mem_of_getElem? (i := 1091) (by decide +kernel)⟩
theorem lw_p39 : lw_okq (⟨"EchoVale$SentenceText", "readPlain", "(LEchoVale$Valley;)Z"⟩, 2) := ⟨⟨by decide +kernel, by decide +kernel⟩, List.mem_of_getElem? (i := 308) (by decide +kernel), List.mem_of_getElem? (i := 1106) (by decide +kernel), List.mem_of_getElem? (i := 1107) (by decide +kernel)⟩
theorem lw_p40 : lw_okq (⟨"EchoVale$Sentence", "isSo", "(LEchoVale$Course;II)Z"⟩, 4) := ⟨⟨by decide +kernel, by decide +kernel⟩, List.mem_of_getElem? (i := 286) (by decide +kernel), List.mem_of_getElem? (i := 1125) (by decide +kernel), List.mem_of_getElem? (i := 1126) (by decide +kernel)⟩
theorem lw_p41 : lw_okq (⟨"java/lang/Throwable", "fillInStackTrace", "(I)Ljava/lang/Throwable;"⟩, 6) := ⟨⟨by decide +kernel, by decide +kernel⟩, List.mem_of_getElem? (i := 1193) (by decide +kernel), List.mem_of_getElem? (i := 1191) (by decide +kernel), List.mem_of_getElem? (i := 1192) (by decide +kernel)⟩
theorem lw_p42 : lw_okq (⟨"EchoValeModel", "come", "(I)V"⟩, 50) := ⟨⟨by decide +kernel, by decide +kernel⟩, List.mem_of_getElem? (i := 1247) (by decide +kernel), List.mem_of_getElem? (i := 1412) (by decide +kernel), List.mem_of_getElem? (i := 1413) (by decide +kernel)⟩
theorem lw_p43 : lw_okq (⟨"EchoValeModel", "begin", "(I)V"⟩, 50) := ⟨⟨by decide +kernel, by decide +kernel⟩, List.mem_of_getElem? (i := 1247) (by decide +kernel), List.mem_of_getElem? (i := 1424) (by decide +kernel), List.mem_of_getElem? (i := 1425) (by decide +kernel)⟩
theorem lw_p44 : lw_okq (⟨"EchoValeModel", "take", "()I"⟩, 50) := ⟨⟨by decide +kernel, by decide +kernel⟩, List.mem_of_getElem? (i := 1247) (by decide +kernel), List.mem_of_getElem? (i := 1428) (by decide +kernel), List.mem_of_getElem? (i := 1429) (by decide +kernel)⟩
theorem lw_p45 : lw_okq (⟨"EchoValeModel", "go", "()V"⟩, 50) := ⟨⟨by decide +kernel, by decide +kernel⟩, List.mem_of_getElem? (i := 1247) (by decide +kernel), List.mem_of_getElem? (i := 1432) (by decide +kernel), List.mem_of_getElem? (i := 1433) (by decide +kernel)⟩
theorem lw_p46 : lw_okq (⟨"EchoValeModel", "tapeAt", "(I)I"⟩, 50) := ⟨⟨by decide +kernel, by decide +kernel⟩, List.mem_of_getElem? (i := 1247) (by decide +kernel), List.mem_of_getElem? (i := 1442) (by decide +kernel), List.mem_of_getElem? (i := 1443) (by decide +kernel)⟩
theorem lw_p47 : lw_okq (⟨"EchoValeModel", "readLine", "()Z"⟩, 50) := ⟨⟨by decide +kernel, by decide +kernel⟩, List.mem_of_getElem? (i := 1247) (by decide +kernel), List.mem_of_getElem? (i := 1448) (by decide +kernel), List.mem_of_getElem? (i := 1449) (by decide +kernel)⟩
def lw_privs_3 : List (MethodName × Nat) := [(⟨"EchoVale$Draws", "speak", "(LEchoVale$Valley;LEchoVale$Course;)V"⟩, 3), (⟨"EchoVale", "putName", "(J)V"⟩, 17), (⟨"EchoVale", "put", "(I)V"⟩, 17), (⟨"EchoVale", "putNumber", "(I)V"⟩, 17), (⟨"EchoVale$SentenceText", "readCondition", "(LEchoVale$Valley;I)Z"⟩, 2), (⟨"EchoVale$SentenceText", "readJoined", "(LEchoVale$Valley;I)Z"⟩, 2), (⟨"EchoVale$SentenceText", "readOne", "(LEchoVale$Valley;I)Z"⟩, 2), (⟨"EchoVale$SentenceText", "readPlain", "(LEchoVale$Valley;)Z"⟩, 2), (⟨"EchoVale$Sentence", "isSo", "(LEchoVale$Course;II)Z"⟩, 4), (⟨"java/lang/Throwable", "fillInStackTrace", "(I)Ljava/lang/Throwable;"⟩, 6), (⟨"EchoValeModel", "come", "(I)V"⟩, 50), (⟨"EchoValeModel", "begin", "(I)V"⟩, 50), (⟨"EchoValeModel", "take", "()I"⟩, 50), (⟨"EchoValeModel", "go", "()V"⟩, 50), (⟨"EchoValeModel", "tapeAt", "(I)I"⟩, 50), (⟨"EchoValeModel", "readLine", "()Z"⟩, 50)]
theorem lw_r3 : ∀ q ∈ lw_privs_3, lw_okq q := List.forall_mem_cons.mpr ⟨lw_p32, List.forall_mem_cons.mpr ⟨lw_p33, List.forall_mem_cons.mpr ⟨lw_p34, List.forall_mem_cons.mpr ⟨lw_p35, List.forall_mem_cons.mpr ⟨lw_p36, List.forall_mem_cons.mpr ⟨lw_p37, List.forall_mem_cons.mpr ⟨lw_p38, List.forall_mem_cons.mpr ⟨lw_p39, List.forall_mem_cons.mpr ⟨lw_p40, List.forall_mem_cons.mpr ⟨lw_p41, List.forall_mem_cons.mpr ⟨lw_p42, List.forall_mem_cons.mpr ⟨lw_p43, List.forall_mem_cons.mpr ⟨lw_p44, List.forall_mem_cons.mpr ⟨lw_p45, List.forall_mem_cons.mpr ⟨lw_p46, List.forall_mem_cons.mpr ⟨lw_p47, fun _ h => absurd h List.not_mem_nil⟩⟩⟩⟩⟩⟩⟩⟩⟩⟩⟩⟩⟩⟩⟩⟩
theorem lw_p48 : lw_okq (⟨"EchoValeModel", "isWord", "(I)Z"⟩, 50) := ⟨⟨by decide +kernel, by decide +kernel⟩, List.mem_of_getElem? (i := 1247) (by decide +kernel), List.mem_of_getElem? (i := 1452) (by decide +kernel), List.mem_of_getElem? (i := 1453) (by decide +kernel)⟩
theorem lw_p49 : lw_okq (⟨"EchoValeModel", "readLand", "()Z"⟩, 50) := ⟨⟨by decide +kernel, by decide +kernel⟩, List.mem_of_getElem? (i := 1247) (by decide +kernel), List.mem_of_getElem? (i := 1462) (by decide +kernel), List.mem_of_getElem? (i := 1463) (by decide +kernel)⟩
theorem lw_p50 : lw_okq (⟨"EchoValeModel", "bad", "(I)Z"⟩, 50) := ⟨⟨by decide +kernel, by decide +kernel⟩, List.mem_of_getElem? (i := 1247) (by decide +kernel), List.mem_of_getElem? (i := 1466) (by decide +kernel), List.mem_of_getElem? (i := 1467) (by decide +kernel)⟩
theorem lw_p51 : lw_okq (⟨"EchoValeModel", "readNumber", "(II)Z"⟩, 50) := ⟨⟨by decide +kernel, by decide +kernel⟩, List.mem_of_getElem? (i := 1247) (by decide +kernel), List.mem_of_getElem? (i := 1470) (by decide +kernel), List.mem_of_getElem? (i := 1471) (by decide +kernel)⟩
theorem lw_p52 : lw_okq (⟨"EchoValeModel", "isNumber", "(II)Z"⟩, 50) := ⟨⟨by decide +kernel, by decide +kernel⟩, List.mem_of_getElem? (i := 1247) (by decide +kernel), List.mem_of_getElem? (i := 1474) (by decide +kernel), List.mem_of_getElem? (i := 1475) (by decide +kernel)⟩
theorem lw_p53 : lw_okq (⟨"EchoValeModel", "readCliff", "()Z"⟩, 50) := ⟨⟨by decide +kernel, by decide +kernel⟩, List.mem_of_getElem? (i := 1247) (by decide +kernel), List.mem_of_getElem? (i := 1481) (by decide +kernel), List.mem_of_getElem? (i := 1482) (by decide +kernel)⟩
theorem lw_p54 : lw_okq (⟨"EchoValeModel", "readNew", "(I)Z"⟩, 50) := ⟨⟨by decide +kernel, by decide +kernel⟩, List.mem_of_getElem? (i := 1247) (by decide +kernel), List.mem_of_getElem? (i := 1485) (by decide +kernel), List.mem_of_getElem? (i := 1486) (by decide +kernel)⟩
theorem lw_p55 : lw_okq (⟨"EchoValeModel", "isName", "()Z"⟩, 50) := ⟨⟨by decide +kernel, by decide +kernel⟩, List.mem_of_getElem? (i := 1247) (by decide +kernel), List.mem_of_getElem? (i := 1489) (by decide +kernel), List.mem_of_getElem? (i := 1490) (by decide +kernel)⟩
theorem lw_p56 : lw_okq (⟨"EchoValeModel", "holdCell", "()Z"⟩, 50) := ⟨⟨by decide +kernel, by decide +kernel⟩, List.mem_of_getElem? (i := 1247) (by decide +kernel), List.mem_of_getElem? (i := 1496) (by decide +kernel), List.mem_of_getElem? (i := 1497) (by decide +kernel)⟩
theorem lw_p57 : lw_okq (⟨"EchoValeModel", "readPerson", "()Z"⟩, 50) := ⟨⟨by decide +kernel, by decide +kernel⟩, List.mem_of_getElem? (i := 1247) (by decide +kernel), List.mem_of_getElem? (i := 1500) (by decide +kernel), List.mem_of_getElem? (i := 1501) (by decide +kernel)⟩
theorem lw_p58 : lw_okq (⟨"EchoValeModel", "readCell", "()Z"⟩, 50) := ⟨⟨by decide +kernel, by decide +kernel⟩, List.mem_of_getElem? (i := 1247) (by decide +kernel), List.mem_of_getElem? (i := 1504) (by decide +kernel), List.mem_of_getElem? (i := 1505) (by decide +kernel)⟩
theorem lw_p59 : lw_okq (⟨"EchoValeModel", "readMove", "()Z"⟩, 50) := ⟨⟨by decide +kernel, by decide +kernel⟩, List.mem_of_getElem? (i := 1247) (by decide +kernel), List.mem_of_getElem? (i := 1508) (by decide +kernel), List.mem_of_getElem? (i := 1509) (by decide +kernel)⟩
theorem lw_p60 : lw_okq (⟨"EchoValeModel", "isOne", "()Z"⟩, 50) := ⟨⟨by decide +kernel, by decide +kernel⟩, List.mem_of_getElem? (i := 1247) (by decide +kernel), List.mem_of_getElem? (i := 1512) (by decide +kernel), List.mem_of_getElem? (i := 1513) (by decide +kernel)⟩
theorem lw_p61 : lw_okq (⟨"EchoValeModel", "readCamp", "()Z"⟩, 50) := ⟨⟨by decide +kernel, by decide +kernel⟩, List.mem_of_getElem? (i := 1247) (by decide +kernel), List.mem_of_getElem? (i := 1516) (by decide +kernel), List.mem_of_getElem? (i := 1517) (by decide +kernel)⟩
theorem lw_p62 : lw_okq (⟨"EchoValeModel", "readFelt", "()Z"⟩, 50) := ⟨⟨by decide +kernel, by decide +kernel⟩, List.mem_of_getElem? (i := 1247) (by decide +kernel), List.mem_of_getElem? (i := 1520) (by decide +kernel), List.mem_of_getElem? (i := 1521) (by decide +kernel)⟩
theorem lw_p63 : lw_okq (⟨"EchoValeModel", "readSnow", "()Z"⟩, 50) := ⟨⟨by decide +kernel, by decide +kernel⟩, List.mem_of_getElem? (i := 1247) (by decide +kernel), List.mem_of_getElem? (i := 1524) (by decide +kernel), List.mem_of_getElem? (i := 1525) (by decide +kernel)⟩
def lw_privs_4 : List (MethodName × Nat) := [(⟨"EchoValeModel", "isWord", "(I)Z"⟩, 50), (⟨"EchoValeModel", "readLand", "()Z"⟩, 50), (⟨"EchoValeModel", "bad", "(I)Z"⟩, 50), (⟨"EchoValeModel", "readNumber", "(II)Z"⟩, 50), (⟨"EchoValeModel", "isNumber", "(II)Z"⟩, 50), (⟨"EchoValeModel", "readCliff", "()Z"⟩, 50), (⟨"EchoValeModel", "readNew", "(I)Z"⟩, 50), (⟨"EchoValeModel", "isName", "()Z"⟩, 50), (⟨"EchoValeModel", "holdCell", "()Z"⟩, 50), (⟨"EchoValeModel", "readPerson", "()Z"⟩, 50), (⟨"EchoValeModel", "readCell", "()Z"⟩, 50), (⟨"EchoValeModel", "readMove", "()Z"⟩, 50), (⟨"EchoValeModel", "isOne", "()Z"⟩, 50), (⟨"EchoValeModel", "readCamp", "()Z"⟩, 50), (⟨"EchoValeModel", "readFelt", "()Z"⟩, 50), (⟨"EchoValeModel", "readSnow", "()Z"⟩, 50)]
theorem lw_r4 : ∀ q ∈ lw_privs_4, lw_okq q := List.forall_mem_cons.mpr ⟨lw_p48, List.forall_mem_cons.mpr ⟨lw_p49, List.forall_mem_cons.mpr ⟨lw_p50, List.forall_mem_cons.mpr ⟨lw_p51, List.forall_mem_cons.mpr ⟨lw_p52, List.forall_mem_cons.mpr ⟨lw_p53, List.forall_mem_cons.mpr ⟨lw_p54, List.forall_mem_cons.mpr ⟨lw_p55, List.forall_mem_cons.mpr ⟨lw_p56, List.forall_mem_cons.mpr ⟨lw_p57, List.forall_mem_cons.mpr ⟨lw_p58, List.forall_mem_cons.mpr ⟨lw_p59, List.forall_mem_cons.mpr ⟨lw_p60, List.forall_mem_cons.mpr ⟨lw_p61, List.forall_mem_cons.mpr ⟨lw_p62, List.forall_mem_cons.mpr ⟨lw_p63, fun _ h => absurd h List.not_mem_nil⟩⟩⟩⟩⟩⟩⟩⟩⟩⟩⟩⟩⟩⟩⟩⟩
theorem lw_p64 : lw_okq (⟨"EchoValeModel", "readEnd", "()Z"⟩, 50) := ⟨⟨by decide +kernel, by decide +kernel⟩, List.mem_of_getElem? (i := 1247) (by decide +kernel), List.mem_of_getElem? (i := 1528) (by decide +kernel), List.mem_of_getElem? (i := 1529) (by decide +kernel)⟩
theorem lw_p65 : lw_okq (⟨"EchoValeModel", "isSign", "(I)Z"⟩, 50) := ⟨⟨by decide +kernel, by decide +kernel⟩, List.mem_of_getElem? (i := 1247) (by decide +kernel), List.mem_of_getElem? (i := 1532) (by decide +kernel), List.mem_of_getElem? (i := 1533) (by decide +kernel)⟩
theorem lw_p66 : lw_okq (⟨"EchoValeModel", "isCliff", "(I)Z"⟩, 50) := ⟨⟨by decide +kernel, by decide +kernel⟩, List.mem_of_getElem? (i := 1247) (by decide +kernel), List.mem_of_getElem? (i := 1544) (by decide +kernel), List.mem_of_getElem? (i := 1545) (by decide +kernel)⟩
theorem lw_p67 : lw_okq (⟨"EchoValeModel", "refuse", "()I"⟩, 50) := ⟨⟨by decide +kernel, by decide +kernel⟩, List.mem_of_getElem? (i := 1247) (by decide +kernel), List.mem_of_getElem? (i := 1548) (by decide +kernel), List.mem_of_getElem? (i := 1549) (by decide +kernel)⟩
theorem lw_p68 : lw_okq (⟨"EchoValeModel", "strength", "(I)I"⟩, 50) := ⟨⟨by decide +kernel, by decide +kernel⟩, List.mem_of_getElem? (i := 1247) (by decide +kernel), List.mem_of_getElem? (i := 1552) (by decide +kernel), List.mem_of_getElem? (i := 1553) (by decide +kernel)⟩
theorem lw_p69 : lw_okq (⟨"EchoValeModel", "snowAt", "(I)I"⟩, 50) := ⟨⟨by decide +kernel, by decide +kernel⟩, List.mem_of_getElem? (i := 1247) (by decide +kernel), List.mem_of_getElem? (i := 1556) (by decide +kernel), List.mem_of_getElem? (i := 1557) (by decide +kernel)⟩
theorem lw_p70 : lw_okq (⟨"EchoValeModel", "isPerson", "(I)Z"⟩, 50) := ⟨⟨by decide +kernel, by decide +kernel⟩, List.mem_of_getElem? (i := 1247) (by decide +kernel), List.mem_of_getElem? (i := 1564) (by decide +kernel), List.mem_of_getElem? (i := 1565) (by decide +kernel)⟩
theorem lw_p71 : lw_okq (⟨"EchoValeModel", "hasAll", "(I)I"⟩, 50) := ⟨⟨by decide +kernel, by decide +kernel⟩, List.mem_of_getElem? (i := 1247) (by decide +kernel), List.mem_of_getElem? (i := 1568) (by decide +kernel), List.mem_of_getElem? (i := 1569) (by decide +kernel)⟩
theorem lw_p72 : lw_okq (⟨"EchoValeModel", "shareOf", "(II)I"⟩, 50) := ⟨⟨by decide +kernel, by decide +kernel⟩, List.mem_of_getElem? (i := 1247) (by decide +kernel), List.mem_of_getElem? (i := 1572) (by decide +kernel), List.mem_of_getElem? (i := 1573) (by decide +kernel)⟩
theorem lw_p73 : lw_okq (⟨"EchoValeModel", "of", "(II)I"⟩, 50) := ⟨⟨by decide +kernel, by decide +kernel⟩, List.mem_of_getElem? (i := 1247) (by decide +kernel), List.mem_of_getElem? (i := 1576) (by decide +kernel), List.mem_of_getElem? (i := 1577) (by decide +kernel)⟩
theorem lw_p74 : lw_okq (⟨"EchoValeModel", "isSaying", "(I)Z"⟩, 50) := ⟨⟨by decide +kernel, by decide +kernel⟩, List.mem_of_getElem? (i := 1247) (by decide +kernel), List.mem_of_getElem? (i := 1590) (by decide +kernel), List.mem_of_getElem? (i := 1591) (by decide +kernel)⟩
theorem lw_p75 : lw_okq (⟨"EchoValeModel", "comesAt", "(III)I"⟩, 50) := ⟨⟨by decide +kernel, by decide +kernel⟩, List.mem_of_getElem? (i := 1247) (by decide +kernel), List.mem_of_getElem? (i := 1598) (by decide +kernel), List.mem_of_getElem? (i := 1599) (by decide +kernel)⟩
theorem lw_p76 : lw_okq (⟨"EchoValeModel", "isAt", "(I)Z"⟩, 50) := ⟨⟨by decide +kernel, by decide +kernel⟩, List.mem_of_getElem? (i := 1247) (by decide +kernel), List.mem_of_getElem? (i := 1618) (by decide +kernel), List.mem_of_getElem? (i := 1619) (by decide +kernel)⟩
theorem lw_p77 : lw_okq (⟨"EchoValeModel", "snap", "()V"⟩, 50) := ⟨⟨by decide +kernel, by decide +kernel⟩, List.mem_of_getElem? (i := 1247) (by decide +kernel), List.mem_of_getElem? (i := 1622) (by decide +kernel), List.mem_of_getElem? (i := 1623) (by decide +kernel)⟩
theorem lw_p78 : lw_okq (⟨"EchoValeModel", "sayIt", "(III)I"⟩, 50) := ⟨⟨by decide +kernel, by decide +kernel⟩, List.mem_of_getElem? (i := 1247) (by decide +kernel), List.mem_of_getElem? (i := 1630) (by decide +kernel), List.mem_of_getElem? (i := 1631) (by decide +kernel)⟩
theorem lw_p79 : lw_okq (⟨"EchoValeModel", "loudAt", "(II)I"⟩, 50) := ⟨⟨by decide +kernel, by decide +kernel⟩, List.mem_of_getElem? (i := 1247) (by decide +kernel), List.mem_of_getElem? (i := 1634) (by decide +kernel), List.mem_of_getElem? (i := 1635) (by decide +kernel)⟩
def lw_privs_5 : List (MethodName × Nat) := [(⟨"EchoValeModel", "readEnd", "()Z"⟩, 50), (⟨"EchoValeModel", "isSign", "(I)Z"⟩, 50), (⟨"EchoValeModel", "isCliff", "(I)Z"⟩, 50), (⟨"EchoValeModel", "refuse", "()I"⟩, 50), (⟨"EchoValeModel", "strength", "(I)I"⟩, 50), (⟨"EchoValeModel", "snowAt", "(I)I"⟩, 50), (⟨"EchoValeModel", "isPerson", "(I)Z"⟩, 50), (⟨"EchoValeModel", "hasAll", "(I)I"⟩, 50), (⟨"EchoValeModel", "shareOf", "(II)I"⟩, 50), (⟨"EchoValeModel", "of", "(II)I"⟩, 50), (⟨"EchoValeModel", "isSaying", "(I)Z"⟩, 50), (⟨"EchoValeModel", "comesAt", "(III)I"⟩, 50), (⟨"EchoValeModel", "isAt", "(I)Z"⟩, 50), (⟨"EchoValeModel", "snap", "()V"⟩, 50), (⟨"EchoValeModel", "sayIt", "(III)I"⟩, 50), (⟨"EchoValeModel", "loudAt", "(II)I"⟩, 50)]
theorem lw_r5 : ∀ q ∈ lw_privs_5, lw_okq q := List.forall_mem_cons.mpr ⟨lw_p64, List.forall_mem_cons.mpr ⟨lw_p65, List.forall_mem_cons.mpr ⟨lw_p66, List.forall_mem_cons.mpr ⟨lw_p67, List.forall_mem_cons.mpr ⟨lw_p68, List.forall_mem_cons.mpr ⟨lw_p69, List.forall_mem_cons.mpr ⟨lw_p70, List.forall_mem_cons.mpr ⟨lw_p71, List.forall_mem_cons.mpr ⟨lw_p72, List.forall_mem_cons.mpr ⟨lw_p73, List.forall_mem_cons.mpr ⟨lw_p74, List.forall_mem_cons.mpr ⟨lw_p75, List.forall_mem_cons.mpr ⟨lw_p76, List.forall_mem_cons.mpr ⟨lw_p77, List.forall_mem_cons.mpr ⟨lw_p78, List.forall_mem_cons.mpr ⟨lw_p79, fun _ h => absurd h List.not_mem_nil⟩⟩⟩⟩⟩⟩⟩⟩⟩⟩⟩⟩⟩⟩⟩⟩
theorem lw_p80 : lw_okq (⟨"EchoValeModel", "cliffAt", "(I)I"⟩, 50) := ⟨⟨by decide +kernel, by decide +kernel⟩, List.mem_of_getElem? (i := 1247) (by decide +kernel), List.mem_of_getElem? (i := 1638) (by decide +kernel), List.mem_of_getElem? (i := 1639) (by decide +kernel)⟩
theorem lw_p81 : lw_okq (⟨"EchoValeModel", "delay", "(I)I"⟩, 50) := ⟨⟨by decide +kernel, by decide +kernel⟩, List.mem_of_getElem? (i := 1247) (by decide +kernel), List.mem_of_getElem? (i := 1648) (by decide +kernel), List.mem_of_getElem? (i := 1649) (by decide +kernel)⟩
theorem lw_p82 : lw_okq (⟨"EchoValeModel", "comeTo", "(IIII)V"⟩, 50) := ⟨⟨by decide +kernel, by decide +kernel⟩, List.mem_of_getElem? (i := 1247) (by decide +kernel), List.mem_of_getElem? (i := 1652) (by decide +kernel), List.mem_of_getElem? (i := 1653) (by decide +kernel)⟩
theorem lw_p83 : lw_okq (⟨"EchoValeModel", "passHours", "(I)I"⟩, 50) := ⟨⟨by decide +kernel, by decide +kernel⟩, List.mem_of_getElem? (i := 1247) (by decide +kernel), List.mem_of_getElem? (i := 1660) (by decide +kernel), List.mem_of_getElem? (i := 1661) (by decide +kernel)⟩
theorem lw_p84 : lw_okq (⟨"EchoValeModel", "pass", "(I)V"⟩, 50) := ⟨⟨by decide +kernel, by decide +kernel⟩, List.mem_of_getElem? (i := 1247) (by decide +kernel), List.mem_of_getElem? (i := 1664) (by decide +kernel), List.mem_of_getElem? (i := 1665) (by decide +kernel)⟩
theorem lw_p85 : lw_okq (⟨"EchoValeModel", "moveAll", "(I)V"⟩, 50) := ⟨⟨by decide +kernel, by decide +kernel⟩, List.mem_of_getElem? (i := 1247) (by decide +kernel), List.mem_of_getElem? (i := 1668) (by decide +kernel), List.mem_of_getElem? (i := 1669) (by decide +kernel)⟩
theorem lw_p86 : lw_okq (⟨"EchoValeModel", "sound", "(III)V"⟩, 50) := ⟨⟨by decide +kernel, by decide +kernel⟩, List.mem_of_getElem? (i := 1247) (by decide +kernel), List.mem_of_getElem? (i := 1675) (by decide +kernel), List.mem_of_getElem? (i := 1676) (by decide +kernel)⟩
theorem lw_p87 : lw_okq (⟨"EchoValeModel", "hearersOf", "(II)I"⟩, 50) := ⟨⟨by decide +kernel, by decide +kernel⟩, List.mem_of_getElem? (i := 1247) (by decide +kernel), List.mem_of_getElem? (i := 1679) (by decide +kernel), List.mem_of_getElem? (i := 1680) (by decide +kernel)⟩
theorem lw_p88 : lw_okq (⟨"EchoValeModel", "campingBy", "(III)I"⟩, 50) := ⟨⟨by decide +kernel, by decide +kernel⟩, List.mem_of_getElem? (i := 1247) (by decide +kernel), List.mem_of_getElem? (i := 1690) (by decide +kernel), List.mem_of_getElem? (i := 1691) (by decide +kernel)⟩
theorem lw_p89 : lw_okq (⟨"EchoValeModel", "layAside", "()V"⟩, 50) := ⟨⟨by decide +kernel, by decide +kernel⟩, List.mem_of_getElem? (i := 1247) (by decide +kernel), List.mem_of_getElem? (i := 1694) (by decide +kernel), List.mem_of_getElem? (i := 1695) (by decide +kernel)⟩
theorem lw_p90 : lw_okq (⟨"EchoValeModel", "layBack", "()V"⟩, 50) := ⟨⟨by decide +kernel, by decide +kernel⟩, List.mem_of_getElem? (i := 1247) (by decide +kernel), List.mem_of_getElem? (i := 1698) (by decide +kernel), List.mem_of_getElem? (i := 1699) (by decide +kernel)⟩
theorem lw_p91 : lw_okq (⟨"EchoValeModel", "campers", "()I"⟩, 50) := ⟨⟨by decide +kernel, by decide +kernel⟩, List.mem_of_getElem? (i := 1247) (by decide +kernel), List.mem_of_getElem? (i := 1710) (by decide +kernel), List.mem_of_getElem? (i := 1711) (by decide +kernel)⟩
theorem lw_p92 : lw_okq (⟨"EchoValeModel", "layHas", "(II)V"⟩, 50) := ⟨⟨by decide +kernel, by decide +kernel⟩, List.mem_of_getElem? (i := 1247) (by decide +kernel), List.mem_of_getElem? (i := 1714) (by decide +kernel), List.mem_of_getElem? (i := 1715) (by decide +kernel)⟩
theorem lw_p93 : lw_okq (⟨"EchoValeModel", "isRest", "(II)Z"⟩, 50) := ⟨⟨by decide +kernel, by decide +kernel⟩, List.mem_of_getElem? (i := 1247) (by decide +kernel), List.mem_of_getElem? (i := 1722) (by decide +kernel), List.mem_of_getElem? (i := 1723) (by decide +kernel)⟩
theorem lw_p94 : lw_okq (⟨"EchoValeModel", "wouldCome", "(III)I"⟩, 50) := ⟨⟨by decide +kernel, by decide +kernel⟩, List.mem_of_getElem? (i := 1247) (by decide +kernel), List.mem_of_getElem? (i := 1754) (by decide +kernel), List.mem_of_getElem? (i := 1755) (by decide +kernel)⟩
theorem lw_p95 : lw_okq (⟨"EchoValeModel", "takePieces", "()Z"⟩, 50) := ⟨⟨by decide +kernel, by decide +kernel⟩, List.mem_of_getElem? (i := 1247) (by decide +kernel), List.mem_of_getElem? (i := 1770) (by decide +kernel), List.mem_of_getElem? (i := 1771) (by decide +kernel)⟩
def lw_privs_6 : List (MethodName × Nat) := [(⟨"EchoValeModel", "cliffAt", "(I)I"⟩, 50), (⟨"EchoValeModel", "delay", "(I)I"⟩, 50), (⟨"EchoValeModel", "comeTo", "(IIII)V"⟩, 50), (⟨"EchoValeModel", "passHours", "(I)I"⟩, 50), (⟨"EchoValeModel", "pass", "(I)V"⟩, 50), (⟨"EchoValeModel", "moveAll", "(I)V"⟩, 50), (⟨"EchoValeModel", "sound", "(III)V"⟩, 50), (⟨"EchoValeModel", "hearersOf", "(II)I"⟩, 50), (⟨"EchoValeModel", "campingBy", "(III)I"⟩, 50), (⟨"EchoValeModel", "layAside", "()V"⟩, 50), (⟨"EchoValeModel", "layBack", "()V"⟩, 50), (⟨"EchoValeModel", "campers", "()I"⟩, 50), (⟨"EchoValeModel", "layHas", "(II)V"⟩, 50), (⟨"EchoValeModel", "isRest", "(II)Z"⟩, 50), (⟨"EchoValeModel", "wouldCome", "(III)I"⟩, 50), (⟨"EchoValeModel", "takePieces", "()Z"⟩, 50)]
theorem lw_r6 : ∀ q ∈ lw_privs_6, lw_okq q := List.forall_mem_cons.mpr ⟨lw_p80, List.forall_mem_cons.mpr ⟨lw_p81, List.forall_mem_cons.mpr ⟨lw_p82, List.forall_mem_cons.mpr ⟨lw_p83, List.forall_mem_cons.mpr ⟨lw_p84, List.forall_mem_cons.mpr ⟨lw_p85, List.forall_mem_cons.mpr ⟨lw_p86, List.forall_mem_cons.mpr ⟨lw_p87, List.forall_mem_cons.mpr ⟨lw_p88, List.forall_mem_cons.mpr ⟨lw_p89, List.forall_mem_cons.mpr ⟨lw_p90, List.forall_mem_cons.mpr ⟨lw_p91, List.forall_mem_cons.mpr ⟨lw_p92, List.forall_mem_cons.mpr ⟨lw_p93, List.forall_mem_cons.mpr ⟨lw_p94, List.forall_mem_cons.mpr ⟨lw_p95, fun _ h => absurd h List.not_mem_nil⟩⟩⟩⟩⟩⟩⟩⟩⟩⟩⟩⟩⟩⟩⟩⟩
theorem lw_p96 : lw_okq (⟨"EchoValeModel", "soundAll", "(III)V"⟩, 50) := ⟨⟨by decide +kernel, by decide +kernel⟩, List.mem_of_getElem? (i := 1247) (by decide +kernel), List.mem_of_getElem? (i := 1774) (by decide +kernel), List.mem_of_getElem? (i := 1775) (by decide +kernel)⟩
theorem lw_p97 : lw_okq (⟨"EchoValeModel", "cometh", "(III)V"⟩, 50) := ⟨⟨by decide +kernel, by decide +kernel⟩, List.mem_of_getElem? (i := 1247) (by decide +kernel), List.mem_of_getElem? (i := 1778) (by decide +kernel), List.mem_of_getElem? (i := 1779) (by decide +kernel)⟩
theorem lw_p98 : lw_okq (⟨"EchoValeModel", "allSound", "()Z"⟩, 50) := ⟨⟨by decide +kernel, by decide +kernel⟩, List.mem_of_getElem? (i := 1247) (by decide +kernel), List.mem_of_getElem? (i := 1782) (by decide +kernel), List.mem_of_getElem? (i := 1783) (by decide +kernel)⟩
theorem lw_p99 : lw_okq (⟨"EchoValeModel", "readClaim", "()Z"⟩, 50) := ⟨⟨by decide +kernel, by decide +kernel⟩, List.mem_of_getElem? (i := 1247) (by decide +kernel), List.mem_of_getElem? (i := 1794) (by decide +kernel), List.mem_of_getElem? (i := 1795) (by decide +kernel)⟩
theorem lw_p100 : lw_okq (⟨"EchoValeModel", "drawnBy", "(II)I"⟩, 50) := ⟨⟨by decide +kernel, by decide +kernel⟩, List.mem_of_getElem? (i := 1247) (by decide +kernel), List.mem_of_getElem? (i := 1802) (by decide +kernel), List.mem_of_getElem? (i := 1803) (by decide +kernel)⟩
theorem lw_p101 : lw_okq (⟨"EchoValeModel", "draw", "(I)I"⟩, 50) := ⟨⟨by decide +kernel, by decide +kernel⟩, List.mem_of_getElem? (i := 1247) (by decide +kernel), List.mem_of_getElem? (i := 1806) (by decide +kernel), List.mem_of_getElem? (i := 1807) (by decide +kernel)⟩
theorem lw_p102 : lw_okq (⟨"EchoValeModel", "put", "(I)V"⟩, 50) := ⟨⟨by decide +kernel, by decide +kernel⟩, List.mem_of_getElem? (i := 1247) (by decide +kernel), List.mem_of_getElem? (i := 1827) (by decide +kernel), List.mem_of_getElem? (i := 1828) (by decide +kernel)⟩
theorem lw_p103 : lw_okq (⟨"EchoValeModel", "putNumber", "(I)V"⟩, 50) := ⟨⟨by decide +kernel, by decide +kernel⟩, List.mem_of_getElem? (i := 1247) (by decide +kernel), List.mem_of_getElem? (i := 1831) (by decide +kernel), List.mem_of_getElem? (i := 1832) (by decide +kernel)⟩
theorem lw_p104 : lw_okq (⟨"EchoValeModel", "readOr", "()Z"⟩, 50) := ⟨⟨by decide +kernel, by decide +kernel⟩, List.mem_of_getElem? (i := 1247) (by decide +kernel), List.mem_of_getElem? (i := 1843) (by decide +kernel), List.mem_of_getElem? (i := 1844) (by decide +kernel)⟩
theorem lw_p105 : lw_okq (⟨"EchoValeModel", "readAnd", "()Z"⟩, 50) := ⟨⟨by decide +kernel, by decide +kernel⟩, List.mem_of_getElem? (i := 1247) (by decide +kernel), List.mem_of_getElem? (i := 1847) (by decide +kernel), List.mem_of_getElem? (i := 1848) (by decide +kernel)⟩
theorem lw_p106 : lw_okq (⟨"EchoValeModel", "readOne", "()Z"⟩, 50) := ⟨⟨by decide +kernel, by decide +kernel⟩, List.mem_of_getElem? (i := 1247) (by decide +kernel), List.mem_of_getElem? (i := 1851) (by decide +kernel), List.mem_of_getElem? (i := 1852) (by decide +kernel)⟩
theorem lw_p107 : lw_okq (⟨"EchoValeModel", "readBracket", "()Z"⟩, 50) := ⟨⟨by decide +kernel, by decide +kernel⟩, List.mem_of_getElem? (i := 1247) (by decide +kernel), List.mem_of_getElem? (i := 1855) (by decide +kernel), List.mem_of_getElem? (i := 1856) (by decide +kernel)⟩
theorem lw_p108 : lw_okq (⟨"EchoValeModel", "readNot", "()Z"⟩, 50) := ⟨⟨by decide +kernel, by decide +kernel⟩, List.mem_of_getElem? (i := 1247) (by decide +kernel), List.mem_of_getElem? (i := 1859) (by decide +kernel), List.mem_of_getElem? (i := 1860) (by decide +kernel)⟩
theorem lw_p109 : lw_okq (⟨"EchoValeModel", "saysOne", "(IIII)I"⟩, 50) := ⟨⟨by decide +kernel, by decide +kernel⟩, List.mem_of_getElem? (i := 1247) (by decide +kernel), List.mem_of_getElem? (i := 1863) (by decide +kernel), List.mem_of_getElem? (i := 1864) (by decide +kernel)⟩
theorem lw_p110 : lw_okq (⟨"EchoValeModel", "readOf", "(I)Z"⟩, 50) := ⟨⟨by decide +kernel, by decide +kernel⟩, List.mem_of_getElem? (i := 1247) (by decide +kernel), List.mem_of_getElem? (i := 1867) (by decide +kernel), List.mem_of_getElem? (i := 1868) (by decide +kernel)⟩
theorem lw_p111 : lw_okq (⟨"EchoValeModel", "readCompare", "(I)Z"⟩, 50) := ⟨⟨by decide +kernel, by decide +kernel⟩, List.mem_of_getElem? (i := 1247) (by decide +kernel), List.mem_of_getElem? (i := 1871) (by decide +kernel), List.mem_of_getElem? (i := 1872) (by decide +kernel)⟩
def lw_privs_7 : List (MethodName × Nat) := [(⟨"EchoValeModel", "soundAll", "(III)V"⟩, 50), (⟨"EchoValeModel", "cometh", "(III)V"⟩, 50), (⟨"EchoValeModel", "allSound", "()Z"⟩, 50), (⟨"EchoValeModel", "readClaim", "()Z"⟩, 50), (⟨"EchoValeModel", "drawnBy", "(II)I"⟩, 50), (⟨"EchoValeModel", "draw", "(I)I"⟩, 50), (⟨"EchoValeModel", "put", "(I)V"⟩, 50), (⟨"EchoValeModel", "putNumber", "(I)V"⟩, 50), (⟨"EchoValeModel", "readOr", "()Z"⟩, 50), (⟨"EchoValeModel", "readAnd", "()Z"⟩, 50), (⟨"EchoValeModel", "readOne", "()Z"⟩, 50), (⟨"EchoValeModel", "readBracket", "()Z"⟩, 50), (⟨"EchoValeModel", "readNot", "()Z"⟩, 50), (⟨"EchoValeModel", "saysOne", "(IIII)I"⟩, 50), (⟨"EchoValeModel", "readOf", "(I)Z"⟩, 50), (⟨"EchoValeModel", "readCompare", "(I)Z"⟩, 50)]
theorem lw_r7 : ∀ q ∈ lw_privs_7, lw_okq q := List.forall_mem_cons.mpr ⟨lw_p96, List.forall_mem_cons.mpr ⟨lw_p97, List.forall_mem_cons.mpr ⟨lw_p98, List.forall_mem_cons.mpr ⟨lw_p99, List.forall_mem_cons.mpr ⟨lw_p100, List.forall_mem_cons.mpr ⟨lw_p101, List.forall_mem_cons.mpr ⟨lw_p102, List.forall_mem_cons.mpr ⟨lw_p103, List.forall_mem_cons.mpr ⟨lw_p104, List.forall_mem_cons.mpr ⟨lw_p105, List.forall_mem_cons.mpr ⟨lw_p106, List.forall_mem_cons.mpr ⟨lw_p107, List.forall_mem_cons.mpr ⟨lw_p108, List.forall_mem_cons.mpr ⟨lw_p109, List.forall_mem_cons.mpr ⟨lw_p110, List.forall_mem_cons.mpr ⟨lw_p111, fun _ h => absurd h List.not_mem_nil⟩⟩⟩⟩⟩⟩⟩⟩⟩⟩⟩⟩⟩⟩⟩⟩
theorem lw_p112 : lw_okq (⟨"EchoValeModel", "holds", "(II)Z"⟩, 50) := ⟨⟨by decide +kernel, by decide +kernel⟩, List.mem_of_getElem? (i := 1247) (by decide +kernel), List.mem_of_getElem? (i := 1879) (by decide +kernel), List.mem_of_getElem? (i := 1880) (by decide +kernel)⟩
theorem lw_p113 : lw_okq (⟨"EchoValeModel", "isLost", "(I)Z"⟩, 50) := ⟨⟨by decide +kernel, by decide +kernel⟩, List.mem_of_getElem? (i := 1247) (by decide +kernel), List.mem_of_getElem? (i := 1883) (by decide +kernel), List.mem_of_getElem? (i := 1884) (by decide +kernel)⟩
def lw_privs_8 : List (MethodName × Nat) := [(⟨"EchoValeModel", "holds", "(II)Z"⟩, 50), (⟨"EchoValeModel", "isLost", "(I)Z"⟩, 50)]
theorem lw_r8 : ∀ q ∈ lw_privs_8, lw_okq q := List.forall_mem_cons.mpr ⟨lw_p112, List.forall_mem_cons.mpr ⟨lw_p113, fun _ h => absurd h List.not_mem_nil⟩⟩
def lw_privs : List (MethodName × Nat) := lw_privs_1 ++ (lw_privs_2 ++ (lw_privs_3 ++ (lw_privs_4 ++ (lw_privs_5 ++ (lw_privs_6 ++ (lw_privs_7 ++ (lw_privs_8)))))))
def lw_tbl : List Cond := k2_sels lw_privs ++ tables_1
theorem lw_privs_ok : ∀ q ∈ lw_privs, lw_okq q := by
  show ∀ q ∈ lw_privs_1 ++ (lw_privs_2 ++ (lw_privs_3 ++ (lw_privs_4 ++ (lw_privs_5 ++ (lw_privs_6 ++ (lw_privs_7 ++ (lw_privs_8))))))), lw_okq q
  exact List.forall_mem_append.mpr ⟨lw_r1, List.forall_mem_append.mpr ⟨lw_r2, List.forall_mem_append.mpr ⟨lw_r3, List.forall_mem_append.mpr ⟨lw_r4, List.forall_mem_append.mpr ⟨lw_r5, List.forall_mem_append.mpr ⟨lw_r6, List.forall_mem_append.mpr ⟨lw_r7, lw_r8⟩⟩⟩⟩⟩⟩⟩
def RX0 : String := "EchoVale$ClaimsText"
def TX0 : u_T := fun k => match k with
  | 0 => ("EchoVale$ClaimsText", "wrongLine", "I", false)
  | _ => ("EchoVale$ClaimsText", "reader", "LEchoVale$Reader;", true)
def tyX0 : Nat → FieldType := fun k => match k with
  | 0 => .int
  | _ => .object "EchoVale$Reader"
theorem nmX0 : ∀ a, a < 2 → ∀ b, b < 2 → a ≠ b → (TX0 a).2.1 ≠ (TX0 b).2.1 := by decide +kernel
theorem tyX0_ok : ∀ k, k < 2 → parseFieldDescriptor (TX0 k).2.2.1 = some (tyX0 k) := by decide +kernel
def RX1 : String := "EchoVale$Course"
def TX1 : u_T := fun k => match k with
  | 0 => ("EchoVale$Course", "hour", "I", false)
  | 1 => ("EchoVale$Course", "sayings", "I", false)
  | 2 => ("EchoVale$Course", "echoes", "I", false)
  | 3 => ("EchoVale$Course", "place", "[I", true)
  | 4 => ("EchoVale$Course", "due", "[I", true)
  | 5 => ("EchoVale$Course", "force", "[I", true)
  | 6 => ("EchoVale$Course", "facts", "[I", true)
  | 7 => ("EchoVale$Course", "log", "[I", true)
  | _ => ("EchoVale$Course", "soonest", "[I", true)
def tyX1 : Nat → FieldType := fun k => match k with
  | 0 => .int
  | 1 => .int
  | 2 => .int
  | 3 => .array .int
  | 4 => .array .int
  | 5 => .array .int
  | 6 => .array .int
  | 7 => .array .int
  | _ => .array .int
theorem nmX1 : ∀ a, a < 9 → ∀ b, b < 9 → a ≠ b → (TX1 a).2.1 ≠ (TX1 b).2.1 := by decide +kernel
theorem tyX1_ok : ∀ k, k < 9 → parseFieldDescriptor (TX1 k).2.2.1 = some (tyX1 k) := by decide +kernel
def RX2 : String := "EchoVale$Draws"
def TX2 : u_T := fun k => match k with
  | 0 => ("EchoVale$Draws", "storms", "I", false)
  | 1 => ("EchoVale$Draws", "sayings", "I", false)
  | _ => ("EchoVale$Draws", "seed", "I", false)
def tyX2 : Nat → FieldType := fun k => match k with
  | 0 => .int
  | 1 => .int
  | _ => .int
theorem nmX2 : ∀ a, a < 3 → ∀ b, b < 3 → a ≠ b → (TX2 a).2.1 ≠ (TX2 b).2.1 := by decide +kernel
theorem tyX2_ok : ∀ k, k < 3 → parseFieldDescriptor (TX2 k).2.2.1 = some (tyX2 k) := by decide +kernel
def RX3 : String := "EchoVale$Image"
def TX3 : u_T := fun k => match k with
  | 0 => ("EchoVale$Image", "kept", "Z", false)
  | 1 => ("EchoVale$Image", "valley", "LEchoVale$Valley;", true)
  | 2 => ("EchoVale$Image", "course", "LEchoVale$Course;", true)
  | _ => ("EchoVale$Image", "sentence", "LEchoVale$Sentence;", true)
def tyX3 : Nat → FieldType := fun k => match k with
  | 0 => .boolean
  | 1 => .object "EchoVale$Valley"
  | 2 => .object "EchoVale$Course"
  | _ => .object "EchoVale$Sentence"
theorem nmX3 : ∀ a, a < 4 → ∀ b, b < 4 → a ≠ b → (TX3 a).2.1 ≠ (TX3 b).2.1 := by decide +kernel
theorem tyX3_ok : ∀ k, k < 4 → parseFieldDescriptor (TX3 k).2.2.1 = some (tyX3 k) := by decide +kernel
def RX4 : String := "EchoVale$Pieces"
def TX4 : u_T := fun k => match k with
  | 0 => ("EchoVale$Pieces", "found", "I", false)
  | 1 => ("EchoVale$Pieces", "ways", "[I", true)
  | 2 => ("EchoVale$Pieces", "heard", "I", false)
  | 3 => ("EchoVale$Pieces", "cliff", "[I", true)
  | 4 => ("EchoVale$Pieces", "hour", "[I", true)
  | _ => ("EchoVale$Pieces", "force", "[I", true)
def tyX4 : Nat → FieldType := fun k => match k with
  | 0 => .int
  | 1 => .array .int
  | 2 => .int
  | 3 => .array .int
  | 4 => .array .int
  | _ => .array .int
theorem nmX4 : ∀ a, a < 6 → ∀ b, b < 6 → a ≠ b → (TX4 a).2.1 ≠ (TX4 b).2.1 := by decide +kernel
theorem tyX4_ok : ∀ k, k < 6 → parseFieldDescriptor (TX4 k).2.2.1 = some (tyX4 k) := by decide +kernel
def RX5 : String := "EchoVale$Reader"
def TX5 : u_T := fun k => match k with
  | 0 => ("EchoVale$Reader", "bytes", "[I", true)
  | 1 => ("EchoVale$Reader", "length", "I", false)
  | 2 => ("EchoVale$Reader", "fault", "I", false)
  | 3 => ("EchoVale$Reader", "place", "I", false)
  | 4 => ("EchoVale$Reader", "kind", "I", false)
  | 5 => ("EchoVale$Reader", "start", "I", false)
  | 6 => ("EchoVale$Reader", "value", "I", false)
  | 7 => ("EchoVale$Reader", "word", "J", false)
  | 8 => ("EchoVale$Reader", "at", "I", false)
  | 9 => ("EchoVale$Reader", "most", "I", false)
  | _ => ("EchoVale$Reader", "keywords", "[J", true)
def tyX5 : Nat → FieldType := fun k => match k with
  | 0 => .array .int
  | 1 => .int
  | 2 => .int
  | 3 => .int
  | 4 => .int
  | 5 => .int
  | 6 => .int
  | 7 => .long
  | 8 => .int
  | 9 => .int
  | _ => .array .long
theorem nmX5 : ∀ a, a < 11 → ∀ b, b < 11 → a ≠ b → (TX5 a).2.1 ≠ (TX5 b).2.1 := by decide +kernel
theorem tyX5_ok : ∀ k, k < 11 → parseFieldDescriptor (TX5 k).2.2.1 = some (tyX5 k) := by decide +kernel
def RX6 : String := "EchoVale$Sentence"
def TX6 : u_T := fun k => match k with
  | 0 => ("EchoVale$Sentence", "ones", "I", false)
  | 1 => ("EchoVale$Sentence", "steps", "I", false)
  | 2 => ("EchoVale$Sentence", "code", "[I", true)
  | _ => ("EchoVale$Sentence", "answers", "[Z", true)
def tyX6 : Nat → FieldType := fun k => match k with
  | 0 => .int
  | 1 => .int
  | 2 => .array .int
  | _ => .array .boolean
theorem nmX6 : ∀ a, a < 4 → ∀ b, b < 4 → a ≠ b → (TX6 a).2.1 ≠ (TX6 b).2.1 := by decide +kernel
theorem tyX6_ok : ∀ k, k < 4 → parseFieldDescriptor (TX6 k).2.2.1 = some (tyX6 k) := by decide +kernel
def RX7 : String := "EchoVale$SentenceText"
def TX7 : u_T := fun k => match k with
  | 0 => ("EchoVale$SentenceText", "sentence", "LEchoVale$Sentence;", true)
  | _ => ("EchoVale$SentenceText", "reader", "LEchoVale$Reader;", true)
def tyX7 : Nat → FieldType := fun k => match k with
  | 0 => .object "EchoVale$Sentence"
  | _ => .object "EchoVale$Reader"
theorem nmX7 : ∀ a, a < 2 → ∀ b, b < 2 → a ≠ b → (TX7 a).2.1 ≠ (TX7 b).2.1 := by decide +kernel
theorem tyX7_ok : ∀ k, k < 2 → parseFieldDescriptor (TX7 k).2.2.1 = some (tyX7 k) := by decide +kernel
def RX8 : String := "EchoVale$Undo"
def TX8 : u_T := fun k => match k with
  | 0 => ("EchoVale$Undo", "kept", "I", false)
  | 1 => ("EchoVale$Undo", "oldest", "I", false)
  | _ => ("EchoVale$Undo", "rows", "[LEchoVale$Course;", true)
def tyX8 : Nat → FieldType := fun k => match k with
  | 0 => .int
  | 1 => .int
  | _ => .array (.object "EchoVale$Course")
theorem nmX8 : ∀ a, a < 3 → ∀ b, b < 3 → a ≠ b → (TX8 a).2.1 ≠ (TX8 b).2.1 := by decide +kernel
theorem tyX8_ok : ∀ k, k < 3 → parseFieldDescriptor (TX8 k).2.2.1 = some (tyX8 k) := by decide +kernel
def RX9 : String := "EchoVale$Valley"
def TX9 : u_T := fun k => match k with
  | 0 => ("EchoVale$Valley", "width", "I", false)
  | 1 => ("EchoVale$Valley", "height", "I", false)
  | 2 => ("EchoVale$Valley", "cliffs", "I", false)
  | 3 => ("EchoVale$Valley", "persons", "I", false)
  | 4 => ("EchoVale$Valley", "moves", "I", false)
  | 5 => ("EchoVale$Valley", "felts", "I", false)
  | 6 => ("EchoVale$Valley", "snows", "I", false)
  | 7 => ("EchoVale$Valley", "cliffName", "[J", true)
  | 8 => ("EchoVale$Valley", "cliffCell", "[I", true)
  | 9 => ("EchoVale$Valley", "delay", "[I", true)
  | 10 => ("EchoVale$Valley", "strength", "[I", true)
  | 11 => ("EchoVale$Valley", "personName", "[J", true)
  | 12 => ("EchoVale$Valley", "home", "[I", true)
  | 13 => ("EchoVale$Valley", "campCell", "[I", true)
  | 14 => ("EchoVale$Valley", "moveHour", "[I", true)
  | 15 => ("EchoVale$Valley", "movePerson", "[I", true)
  | 16 => ("EchoVale$Valley", "moveCell", "[I", true)
  | 17 => ("EchoVale$Valley", "feltCell", "[I", true)
  | 18 => ("EchoVale$Valley", "snowHour", "[I", true)
  | _ => ("EchoVale$Valley", "snowDepth", "[I", true)
def tyX9 : Nat → FieldType := fun k => match k with
  | 0 => .int
  | 1 => .int
  | 2 => .int
  | 3 => .int
  | 4 => .int
  | 5 => .int
  | 6 => .int
  | 7 => .array .long
  | 8 => .array .int
  | 9 => .array .int
  | 10 => .array .int
  | 11 => .array .long
  | 12 => .array .int
  | 13 => .array .int
  | 14 => .array .int
  | 15 => .array .int
  | 16 => .array .int
  | 17 => .array .int
  | 18 => .array .int
  | _ => .array .int
theorem nmX9 : ∀ a, a < 20 → ∀ b, b < 20 → a ≠ b → (TX9 a).2.1 ≠ (TX9 b).2.1 := by decide +kernel
theorem tyX9_ok : ∀ k, k < 20 → parseFieldDescriptor (TX9 k).2.2.1 = some (tyX9 k) := by decide +kernel
def RX10 : String := "EchoVale$ValleyText"
def TX10 : u_T := fun k => match k with
  | 0 => ("EchoVale$ValleyText", "valley", "LEchoVale$Valley;", true)
  | 1 => ("EchoVale$ValleyText", "lines", "I", false)
  | _ => ("EchoVale$ValleyText", "reader", "LEchoVale$Reader;", true)
def tyX10 : Nat → FieldType := fun k => match k with
  | 0 => .object "EchoVale$Valley"
  | 1 => .int
  | _ => .object "EchoVale$Reader"
theorem nmX10 : ∀ a, a < 3 → ∀ b, b < 3 → a ≠ b → (TX10 a).2.1 ≠ (TX10 b).2.1 := by decide +kernel
theorem tyX10_ok : ∀ k, k < 3 → parseFieldDescriptor (TX10 k).2.2.1 = some (tyX10 k) := by decide +kernel
def RX11 : String := "EchoVale"
def TX11 : u_T := fun k => match k with
  | 0 => ("EchoVale", "reader", "LEchoVale$Reader;", true)
  | 1 => ("EchoVale", "valley", "LEchoVale$Valley;", true)
  | 2 => ("EchoVale", "valleyText", "LEchoVale$ValleyText;", true)
  | 3 => ("EchoVale", "claimsText", "LEchoVale$ClaimsText;", true)
  | 4 => ("EchoVale", "sentence", "LEchoVale$Sentence;", true)
  | 5 => ("EchoVale", "sentenceText", "LEchoVale$SentenceText;", true)
  | 6 => ("EchoVale", "course", "LEchoVale$Course;", true)
  | 7 => ("EchoVale", "ahead", "LEchoVale$Course;", true)
  | 8 => ("EchoVale", "undoRows", "LEchoVale$Undo;", true)
  | 9 => ("EchoVale", "images", "[LEchoVale$Image;", true)
  | 10 => ("EchoVale", "clues", "LEchoVale$Pieces;", true)
  | 11 => ("EchoVale", "draws", "LEchoVale$Draws;", true)
  | 12 => ("EchoVale", "outcome", "[I", true)
  | 13 => ("EchoVale", "written", "[I", true)
  | 14 => ("EchoVale", "writtenBytes", "I", false)
  | 15 => ("EchoVale", "toldStorms", "I", false)
  | _ => ("EchoVale", "toldSayings", "I", false)
def tyX11 : Nat → FieldType := fun k => match k with
  | 0 => .object "EchoVale$Reader"
  | 1 => .object "EchoVale$Valley"
  | 2 => .object "EchoVale$ValleyText"
  | 3 => .object "EchoVale$ClaimsText"
  | 4 => .object "EchoVale$Sentence"
  | 5 => .object "EchoVale$SentenceText"
  | 6 => .object "EchoVale$Course"
  | 7 => .object "EchoVale$Course"
  | 8 => .object "EchoVale$Undo"
  | 9 => .array (.object "EchoVale$Image")
  | 10 => .object "EchoVale$Pieces"
  | 11 => .object "EchoVale$Draws"
  | 12 => .array .int
  | 13 => .array .int
  | 14 => .int
  | 15 => .int
  | _ => .int
theorem nmX11 : ∀ a, a < 17 → ∀ b, b < 17 → a ≠ b → (TX11 a).2.1 ≠ (TX11 b).2.1 := by decide +kernel
theorem tyX11_ok : ∀ k, k < 17 → parseFieldDescriptor (TX11 k).2.2.1 = some (tyX11 k) := by decide +kernel
def RX12 : String := "EchoValeModel"
def TX12 : u_T := fun k => match k with
  | 0 => ("EchoValeModel", "thrown", "I", false)
  | 1 => ("EchoValeModel", "tape", "[I", true)
  | 2 => ("EchoValeModel", "taped", "I", false)
  | 3 => ("EchoValeModel", "size", "I", false)
  | 4 => ("EchoValeModel", "limit", "I", false)
  | 5 => ("EchoValeModel", "to", "I", false)
  | 6 => ("EchoValeModel", "from", "I", false)
  | 7 => ("EchoValeModel", "kind", "I", false)
  | 8 => ("EchoValeModel", "number", "I", false)
  | 9 => ("EchoValeModel", "sign", "I", false)
  | 10 => ("EchoValeModel", "fault", "I", false)
  | 11 => ("EchoValeModel", "place", "I", false)
  | 12 => ("EchoValeModel", "word", "J", false)
  | 13 => ("EchoValeModel", "told", "I", false)
  | 14 => ("EchoValeModel", "now", "[I", true)
  | 15 => ("EchoValeModel", "read", "[I", true)
  | 16 => ("EchoValeModel", "kept", "[I", true)
  | 17 => ("EchoValeModel", "snaps", "[I", true)
  | 18 => ("EchoValeModel", "aside", "[I", true)
  | 19 => ("EchoValeModel", "name", "[J", true)
  | 20 => ("EchoValeModel", "readName", "[J", true)
  | 21 => ("EchoValeModel", "keptName", "[J", true)
  | 22 => ("EchoValeModel", "isKept", "[Z", true)
  | 23 => ("EchoValeModel", "snapMany", "I", false)
  | 24 => ("EchoValeModel", "hasLand", "Z", false)
  | 25 => ("EchoValeModel", "hasBy", "[I", true)
  | 26 => ("EchoValeModel", "pieceCliff", "[I", true)
  | 27 => ("EchoValeModel", "pieceHour", "[I", true)
  | 28 => ("EchoValeModel", "pieceForce", "[I", true)
  | 29 => ("EchoValeModel", "ways", "[I", true)
  | 30 => ("EchoValeModel", "atHour", "[I", true)
  | 31 => ("EchoValeModel", "much", "[I", true)
  | 32 => ("EchoValeModel", "gone", "[I", true)
  | 33 => ("EchoValeModel", "forceAt", "[I", true)
  | 34 => ("EchoValeModel", "pieceMany", "I", false)
  | 35 => ("EchoValeModel", "wayMany", "I", false)
  | 36 => ("EchoValeModel", "claimMany", "I", false)
  | 37 => ("EchoValeModel", "wrongClaim", "I", false)
  | 38 => ("EchoValeModel", "seed", "I", false)
  | 39 => ("EchoValeModel", "stormMany", "I", false)
  | 40 => ("EchoValeModel", "saidMany", "I", false)
  | 41 => ("EchoValeModel", "storms", "[I", true)
  | 42 => ("EchoValeModel", "text", "[I", true)
  | 43 => ("EchoValeModel", "letters", "[I", true)
  | 44 => ("EchoValeModel", "texted", "I", false)
  | 45 => ("EchoValeModel", "node", "[I", true)
  | 46 => ("EchoValeModel", "nodes", "I", false)
  | 47 => ("EchoValeModel", "onesMany", "I", false)
  | 48 => ("EchoValeModel", "within", "I", false)
  | _ => ("EchoValeModel", "top", "I", false)
def tyX12 : Nat → FieldType := fun k => match k with
  | 0 => .int
  | 1 => .array .int
  | 2 => .int
  | 3 => .int
  | 4 => .int
  | 5 => .int
  | 6 => .int
  | 7 => .int
  | 8 => .int
  | 9 => .int
  | 10 => .int
  | 11 => .int
  | 12 => .long
  | 13 => .int
  | 14 => .array .int
  | 15 => .array .int
  | 16 => .array .int
  | 17 => .array .int
  | 18 => .array .int
  | 19 => .array .long
  | 20 => .array .long
  | 21 => .array .long
  | 22 => .array .boolean
  | 23 => .int
  | 24 => .boolean
  | 25 => .array .int
  | 26 => .array .int
  | 27 => .array .int
  | 28 => .array .int
  | 29 => .array .int
  | 30 => .array .int
  | 31 => .array .int
  | 32 => .array .int
  | 33 => .array .int
  | 34 => .int
  | 35 => .int
  | 36 => .int
  | 37 => .int
  | 38 => .int
  | 39 => .int
  | 40 => .int
  | 41 => .array .int
  | 42 => .array .int
  | 43 => .array .int
  | 44 => .int
  | 45 => .array .int
  | 46 => .int
  | 47 => .int
  | 48 => .int
  | _ => .int
theorem nmX12 : ∀ a, a < 50 → ∀ b, b < 50 → a ≠ b → (TX12 a).2.1 ≠ (TX12 b).2.1 := by decide +kernel
theorem tyX12_ok : ∀ k, k < 50 → parseFieldDescriptor (TX12 k).2.2.1 = some (tyX12 k) := by decide +kernel
abbrev vwCl : List vw_C := [(RX0, TX0, 2), (RX1, TX1, 9), (RX2, TX2, 3), (RX3, TX3, 4), (RX4, TX4, 6), (RX5, TX5, 11), (RX6, TX6, 4), (RX7, TX7, 2), (RX8, TX8, 3), (RX9, TX9, 20), (RX10, TX10, 3), (RX11, TX11, 17), (RX12, TX12, 50)]
def zOwn : List String := ["EchoVale$ClaimsText", "EchoVale$Course", "EchoVale$Draws", "EchoVale$Image", "EchoVale$Pieces", "EchoVale$Reader", "EchoVale$Sentence", "EchoVale$SentenceText", "EchoVale$Undo", "EchoVale$Valley", "EchoVale$ValleyText", "EchoVale", "EchoValeModel", "java/lang/Integer", "java/lang/Math", "java/util/Arrays", "EchoValeLaw"]
/-- the methods: name, code, locals, answer, class, parameters, place of its word -/
def zM0 : List (MethodName × ByteArray × Nat × Option FieldType × Nat × Nat × Nat × Nat) := [(⟨"EchoVale", "<init>", "()V"⟩, prog_1_method_1_code, 2, none, 11, 0, 1, 30),
  (⟨"EchoVale$Reader", "<init>", "()V"⟩, prog_7_method_1_code, 1, none, 5, 0, 1, 38),
  (⟨"EchoVale$Reader", "packKeywords", "()[J"⟩, prog_7_method_2_code, 5, (some (Jvm.ClassFile.FieldType.array Jvm.ClassFile.FieldType.long)), 5, 0, 1, 42),
  (⟨"EchoVale$Reader", "withLetter", "(JI)J"⟩, prog_7_method_3_code, 3, (some Jvm.ClassFile.FieldType.long), 5, 2, 1, 94),
  (⟨"EchoVale$Valley", "<init>", "()V"⟩, prog_11_method_1_code, 1, none, 9, 0, 1, 148),
  (⟨"EchoVale$ValleyText", "<init>", "(LEchoVale$Reader;)V"⟩, prog_12_method_1_code, 2, none, 10, 1, 2, 15),
  (⟨"EchoVale$ClaimsText", "<init>", "(LEchoVale$Reader;)V"⟩, prog_2_method_1_code, 2, none, 0, 1, 2, 35),
  (⟨"EchoVale$Sentence", "<init>", "()V"⟩, prog_8_method_1_code, 1, none, 6, 0, 2, 49),
  (⟨"EchoVale$SentenceText", "<init>", "(LEchoVale$Reader;)V"⟩, prog_9_method_1_code, 2, none, 7, 1, 2, 71),
  (⟨"EchoVale$Course", "<init>", "()V"⟩, prog_3_method_1_code, 1, none, 1, 0, 2, 87),
  (⟨"EchoVale$Undo", "<init>", "()V"⟩, prog_10_method_1_code, 2, none, 8, 0, 2, 132),
  (⟨"EchoVale$Image", "<init>", "()V"⟩, prog_5_method_1_code, 1, none, 3, 0, 2, 153),
  (⟨"EchoVale$Pieces", "<init>", "()V"⟩, prog_6_method_1_code, 1, none, 4, 0, 2, 181),
  (⟨"EchoVale$Draws", "<init>", "()V"⟩, prog_4_method_1_code, 1, none, 2, 0, 2, 208),
  (⟨"EchoVale", "feed", "(IIIII)I"⟩, prog_1_method_2_code, 6, (some Jvm.ClassFile.FieldType.int), 11, 5, 3, 37),
  (⟨"EchoVale$Reader", "addBytes", "(I)V"⟩, prog_7_method_4_code, 3, none, 5, 1, 3, 41),
  (⟨"EchoVale", "end", "(I)Z"⟩, prog_1_method_3_code, 2, (some Jvm.ClassFile.FieldType.boolean), 11, 1, 3, 45),
  (⟨"EchoVale", "valley", "()I"⟩, prog_1_method_4_code, 2, (some Jvm.ClassFile.FieldType.int), 11, 0, 3, 49),
  (⟨"EchoVale$ValleyText", "readText", "()Z"⟩, prog_12_method_2_code, 2, (some Jvm.ClassFile.FieldType.boolean), 10, 0, 3, 53),
  (⟨"EchoVale$Valley", "clear", "()V"⟩, prog_11_method_2_code, 1, none, 9, 0, 3, 57),
  (⟨"EchoVale$Reader", "open", "(I)V"⟩, prog_7_method_5_code, 2, none, 5, 1, 3, 61),
  (⟨"EchoVale$Reader", "step", "()V"⟩, prog_7_method_6_code, 2, none, 5, 0, 3, 65),
  (⟨"java/lang/Math", "min", "(II)I"⟩, prog_20_method_69_code, 2, (some Jvm.ClassFile.FieldType.int), 14, 2, 3, 68),
  (⟨"EchoVale$Reader", "isBlank", "(I)Z"⟩, prog_7_method_9_code, 1, (some Jvm.ClassFile.FieldType.boolean), 5, 1, 3, 71),
  (⟨"EchoVale$Reader", "isLetter", "(I)Z"⟩, prog_7_method_10_code, 1, (some Jvm.ClassFile.FieldType.boolean), 5, 1, 3, 74),
  (⟨"EchoVale$Reader", "isDigit", "(I)Z"⟩, prog_7_method_11_code, 1, (some Jvm.ClassFile.FieldType.boolean), 5, 1, 3, 77),
  (⟨"EchoVale$Reader", "readRun", "()V"⟩, prog_7_method_7_code, 3, none, 5, 0, 3, 81),
  (⟨"EchoVale$Reader", "keywordOf", "(J)I"⟩, prog_7_method_8_code, 4, (some Jvm.ClassFile.FieldType.int), 5, 1, 3, 85),
  (⟨"EchoVale$Reader", "isMark", "(I)Z"⟩, prog_7_method_12_code, 1, (some Jvm.ClassFile.FieldType.boolean), 5, 1, 3, 88),
  (⟨"EchoVale$Reader", "isAtEnd", "()Z"⟩, prog_7_method_14_code, 1, (some Jvm.ClassFile.FieldType.boolean), 5, 0, 3, 92),
  (⟨"EchoVale$ValleyText", "readLine", "()Z"⟩, prog_12_method_3_code, 1, (some Jvm.ClassFile.FieldType.boolean), 10, 0, 3, 96),
  (⟨"EchoVale$Reader", "refuse", "(I)Z"⟩, prog_7_method_13_code, 2, (some Jvm.ClassFile.FieldType.boolean), 5, 1, 3, 100),
  (⟨"EchoVale$ValleyText", "readLand", "()Z"⟩, prog_12_method_4_code, 2, (some Jvm.ClassFile.FieldType.boolean), 10, 0, 3, 104),
  (⟨"EchoVale$Reader", "isNumber", "(II)Z"⟩, prog_7_method_17_code, 3, (some Jvm.ClassFile.FieldType.boolean), 5, 2, 3, 109),
  (⟨"EchoVale$ValleyText", "readCliff", "()Z"⟩, prog_12_method_5_code, 6, (some Jvm.ClassFile.FieldType.boolean), 10, 0, 3, 114),
  (⟨"EchoVale$ValleyText", "isNewName", "()Z"⟩, prog_12_method_11_code, 1, (some Jvm.ClassFile.FieldType.boolean), 10, 0, 3, 118),
  (⟨"EchoVale$Valley", "isTaken", "(J)Z"⟩, prog_11_method_8_code, 3, (some Jvm.ClassFile.FieldType.boolean), 9, 1, 3, 122),
  (⟨"EchoVale$Valley", "cliffNamed", "(J)I"⟩, prog_11_method_6_code, 4, (some Jvm.ClassFile.FieldType.int), 9, 1, 3, 126),
  (⟨"EchoVale$Valley", "personNamed", "(J)I"⟩, prog_11_method_7_code, 4, (some Jvm.ClassFile.FieldType.int), 9, 1, 3, 130),
  (⟨"EchoVale$ValleyText", "cellHere", "()I"⟩, prog_12_method_12_code, 2, (some Jvm.ClassFile.FieldType.int), 10, 0, 3, 134)]
def zM1 : List (MethodName × ByteArray × Nat × Option FieldType × Nat × Nat × Nat × Nat) := [(⟨"EchoVale$Valley", "hasCliff", "(I)Z"⟩, prog_11_method_9_code, 3, (some Jvm.ClassFile.FieldType.boolean), 9, 1, 3, 138),
  (⟨"EchoVale$ValleyText", "readPerson", "()Z"⟩, prog_12_method_6_code, 5, (some Jvm.ClassFile.FieldType.boolean), 10, 0, 3, 142),
  (⟨"EchoVale$ValleyText", "readMove", "()Z"⟩, prog_12_method_7_code, 5, (some Jvm.ClassFile.FieldType.boolean), 10, 0, 3, 146),
  (⟨"EchoVale$Reader", "personHere", "(LEchoVale$Valley;)I"⟩, prog_7_method_19_code, 3, (some Jvm.ClassFile.FieldType.int), 5, 1, 3, 150),
  (⟨"EchoVale$Valley", "hasMove", "(II)Z"⟩, prog_11_method_11_code, 4, (some Jvm.ClassFile.FieldType.boolean), 9, 2, 3, 155),
  (⟨"EchoVale$ValleyText", "readCamp", "()Z"⟩, prog_12_method_8_code, 3, (some Jvm.ClassFile.FieldType.boolean), 10, 0, 3, 159),
  (⟨"EchoVale$ValleyText", "readFelt", "()Z"⟩, prog_12_method_9_code, 3, (some Jvm.ClassFile.FieldType.boolean), 10, 0, 3, 163),
  (⟨"EchoVale$Valley", "hasFelt", "(I)Z"⟩, prog_11_method_10_code, 3, (some Jvm.ClassFile.FieldType.boolean), 9, 1, 3, 167),
  (⟨"EchoVale$ValleyText", "readSnow", "()Z"⟩, prog_12_method_10_code, 3, (some Jvm.ClassFile.FieldType.boolean), 10, 0, 3, 171),
  (⟨"EchoVale$Valley", "hasSnow", "(I)Z"⟩, prog_11_method_12_code, 3, (some Jvm.ClassFile.FieldType.boolean), 9, 1, 3, 175),
  (⟨"EchoVale$Reader", "passSign", "(I)Z"⟩, prog_7_method_18_code, 2, (some Jvm.ClassFile.FieldType.boolean), 5, 1, 3, 179),
  (⟨"EchoVale$Reader", "isSign", "(I)Z"⟩, prog_7_method_16_code, 2, (some Jvm.ClassFile.FieldType.boolean), 5, 1, 3, 183),
  (⟨"EchoVale$Valley", "copyFrom", "(LEchoVale$Valley;)V"⟩, prog_11_method_3_code, 2, none, 9, 1, 3, 187),
  (⟨"EchoVale$Course", "begin", "(LEchoVale$Valley;)V"⟩, prog_3_method_2_code, 2, none, 1, 1, 3, 194),
  (⟨"EchoVale$Sentence", "clear", "()V"⟩, prog_8_method_2_code, 1, none, 6, 0, 3, 199),
  (⟨"EchoVale$Undo", "forget", "()V"⟩, prog_10_method_2_code, 1, none, 8, 0, 3, 203),
  (⟨"EchoVale", "fault", "()I"⟩, prog_1_method_5_code, 1, (some Jvm.ClassFile.FieldType.int), 11, 0, 3, 207),
  (⟨"EchoVale", "comes", "(III)I"⟩, prog_1_method_9_code, 4, (some Jvm.ClassFile.FieldType.int), 11, 3, 3, 211),
  (⟨"EchoVale", "isSaying", "(I)Z"⟩, prog_1_method_45_code, 2, (some Jvm.ClassFile.FieldType.boolean), 11, 1, 3, 215),
  (⟨"EchoVale", "isCliff", "(I)Z"⟩, prog_1_method_43_code, 2, (some Jvm.ClassFile.FieldType.boolean), 11, 1, 3, 219),
  (⟨"EchoVale", "share", "(II)I"⟩, prog_1_method_10_code, 3, (some Jvm.ClassFile.FieldType.int), 11, 2, 3, 223),
  (⟨"EchoVale", "isPerson", "(I)Z"⟩, prog_1_method_44_code, 2, (some Jvm.ClassFile.FieldType.boolean), 11, 1, 3, 227),
  (⟨"EchoVale$Course", "shareOf", "(II)I"⟩, prog_3_method_19_code, 7, (some Jvm.ClassFile.FieldType.int), 1, 2, 3, 231),
  (⟨"EchoVale$Course", "fact", "(II)I"⟩, prog_3_method_6_code, 3, (some Jvm.ClassFile.FieldType.int), 1, 2, 3, 235),
  (⟨"java/lang/Integer", "bitCount", "(I)I"⟩, prog_19_method_49_code, 1, (some Jvm.ClassFile.FieldType.int), 13, 1, 3, 238),
  (⟨"EchoVale", "hasBit", "(II)Z"⟩, prog_1_method_48_code, 2, (some Jvm.ClassFile.FieldType.boolean), 11, 2, 4, 4),
  (⟨"EchoVale", "sounded", "(II)I"⟩, prog_1_method_11_code, 3, (some Jvm.ClassFile.FieldType.int), 11, 2, 4, 8),
  (⟨"EchoVale$Course", "logged", "(II)I"⟩, prog_3_method_7_code, 3, (some Jvm.ClassFile.FieldType.int), 1, 2, 4, 12),
  (⟨"EchoVale", "goes", "(II)Z"⟩, prog_1_method_12_code, 3, (some Jvm.ClassFile.FieldType.boolean), 11, 2, 4, 16),
  (⟨"EchoVale$Valley", "isCell", "(I)Z"⟩, prog_11_method_4_code, 2, (some Jvm.ClassFile.FieldType.boolean), 9, 1, 4, 20),
  (⟨"EchoVale$Undo", "keep", "(LEchoVale$Course;)V"⟩, prog_10_method_3_code, 2, none, 8, 1, 4, 24),
  (⟨"EchoVale$Course", "copyFrom", "(LEchoVale$Course;)V"⟩, prog_3_method_3_code, 2, none, 1, 1, 4, 28),
  (⟨"EchoVale$Course", "copyPlaces", "(LEchoVale$Course;)V"⟩, prog_3_method_4_code, 2, none, 1, 1, 4, 32),
  (⟨"EchoVale", "says", "(III)I"⟩, prog_1_method_13_code, 4, (some Jvm.ClassFile.FieldType.int), 11, 3, 4, 36),
  (⟨"EchoVale", "isLoud", "(I)Z"⟩, prog_1_method_46_code, 1, (some Jvm.ClassFile.FieldType.boolean), 11, 1, 4, 39),
  (⟨"EchoVale$Course", "isFull", "()Z"⟩, prog_3_method_5_code, 1, (some Jvm.ClassFile.FieldType.boolean), 1, 0, 4, 43),
  (⟨"EchoVale$Course", "speak", "(LEchoVale$Valley;III)I"⟩, prog_3_method_8_code, 6, (some Jvm.ClassFile.FieldType.int), 1, 4, 4, 47),
  (⟨"EchoVale$Valley", "lessFelt", "(II)I"⟩, prog_11_method_14_code, 3, (some Jvm.ClassFile.FieldType.int), 9, 2, 4, 51),
  (⟨"java/lang/Math", "max", "(II)I"⟩, prog_20_method_65_code, 2, (some Jvm.ClassFile.FieldType.int), 14, 2, 4, 55),
  (⟨"EchoVale$Course", "utter", "(LEchoVale$Valley;IIII)I"⟩, prog_3_method_9_code, 9, (some Jvm.ClassFile.FieldType.int), 1, 5, 4, 59)]
def zM2 : List (MethodName × ByteArray × Nat × Option FieldType × Nat × Nat × Nat × Nat) := [(⟨"java/util/Arrays", "fill", "([IIII)V"⟩, prog_29_method_104_code, 5, none, 15, 4, 4, 62),
  (⟨"java/util/Arrays", "rangeCheck", "(III)V"⟩, prog_29_method_30_code, 3, none, 15, 3, 4, 65),
  (⟨"EchoVale$Valley", "directly", "(III)I"⟩, prog_11_method_15_code, 5, (some Jvm.ClassFile.FieldType.int), 9, 3, 4, 69),
  (⟨"EchoVale$Valley", "distance", "(II)I"⟩, prog_11_method_5_code, 2, (some Jvm.ClassFile.FieldType.int), 9, 2, 4, 72),
  (⟨"java/lang/Math", "abs", "(I)I"⟩, prog_20_method_59_code, 1, (some Jvm.ClassFile.FieldType.int), 14, 1, 4, 75),
  (⟨"EchoVale$Course", "offer", "(LEchoVale$Valley;III)V"⟩, prog_3_method_10_code, 8, none, 1, 4, 4, 79),
  (⟨"EchoVale$Course", "findSoonest", "(I)V"⟩, prog_3_method_11_code, 4, none, 1, 1, 4, 83),
  (⟨"EchoVale", "on", "(I)I"⟩, prog_1_method_14_code, 2, (some Jvm.ClassFile.FieldType.int), 11, 1, 4, 88),
  (⟨"EchoVale$Course", "passHours", "(LEchoVale$Valley;I)I"⟩, prog_3_method_13_code, 4, (some Jvm.ClassFile.FieldType.int), 1, 2, 4, 92),
  (⟨"EchoVale$Course", "pass", "(LEchoVale$Valley;I)V"⟩, prog_3_method_14_code, 4, none, 1, 2, 4, 96),
  (⟨"EchoVale$Course", "giveBack", "(LEchoVale$Valley;II)V"⟩, prog_3_method_16_code, 7, none, 1, 3, 4, 100),
  (⟨"EchoVale$Valley", "snowAt", "(I)I"⟩, prog_11_method_13_code, 5, (some Jvm.ClassFile.FieldType.int), 9, 1, 4, 104),
  (⟨"EchoVale$Course", "sound", "(LEchoVale$Valley;III)V"⟩, prog_3_method_17_code, 8, none, 1, 4, 4, 109),
  (⟨"EchoVale$Valley", "hearersAt", "(II[I)I"⟩, prog_11_method_17_code, 6, (some Jvm.ClassFile.FieldType.int), 9, 3, 4, 113),
  (⟨"EchoVale$Course", "enterLog", "(IIII)V"⟩, prog_3_method_18_code, 6, none, 1, 4, 4, 117),
  (⟨"EchoVale$Valley", "onward", "(III)I"⟩, prog_11_method_16_code, 5, (some Jvm.ClassFile.FieldType.int), 9, 3, 4, 121),
  (⟨"EchoVale", "undo", "()I"⟩, prog_1_method_15_code, 1, (some Jvm.ClassFile.FieldType.int), 11, 0, 4, 125),
  (⟨"EchoVale$Undo", "takeBack", "(LEchoVale$Course;)Z"⟩, prog_10_method_4_code, 2, (some Jvm.ClassFile.FieldType.boolean), 8, 1, 4, 129),
  (⟨"EchoVale", "camp", "(II)I"⟩, prog_1_method_16_code, 7, (some Jvm.ClassFile.FieldType.int), 11, 2, 4, 133),
  (⟨"EchoVale", "isAhead", "(I)Z"⟩, prog_1_method_47_code, 1, (some Jvm.ClassFile.FieldType.boolean), 11, 1, 4, 136),
  (⟨"EchoVale", "wealthByCamping", "(III)I"⟩, prog_1_method_49_code, 4, (some Jvm.ClassFile.FieldType.int), 11, 3, 4, 140),
  (⟨"EchoVale$Course", "wealth", "(I)I"⟩, prog_3_method_20_code, 4, (some Jvm.ClassFile.FieldType.int), 1, 1, 4, 145),
  (⟨"EchoVale", "camping", "(III)I"⟩, prog_1_method_17_code, 4, (some Jvm.ClassFile.FieldType.int), 11, 3, 4, 150),
  (⟨"EchoVale", "has", "(III)I"⟩, prog_1_method_18_code, 4, (some Jvm.ClassFile.FieldType.int), 11, 3, 4, 154),
  (⟨"EchoVale", "areCamps", "(I)Z"⟩, prog_1_method_50_code, 2, (some Jvm.ClassFile.FieldType.boolean), 11, 1, 4, 158),
  (⟨"EchoVale$Valley", "campers", "()I"⟩, prog_11_method_18_code, 3, (some Jvm.ClassFile.FieldType.int), 9, 0, 4, 162),
  (⟨"EchoVale", "passByCamps", "(II)V"⟩, prog_1_method_51_code, 4, none, 11, 2, 4, 166),
  (⟨"EchoVale", "rests", "(II)I"⟩, prog_1_method_19_code, 5, (some Jvm.ClassFile.FieldType.int), 11, 2, 4, 171),
  (⟨"EchoVale", "keepOutcome", "(I)V"⟩, prog_1_method_52_code, 3, none, 11, 1, 4, 175),
  (⟨"EchoVale", "isRest", "(I)Z"⟩, prog_1_method_53_code, 5, (some Jvm.ClassFile.FieldType.boolean), 11, 1, 4, 179),
  (⟨"EchoVale", "tells", "(IIIII)I"⟩, prog_1_method_20_code, 8, (some Jvm.ClassFile.FieldType.int), 11, 5, 4, 183),
  (⟨"EchoVale", "passOneSaying", "(IIII)V"⟩, prog_1_method_54_code, 5, none, 11, 4, 4, 187),
  (⟨"EchoVale", "secret", "(II)I"⟩, prog_1_method_21_code, 4, (some Jvm.ClassFile.FieldType.int), 11, 2, 4, 193),
  (⟨"EchoVale", "next", "(I)I"⟩, prog_1_method_22_code, 3, (some Jvm.ClassFile.FieldType.int), 11, 1, 4, 197),
  (⟨"EchoVale", "heirs", "(II)I"⟩, prog_1_method_23_code, 3, (some Jvm.ClassFile.FieldType.int), 11, 2, 4, 202),
  (⟨"EchoVale", "when", "(III)I"⟩, prog_1_method_24_code, 5, (some Jvm.ClassFile.FieldType.int), 11, 3, 4, 206),
  (⟨"EchoVale", "meets", "(III)I"⟩, prog_1_method_25_code, 6, (some Jvm.ClassFile.FieldType.int), 11, 3, 4, 210),
  (⟨"EchoVale", "nearest", "(II)I"⟩, prog_1_method_26_code, 8, (some Jvm.ClassFile.FieldType.int), 11, 2, 4, 214),
  (⟨"EchoVale", "pieces", "()I"⟩, prog_1_method_27_code, 2, (some Jvm.ClassFile.FieldType.int), 11, 0, 4, 221),
  (⟨"EchoVale$Pieces", "take", "(LEchoVale$Reader;LEchoVale$Valley;)Z"⟩, prog_6_method_2_code, 5, (some Jvm.ClassFile.FieldType.boolean), 4, 2, 4, 225)]
def zM3 : List (MethodName × ByteArray × Nat × Option FieldType × Nat × Nat × Nat × Nat) := [(⟨"EchoVale$Pieces", "find", "(LEchoVale$Valley;LEchoVale$Course;)I"⟩, prog_6_method_3_code, 7, (some Jvm.ClassFile.FieldType.int), 4, 2, 4, 230),
  (⟨"EchoVale$Pieces", "canBegin", "(LEchoVale$Valley;I)Z"⟩, prog_6_method_5_code, 4, (some Jvm.ClassFile.FieldType.boolean), 4, 2, 4, 234),
  (⟨"EchoVale$Pieces", "canTake", "(LEchoVale$Valley;II)Z"⟩, prog_6_method_6_code, 6, (some Jvm.ClassFile.FieldType.boolean), 4, 3, 4, 237),
  (⟨"EchoVale$Pieces", "isWay", "(LEchoVale$Valley;LEchoVale$Course;III)Z"⟩, prog_6_method_7_code, 9, (some Jvm.ClassFile.FieldType.boolean), 4, 5, 5, 3),
  (⟨"EchoVale$Course", "leap", "(LEchoVale$Valley;I)Z"⟩, prog_3_method_15_code, 3, (some Jvm.ClassFile.FieldType.boolean), 1, 2, 5, 8),
  (⟨"EchoVale$Course", "isPending", "(I)Z"⟩, prog_3_method_12_code, 2, (some Jvm.ClassFile.FieldType.boolean), 1, 1, 5, 12),
  (⟨"EchoVale$Pieces", "isLogged", "(LEchoVale$Course;I)Z"⟩, prog_6_method_8_code, 4, (some Jvm.ClassFile.FieldType.boolean), 4, 2, 5, 16),
  (⟨"EchoVale$Pieces", "addWay", "(I)V"⟩, prog_6_method_4_code, 2, none, 4, 1, 5, 21),
  (⟨"EchoVale", "piece", "(I)I"⟩, prog_1_method_28_code, 2, (some Jvm.ClassFile.FieldType.int), 11, 1, 5, 25),
  (⟨"EchoVale", "claims", "()I"⟩, prog_1_method_29_code, 2, (some Jvm.ClassFile.FieldType.int), 11, 0, 5, 29),
  (⟨"EchoVale$ClaimsText", "readText", "(LEchoVale$Valley;LEchoVale$Course;)Z"⟩, prog_2_method_2_code, 4, (some Jvm.ClassFile.FieldType.boolean), 0, 2, 5, 33),
  (⟨"EchoVale$ClaimsText", "readLine", "(LEchoVale$Valley;LEchoVale$Course;I)Z"⟩, prog_2_method_3_code, 6, (some Jvm.ClassFile.FieldType.boolean), 0, 3, 5, 39),
  (⟨"EchoVale$ClaimsText", "isSo", "(LEchoVale$Course;III)Z"⟩, prog_2_method_4_code, 4, (some Jvm.ClassFile.FieldType.boolean), 0, 4, 5, 46),
  (⟨"EchoVale", "drawn", "(II)I"⟩, prog_1_method_30_code, 4, (some Jvm.ClassFile.FieldType.int), 11, 2, 5, 53),
  (⟨"EchoVale$Draws", "passHours", "(LEchoVale$Valley;LEchoVale$Course;II)I"⟩, prog_4_method_3_code, 7, (some Jvm.ClassFile.FieldType.int), 2, 4, 5, 57),
  (⟨"EchoVale$Draws", "draw", "(I)I"⟩, prog_4_method_2_code, 2, (some Jvm.ClassFile.FieldType.int), 2, 1, 5, 61),
  (⟨"EchoVale$Draws", "speak", "(LEchoVale$Valley;LEchoVale$Course;)V"⟩, prog_4_method_4_code, 6, none, 2, 2, 5, 67),
  (⟨"EchoVale", "storms", "(I)I"⟩, prog_1_method_31_code, 2, (some Jvm.ClassFile.FieldType.int), 11, 1, 5, 73),
  (⟨"EchoVale", "odds", "(III)I"⟩, prog_1_method_32_code, 7, (some Jvm.ClassFile.FieldType.int), 11, 3, 5, 77),
  (⟨"EchoVale", "poorest", "(I)I"⟩, prog_1_method_33_code, 7, (some Jvm.ClassFile.FieldType.int), 11, 1, 5, 81),
  (⟨"EchoVale", "reach", "(II)I"⟩, prog_1_method_34_code, 6, (some Jvm.ClassFile.FieldType.int), 11, 2, 5, 85),
  (⟨"EchoVale", "hears", "(II)I"⟩, prog_1_method_35_code, 3, (some Jvm.ClassFile.FieldType.int), 11, 2, 5, 89),
  (⟨"EchoVale", "write", "(I)I"⟩, prog_1_method_36_code, 3, (some Jvm.ClassFile.FieldType.int), 11, 1, 5, 94),
  (⟨"EchoVale", "putName", "(J)V"⟩, prog_1_method_56_code, 5, none, 11, 1, 5, 98),
  (⟨"EchoVale", "put", "(I)V"⟩, prog_1_method_55_code, 2, none, 11, 1, 5, 102),
  (⟨"EchoVale", "putNumber", "(I)V"⟩, prog_1_method_57_code, 2, none, 11, 1, 5, 106),
  (⟨"EchoVale", "byteAt", "(I)I"⟩, prog_1_method_37_code, 2, (some Jvm.ClassFile.FieldType.int), 11, 1, 5, 110),
  (⟨"EchoVale", "sentence", "()I"⟩, prog_1_method_38_code, 2, (some Jvm.ClassFile.FieldType.int), 11, 0, 5, 114),
  (⟨"EchoVale$SentenceText", "readText", "(LEchoVale$Valley;)Z"⟩, prog_9_method_2_code, 2, (some Jvm.ClassFile.FieldType.boolean), 7, 1, 5, 118),
  (⟨"EchoVale$SentenceText", "readCondition", "(LEchoVale$Valley;I)Z"⟩, prog_9_method_3_code, 4, (some Jvm.ClassFile.FieldType.boolean), 7, 2, 5, 124),
  (⟨"EchoVale$SentenceText", "readJoined", "(LEchoVale$Valley;I)Z"⟩, prog_9_method_4_code, 4, (some Jvm.ClassFile.FieldType.boolean), 7, 2, 5, 128),
  (⟨"EchoVale$SentenceText", "readOne", "(LEchoVale$Valley;I)Z"⟩, prog_9_method_5_code, 3, (some Jvm.ClassFile.FieldType.boolean), 7, 2, 5, 132),
  (⟨"EchoVale$Reader", "isWord", "(I)Z"⟩, prog_7_method_15_code, 2, (some Jvm.ClassFile.FieldType.boolean), 5, 1, 5, 140),
  (⟨"EchoVale$Sentence", "add", "(III)V"⟩, prog_8_method_4_code, 4, none, 6, 3, 5, 144),
  (⟨"EchoVale$SentenceText", "readPlain", "(LEchoVale$Valley;)Z"⟩, prog_9_method_6_code, 4, (some Jvm.ClassFile.FieldType.boolean), 7, 1, 5, 148),
  (⟨"EchoVale$Sentence", "copyFrom", "(LEchoVale$Sentence;)V"⟩, prog_8_method_3_code, 2, none, 6, 1, 5, 154),
  (⟨"EchoVale", "said", "(I)I"⟩, prog_1_method_39_code, 4, (some Jvm.ClassFile.FieldType.int), 11, 1, 5, 159),
  (⟨"EchoVale$Sentence", "holds", "(LEchoVale$Course;I)Z"⟩, prog_8_method_5_code, 6, (some Jvm.ClassFile.FieldType.boolean), 6, 2, 5, 163),
  (⟨"EchoVale$Sentence", "isSo", "(LEchoVale$Course;II)Z"⟩, prog_8_method_6_code, 6, (some Jvm.ClassFile.FieldType.boolean), 6, 3, 5, 167),
  (⟨"EchoVale$Sentence", "compares", "(III)Z"⟩, prog_8_method_7_code, 3, (some Jvm.ClassFile.FieldType.boolean), 6, 3, 5, 174)]
def zM4 : List (MethodName × ByteArray × Nat × Option FieldType × Nat × Nat × Nat × Nat) := [(⟨"EchoVale", "image", "(I)Z"⟩, prog_1_method_40_code, 2, (some Jvm.ClassFile.FieldType.boolean), 11, 1, 5, 178),
  (⟨"EchoVale", "restore", "(I)Z"⟩, prog_1_method_41_code, 2, (some Jvm.ClassFile.FieldType.boolean), 11, 1, 5, 182),
  (⟨"EchoVale", "count", "(I)I"⟩, prog_1_method_42_code, 2, (some Jvm.ClassFile.FieldType.int), 11, 1, 5, 186),
  (⟨"EchoVale", "cliff", "(II)I"⟩, prog_1_method_6_code, 3, (some Jvm.ClassFile.FieldType.int), 11, 2, 5, 195),
  (⟨"EchoVale", "person", "(II)I"⟩, prog_1_method_7_code, 3, (some Jvm.ClassFile.FieldType.int), 11, 2, 6, 28),
  (⟨"EchoVale$Course", "countWith", "(II)I"⟩, prog_3_method_21_code, 5, (some Jvm.ClassFile.FieldType.int), 1, 2, 6, 33),
  (⟨"EchoVale$Course", "countBy", "(I)I"⟩, prog_3_method_22_code, 4, (some Jvm.ClassFile.FieldType.int), 1, 1, 6, 37),
  (⟨"EchoVale", "saying", "(II)I"⟩, prog_1_method_8_code, 3, (some Jvm.ClassFile.FieldType.int), 11, 2, 6, 44),
  (⟨"EchoValeModel", "<init>", "()V"⟩, prog_14_method_1_code, 1, none, 12, 0, 6, 50),
  (⟨"EchoValeModel", "thrown", "()I"⟩, prog_14_method_2_code, 1, (some Jvm.ClassFile.FieldType.int), 12, 0, 6, 206),
  (⟨"EchoValeModel", "feed", "(IIIII)I"⟩, prog_14_method_5_code, 6, (some Jvm.ClassFile.FieldType.int), 12, 5, 6, 210),
  (⟨"EchoValeModel", "come", "(I)V"⟩, prog_14_method_4_code, 3, none, 12, 1, 6, 214),
  (⟨"EchoValeModel", "end", "(I)Z"⟩, prog_14_method_6_code, 2, (some Jvm.ClassFile.FieldType.boolean), 12, 1, 6, 218),
  (⟨"EchoValeModel", "valley", "()I"⟩, prog_14_method_41_code, 3, (some Jvm.ClassFile.FieldType.int), 12, 0, 6, 222),
  (⟨"EchoValeModel", "begin", "(I)V"⟩, prog_14_method_27_code, 2, none, 12, 1, 6, 226),
  (⟨"EchoValeModel", "take", "()I"⟩, prog_14_method_7_code, 2, (some Jvm.ClassFile.FieldType.int), 12, 0, 6, 230),
  (⟨"EchoValeModel", "go", "()V"⟩, prog_14_method_17_code, 5, none, 12, 0, 6, 234),
  (⟨"EchoValeModel", "isLetter", "(I)Z"⟩, prog_14_method_16_code, 1, (some Jvm.ClassFile.FieldType.boolean), 12, 1, 6, 237),
  (⟨"EchoValeModel", "isDigit", "(I)Z"⟩, prog_14_method_15_code, 1, (some Jvm.ClassFile.FieldType.boolean), 12, 1, 7, 0),
  (⟨"EchoValeModel", "tapeAt", "(I)I"⟩, prog_14_method_14_code, 2, (some Jvm.ClassFile.FieldType.int), 12, 1, 7, 4),
  (⟨"EchoValeModel", "readLine", "()Z"⟩, prog_14_method_40_code, 2, (some Jvm.ClassFile.FieldType.boolean), 12, 0, 7, 10),
  (⟨"EchoValeModel", "isWord", "(I)Z"⟩, prog_14_method_20_code, 2, (some Jvm.ClassFile.FieldType.boolean), 12, 1, 7, 14),
  (⟨"EchoValeModel", "wordOf", "(I)J"⟩, prog_14_method_19_code, 1, (some Jvm.ClassFile.FieldType.long), 12, 1, 7, 17),
  (⟨"EchoValeModel", "spelt", "(IIIIII)J"⟩, prog_14_method_18_code, 8, (some Jvm.ClassFile.FieldType.long), 12, 6, 7, 20),
  (⟨"EchoValeModel", "readLand", "()Z"⟩, prog_14_method_32_code, 1, (some Jvm.ClassFile.FieldType.boolean), 12, 0, 7, 24),
  (⟨"EchoValeModel", "bad", "(I)Z"⟩, prog_14_method_23_code, 2, (some Jvm.ClassFile.FieldType.boolean), 12, 1, 7, 28),
  (⟨"EchoValeModel", "readNumber", "(II)Z"⟩, prog_14_method_25_code, 3, (some Jvm.ClassFile.FieldType.boolean), 12, 2, 7, 32),
  (⟨"EchoValeModel", "isNumber", "(II)Z"⟩, prog_14_method_24_code, 3, (some Jvm.ClassFile.FieldType.boolean), 12, 2, 7, 36),
  (⟨"EchoValeModel", "isIn", "(III)Z"⟩, prog_14_method_8_code, 3, (some Jvm.ClassFile.FieldType.boolean), 12, 3, 7, 39),
  (⟨"EchoValeModel", "readCliff", "()Z"⟩, prog_14_method_33_code, 3, (some Jvm.ClassFile.FieldType.boolean), 12, 0, 7, 43),
  (⟨"EchoValeModel", "readNew", "(I)Z"⟩, prog_14_method_29_code, 2, (some Jvm.ClassFile.FieldType.boolean), 12, 1, 7, 47),
  (⟨"EchoValeModel", "isName", "()Z"⟩, prog_14_method_22_code, 2, (some Jvm.ClassFile.FieldType.boolean), 12, 0, 7, 51),
  (⟨"EchoValeModel", "findIn", "([JIIJ)I"⟩, prog_14_method_28_code, 6, (some Jvm.ClassFile.FieldType.int), 12, 4, 7, 54),
  (⟨"EchoValeModel", "holdCell", "()Z"⟩, prog_14_method_30_code, 2, (some Jvm.ClassFile.FieldType.boolean), 12, 0, 7, 58),
  (⟨"EchoValeModel", "readPerson", "()Z"⟩, prog_14_method_34_code, 2, (some Jvm.ClassFile.FieldType.boolean), 12, 0, 7, 62),
  (⟨"EchoValeModel", "readCell", "()Z"⟩, prog_14_method_31_code, 1, (some Jvm.ClassFile.FieldType.boolean), 12, 0, 7, 66),
  (⟨"EchoValeModel", "readMove", "()Z"⟩, prog_14_method_36_code, 3, (some Jvm.ClassFile.FieldType.boolean), 12, 0, 7, 70),
  (⟨"EchoValeModel", "isOne", "()Z"⟩, prog_14_method_35_code, 1, (some Jvm.ClassFile.FieldType.boolean), 12, 0, 7, 74),
  (⟨"EchoValeModel", "readCamp", "()Z"⟩, prog_14_method_37_code, 2, (some Jvm.ClassFile.FieldType.boolean), 12, 0, 7, 78),
  (⟨"EchoValeModel", "readFelt", "()Z"⟩, prog_14_method_38_code, 1, (some Jvm.ClassFile.FieldType.boolean), 12, 0, 7, 82)]
def zM5 : List (MethodName × ByteArray × Nat × Option FieldType × Nat × Nat × Nat × Nat) := [(⟨"EchoValeModel", "readSnow", "()Z"⟩, prog_14_method_39_code, 3, (some Jvm.ClassFile.FieldType.boolean), 12, 0, 7, 86),
  (⟨"EchoValeModel", "readEnd", "()Z"⟩, prog_14_method_26_code, 1, (some Jvm.ClassFile.FieldType.boolean), 12, 0, 7, 90),
  (⟨"EchoValeModel", "isSign", "(I)Z"⟩, prog_14_method_21_code, 2, (some Jvm.ClassFile.FieldType.boolean), 12, 1, 7, 94),
  (⟨"EchoValeModel", "fault", "()I"⟩, prog_14_method_42_code, 1, (some Jvm.ClassFile.FieldType.int), 12, 0, 7, 98),
  (⟨"EchoValeModel", "cliff", "(II)I"⟩, prog_14_method_52_code, 4, (some Jvm.ClassFile.FieldType.int), 12, 2, 7, 102),
  (⟨"EchoValeModel", "isCliff", "(I)Z"⟩, prog_14_method_43_code, 2, (some Jvm.ClassFile.FieldType.boolean), 12, 1, 7, 106),
  (⟨"EchoValeModel", "refuse", "()I"⟩, prog_14_method_3_code, 1, (some Jvm.ClassFile.FieldType.int), 12, 0, 7, 110),
  (⟨"EchoValeModel", "strength", "(I)I"⟩, prog_14_method_49_code, 2, (some Jvm.ClassFile.FieldType.int), 12, 1, 7, 114),
  (⟨"EchoValeModel", "snowAt", "(I)I"⟩, prog_14_method_51_code, 6, (some Jvm.ClassFile.FieldType.int), 12, 1, 7, 118),
  (⟨"EchoValeModel", "person", "(II)I"⟩, prog_14_method_55_code, 5, (some Jvm.ClassFile.FieldType.int), 12, 2, 7, 122),
  (⟨"EchoValeModel", "isPerson", "(I)Z"⟩, prog_14_method_44_code, 2, (some Jvm.ClassFile.FieldType.boolean), 12, 1, 7, 126),
  (⟨"EchoValeModel", "hasAll", "(I)I"⟩, prog_14_method_54_code, 4, (some Jvm.ClassFile.FieldType.int), 12, 1, 7, 130),
  (⟨"EchoValeModel", "shareOf", "(II)I"⟩, prog_14_method_53_code, 6, (some Jvm.ClassFile.FieldType.int), 12, 2, 7, 134),
  (⟨"EchoValeModel", "of", "(II)I"⟩, prog_14_method_50_code, 3, (some Jvm.ClassFile.FieldType.int), 12, 2, 7, 138),
  (⟨"EchoValeModel", "has", "(II)Z"⟩, prog_14_method_9_code, 2, (some Jvm.ClassFile.FieldType.boolean), 12, 2, 7, 141),
  (⟨"EchoValeModel", "bits", "(I)I"⟩, prog_14_method_10_code, 3, (some Jvm.ClassFile.FieldType.int), 12, 1, 7, 144),
  (⟨"EchoValeModel", "saying", "(II)I"⟩, prog_14_method_56_code, 3, (some Jvm.ClassFile.FieldType.int), 12, 2, 7, 148),
  (⟨"EchoValeModel", "isSaying", "(I)Z"⟩, prog_14_method_45_code, 2, (some Jvm.ClassFile.FieldType.boolean), 12, 1, 7, 152),
  (⟨"EchoValeModel", "comes", "(III)I"⟩, prog_14_method_57_code, 4, (some Jvm.ClassFile.FieldType.int), 12, 3, 7, 156),
  (⟨"EchoValeModel", "comesAt", "(III)I"⟩, prog_14_method_58_code, 4, (some Jvm.ClassFile.FieldType.int), 12, 3, 7, 160),
  (⟨"EchoValeModel", "share", "(II)I"⟩, prog_14_method_59_code, 3, (some Jvm.ClassFile.FieldType.int), 12, 2, 7, 164),
  (⟨"EchoValeModel", "sounded", "(II)I"⟩, prog_14_method_60_code, 3, (some Jvm.ClassFile.FieldType.int), 12, 2, 7, 168),
  (⟨"EchoValeModel", "undo", "()I"⟩, prog_14_method_70_code, 2, (some Jvm.ClassFile.FieldType.int), 12, 0, 7, 172),
  (⟨"EchoValeModel", "goes", "(II)Z"⟩, prog_14_method_73_code, 3, (some Jvm.ClassFile.FieldType.boolean), 12, 2, 7, 176),
  (⟨"EchoValeModel", "isAt", "(I)Z"⟩, prog_14_method_46_code, 2, (some Jvm.ClassFile.FieldType.boolean), 12, 1, 7, 180),
  (⟨"EchoValeModel", "snap", "()V"⟩, prog_14_method_69_code, 2, none, 12, 0, 7, 184),
  (⟨"EchoValeModel", "says", "(III)I"⟩, prog_14_method_74_code, 4, (some Jvm.ClassFile.FieldType.int), 12, 3, 7, 188),
  (⟨"EchoValeModel", "sayIt", "(III)I"⟩, prog_14_method_63_code, 9, (some Jvm.ClassFile.FieldType.int), 12, 3, 7, 192),
  (⟨"EchoValeModel", "loudAt", "(II)I"⟩, prog_14_method_62_code, 4, (some Jvm.ClassFile.FieldType.int), 12, 2, 7, 196),
  (⟨"EchoValeModel", "cliffAt", "(I)I"⟩, prog_14_method_47_code, 2, (some Jvm.ClassFile.FieldType.int), 12, 1, 7, 200),
  (⟨"EchoValeModel", "apart", "(II)I"⟩, prog_14_method_13_code, 2, (some Jvm.ClassFile.FieldType.int), 12, 2, 7, 203),
  (⟨"EchoValeModel", "size", "(I)I"⟩, prog_14_method_12_code, 1, (some Jvm.ClassFile.FieldType.int), 12, 1, 7, 206),
  (⟨"EchoValeModel", "delay", "(I)I"⟩, prog_14_method_48_code, 2, (some Jvm.ClassFile.FieldType.int), 12, 1, 7, 210),
  (⟨"EchoValeModel", "comeTo", "(IIII)V"⟩, prog_14_method_61_code, 7, none, 12, 4, 7, 214),
  (⟨"EchoValeModel", "on", "(I)I"⟩, prog_14_method_75_code, 2, (some Jvm.ClassFile.FieldType.int), 12, 1, 7, 218),
  (⟨"EchoValeModel", "passHours", "(I)I"⟩, prog_14_method_68_code, 3, (some Jvm.ClassFile.FieldType.int), 12, 1, 7, 222),
  (⟨"EchoValeModel", "pass", "(I)V"⟩, prog_14_method_67_code, 7, none, 12, 1, 7, 226),
  (⟨"EchoValeModel", "moveAll", "(I)V"⟩, prog_14_method_66_code, 3, none, 12, 1, 7, 230),
  (⟨"EchoValeModel", "least", "(II)I"⟩, prog_14_method_11_code, 2, (some Jvm.ClassFile.FieldType.int), 12, 2, 7, 233),
  (⟨"EchoValeModel", "sound", "(III)V"⟩, prog_14_method_65_code, 10, none, 12, 3, 7, 237)]
def zM6 : List (MethodName × ByteArray × Nat × Option FieldType × Nat × Nat × Nat × Nat) := [(⟨"EchoValeModel", "hearersOf", "(II)I"⟩, prog_14_method_64_code, 5, (some Jvm.ClassFile.FieldType.int), 12, 2, 8, 1),
  (⟨"EchoValeModel", "camp", "(II)I"⟩, prog_14_method_78_code, 7, (some Jvm.ClassFile.FieldType.int), 12, 2, 8, 5),
  (⟨"EchoValeModel", "isTime", "(I)Z"⟩, prog_14_method_76_code, 1, (some Jvm.ClassFile.FieldType.boolean), 12, 1, 8, 8),
  (⟨"EchoValeModel", "campingBy", "(III)I"⟩, prog_14_method_77_code, 5, (some Jvm.ClassFile.FieldType.int), 12, 3, 8, 12),
  (⟨"EchoValeModel", "layAside", "()V"⟩, prog_14_method_71_code, 2, none, 12, 0, 8, 16),
  (⟨"EchoValeModel", "layBack", "()V"⟩, prog_14_method_72_code, 2, none, 12, 0, 8, 20),
  (⟨"EchoValeModel", "camping", "(III)I"⟩, prog_14_method_79_code, 4, (some Jvm.ClassFile.FieldType.int), 12, 3, 8, 24),
  (⟨"EchoValeModel", "has", "(III)I"⟩, prog_14_method_82_code, 4, (some Jvm.ClassFile.FieldType.int), 12, 3, 8, 28),
  (⟨"EchoValeModel", "campers", "()I"⟩, prog_14_method_80_code, 3, (some Jvm.ClassFile.FieldType.int), 12, 0, 8, 32),
  (⟨"EchoValeModel", "layHas", "(II)V"⟩, prog_14_method_81_code, 4, none, 12, 2, 8, 36),
  (⟨"EchoValeModel", "rests", "(II)I"⟩, prog_14_method_84_code, 6, (some Jvm.ClassFile.FieldType.int), 12, 2, 8, 40),
  (⟨"EchoValeModel", "isRest", "(II)Z"⟩, prog_14_method_83_code, 4, (some Jvm.ClassFile.FieldType.boolean), 12, 2, 8, 44),
  (⟨"EchoValeModel", "tells", "(IIIII)I"⟩, prog_14_method_85_code, 10, (some Jvm.ClassFile.FieldType.int), 12, 5, 8, 48),
  (⟨"EchoValeModel", "secret", "(II)I"⟩, prog_14_method_86_code, 6, (some Jvm.ClassFile.FieldType.int), 12, 2, 8, 52),
  (⟨"EchoValeModel", "next", "(I)I"⟩, prog_14_method_87_code, 4, (some Jvm.ClassFile.FieldType.int), 12, 1, 8, 56),
  (⟨"EchoValeModel", "heirs", "(II)I"⟩, prog_14_method_88_code, 4, (some Jvm.ClassFile.FieldType.int), 12, 2, 8, 60),
  (⟨"EchoValeModel", "when", "(III)I"⟩, prog_14_method_89_code, 7, (some Jvm.ClassFile.FieldType.int), 12, 3, 8, 64),
  (⟨"EchoValeModel", "meets", "(III)I"⟩, prog_14_method_90_code, 6, (some Jvm.ClassFile.FieldType.int), 12, 3, 8, 68),
  (⟨"EchoValeModel", "nearest", "(II)I"⟩, prog_14_method_92_code, 7, (some Jvm.ClassFile.FieldType.int), 12, 2, 8, 72),
  (⟨"EchoValeModel", "wouldCome", "(III)I"⟩, prog_14_method_91_code, 4, (some Jvm.ClassFile.FieldType.int), 12, 3, 8, 76),
  (⟨"EchoValeModel", "reach", "(II)I"⟩, prog_14_method_93_code, 5, (some Jvm.ClassFile.FieldType.int), 12, 2, 8, 80),
  (⟨"EchoValeModel", "hears", "(II)I"⟩, prog_14_method_94_code, 3, (some Jvm.ClassFile.FieldType.int), 12, 2, 8, 84),
  (⟨"EchoValeModel", "pieces", "()I"⟩, prog_14_method_99_code, 5, (some Jvm.ClassFile.FieldType.int), 12, 0, 8, 88),
  (⟨"EchoValeModel", "takePieces", "()Z"⟩, prog_14_method_98_code, 3, (some Jvm.ClassFile.FieldType.boolean), 12, 0, 8, 92),
  (⟨"EchoValeModel", "soundAll", "(III)V"⟩, prog_14_method_96_code, 10, none, 12, 3, 8, 96),
  (⟨"EchoValeModel", "cometh", "(III)V"⟩, prog_14_method_95_code, 4, none, 12, 3, 8, 100),
  (⟨"EchoValeModel", "allSound", "()Z"⟩, prog_14_method_97_code, 2, (some Jvm.ClassFile.FieldType.boolean), 12, 0, 8, 104),
  (⟨"EchoValeModel", "piece", "(I)I"⟩, prog_14_method_100_code, 2, (some Jvm.ClassFile.FieldType.int), 12, 1, 8, 108),
  (⟨"EchoValeModel", "claims", "()I"⟩, prog_14_method_102_code, 1, (some Jvm.ClassFile.FieldType.int), 12, 0, 8, 112),
  (⟨"EchoValeModel", "readClaim", "()Z"⟩, prog_14_method_101_code, 5, (some Jvm.ClassFile.FieldType.boolean), 12, 0, 8, 116),
  (⟨"EchoValeModel", "drawn", "(II)I"⟩, prog_14_method_105_code, 4, (some Jvm.ClassFile.FieldType.int), 12, 2, 8, 120),
  (⟨"EchoValeModel", "drawnBy", "(II)I"⟩, prog_14_method_104_code, 8, (some Jvm.ClassFile.FieldType.int), 12, 2, 8, 124),
  (⟨"EchoValeModel", "draw", "(I)I"⟩, prog_14_method_103_code, 2, (some Jvm.ClassFile.FieldType.int), 12, 1, 8, 128),
  (⟨"EchoValeModel", "storms", "(I)I"⟩, prog_14_method_106_code, 2, (some Jvm.ClassFile.FieldType.int), 12, 1, 8, 133),
  (⟨"EchoValeModel", "odds", "(III)I"⟩, prog_14_method_107_code, 7, (some Jvm.ClassFile.FieldType.int), 12, 3, 8, 137),
  (⟨"EchoValeModel", "poorest", "(I)I"⟩, prog_14_method_108_code, 4, (some Jvm.ClassFile.FieldType.int), 12, 1, 8, 141),
  (⟨"EchoValeModel", "write", "(I)I"⟩, prog_14_method_111_code, 7, (some Jvm.ClassFile.FieldType.int), 12, 1, 8, 145),
  (⟨"EchoValeModel", "put", "(I)V"⟩, prog_14_method_109_code, 2, none, 12, 1, 8, 149),
  (⟨"EchoValeModel", "putNumber", "(I)V"⟩, prog_14_method_110_code, 2, none, 12, 1, 8, 153),
  (⟨"EchoValeModel", "byteAt", "(I)I"⟩, prog_14_method_112_code, 2, (some Jvm.ClassFile.FieldType.int), 12, 1, 8, 157)]
def zM7 : List (MethodName × ByteArray × Nat × Option FieldType × Nat × Nat × Nat × Nat) := [(⟨"EchoValeModel", "sentence", "()I"⟩, prog_14_method_121_code, 2, (some Jvm.ClassFile.FieldType.int), 12, 0, 8, 161),
  (⟨"EchoValeModel", "readOr", "()Z"⟩, prog_14_method_114_code, 2, (some Jvm.ClassFile.FieldType.boolean), 12, 0, 8, 165),
  (⟨"EchoValeModel", "readAnd", "()Z"⟩, prog_14_method_115_code, 2, (some Jvm.ClassFile.FieldType.boolean), 12, 0, 8, 169),
  (⟨"EchoValeModel", "readOne", "()Z"⟩, prog_14_method_116_code, 4, (some Jvm.ClassFile.FieldType.boolean), 12, 0, 8, 173),
  (⟨"EchoValeModel", "readBracket", "()Z"⟩, prog_14_method_118_code, 1, (some Jvm.ClassFile.FieldType.boolean), 12, 0, 8, 177),
  (⟨"EchoValeModel", "readNot", "()Z"⟩, prog_14_method_117_code, 1, (some Jvm.ClassFile.FieldType.boolean), 12, 0, 8, 181),
  (⟨"EchoValeModel", "saysOne", "(IIII)I"⟩, prog_14_method_113_code, 6, (some Jvm.ClassFile.FieldType.int), 12, 4, 8, 185),
  (⟨"EchoValeModel", "readOf", "(I)Z"⟩, prog_14_method_119_code, 3, (some Jvm.ClassFile.FieldType.boolean), 12, 1, 8, 189),
  (⟨"EchoValeModel", "readCompare", "(I)Z"⟩, prog_14_method_120_code, 3, (some Jvm.ClassFile.FieldType.boolean), 12, 1, 8, 193),
  (⟨"EchoValeModel", "said", "(I)I"⟩, prog_14_method_124_code, 4, (some Jvm.ClassFile.FieldType.int), 12, 1, 8, 197),
  (⟨"EchoValeModel", "holds", "(II)Z"⟩, prog_14_method_123_code, 8, (some Jvm.ClassFile.FieldType.boolean), 12, 2, 8, 201),
  (⟨"EchoValeModel", "isLost", "(I)Z"⟩, prog_14_method_122_code, 3, (some Jvm.ClassFile.FieldType.boolean), 12, 1, 8, 205),
  (⟨"EchoValeModel", "image", "(I)Z"⟩, prog_14_method_125_code, 3, (some Jvm.ClassFile.FieldType.boolean), 12, 1, 8, 209),
  (⟨"EchoValeModel", "restore", "(I)Z"⟩, prog_14_method_126_code, 3, (some Jvm.ClassFile.FieldType.boolean), 12, 1, 8, 213),
  (⟨"EchoValeModel", "count", "(I)I"⟩, prog_14_method_127_code, 2, (some Jvm.ClassFile.FieldType.int), 12, 1, 8, 217)]
def zMs : List (MethodName × ByteArray × Nat × Option FieldType × Nat × Nat × Nat × Nat) := zM0 ++ (zM1 ++ (zM2 ++ (zM3 ++ (zM4 ++ (zM5 ++ (zM6 ++ (zM7)))))))
end
section
/-! An abstract machine with whole numbers for values. Tags: 0 int, 1 long, 2 and on references. -/
def zTy : Nat → Nat → FieldType := fun ci => match ci with
  | 0 => tyX0 | 1 => tyX1 | 2 => tyX2 | 3 => tyX3 | 4 => tyX4 | 5 => tyX5 | 6 => tyX6 | 7 => tyX7 | 8 => tyX8 | 9 => tyX9 | 10 => tyX10 | 11 => tyX11 | _ => tyX12
def zTg (ty : FieldType) : Nat := match ty with
  | .int => 0
  | .boolean => 0
  | .long => 1
  | _ => 2
abbrev zAv : Type := Nat × Int
abbrev zLo : Type := List (Option zAv)
abbrev zAx : Type := Nat × Nat × Int
abbrev zCf (σ : Type) : Type := Nat × zLo × List zAv × σ
def zR32 (x : Int) : Prop := -2147483648 ≤ x ∧ x < 2147483648
def zR64 (x : Int) : Prop := -9223372036854775808 ≤ x ∧ x < 9223372036854775808
def wadd (x y : Int) : Int := (Int32.ofInt x + Int32.ofInt y).toInt
def wsub (x y : Int) : Int := (Int32.ofInt x - Int32.ofInt y).toInt
def wmul (x y : Int) : Int := (Int32.ofInt x * Int32.ofInt y).toInt
def wdiv (x y : Int) : Int := (Int32.ofInt x / Int32.ofInt y).toInt
def wrem (x y : Int) : Int := (Int32.ofInt x - Int32.ofInt x / Int32.ofInt y * Int32.ofInt y).toInt
def wneg (x : Int) : Int := (-Int32.ofInt x).toInt
def wand (x y : Int) : Int := (Int32.ofInt x &&& Int32.ofInt y).toInt
def wor (x y : Int) : Int := (Int32.ofInt x ||| Int32.ofInt y).toInt
def wxor (x y : Int) : Int := (Int32.ofInt x ^^^ Int32.ofInt y).toInt
def wshl (x y : Int) : Int := (Int32.ofInt x <<< (Int32.ofInt y &&& 31)).toInt
def wshr (x y : Int) : Int := (Int32.ofInt x >>> (Int32.ofInt y &&& 31)).toInt
def wushr (x y : Int) : Int := (((Int32.ofInt x).toUInt32 >>> ((Int32.ofInt y).toUInt32 &&& Int32.toUInt32 31)).toInt32).toInt
def qadd (x y : Int) : Int := (Int64.ofInt x + Int64.ofInt y).toInt
def qsub (x y : Int) : Int := (Int64.ofInt x - Int64.ofInt y).toInt
def qmul (x y : Int) : Int := (Int64.ofInt x * Int64.ofInt y).toInt
def qdiv (x y : Int) : Int := (Int64.ofInt x / Int64.ofInt y).toInt
def qrem (x y : Int) : Int := (Int64.ofInt x - Int64.ofInt x / Int64.ofInt y * Int64.ofInt y).toInt
def qor (x y : Int) : Int := (Int64.ofInt x ||| Int64.ofInt y).toInt
def qshl (x y : Int) : Int := (Int64.ofInt x <<< ((Int32.ofInt y).toInt64 &&& 63)).toInt
def qshr (x y : Int) : Int := (Int64.ofInt x >>> ((Int32.ofInt y).toInt64 &&& 63)).toInt
def wl2i (x : Int) : Int := ((Int64.ofInt x).toInt32).toInt
def qcmp (x y : Int) : Int := if y < x then 1 else if x = y then 0 else -1
/-- all of a list of conditions -/
def zAll : List Prop → Prop
  | [] => True
  | p :: r => p ∧ zAll r
theorem zAll_app {a b : List Prop} : zAll (a ++ b) ↔ zAll a ∧ zAll b := by
  induction a with
  | nil => simp [zAll]
  | cons p r ih => simp [zAll, ih, and_assoc]
/-- locals -/
def zGl (L : zLo) (i : Nat) : Option zAv := match L[i]? with
  | some (some a) => some a
  | _ => none
def zKl (L : zLo) : Nat → zLo
  | 0 => L
  | j + 1 => match zGl L j with
    | some (1, _) => L.set j none
    | _ => L
def zSt (L : zLo) (i : Nat) (a : zAv) : zLo := ((zKl L i).set i (some a))
def zStL (L : zLo) (i : Nat) (a : zAv) : zLo := (((zKl L i).set i (some a)).set (i + 1) none)
section ZX
variable {σ : Type}
abbrev zRs (σ : Type) : Type := Option (List Prop × zCf σ)
def zPu (v : zAv) (len : Nat) (c : zCf σ) : zRs σ := some ([], c.1 + len, c.2.1, v :: c.2.2.1, c.2.2.2)
def zLd (ok : Nat → Bool) (n len : Nat) (c : zCf σ) : zRs σ := match zGl c.2.1 n with
  | some (t, x) => match ok t with
    | true => some ([], c.1 + len, c.2.1, (t, x) :: c.2.2.1, c.2.2.2)
    | false => none
  | none => none
def zSto (ok : Nat → Bool) (n len : Nat) (c : zCf σ) : zRs σ := match c.2.2.1 with
  | (t, x) :: r => match ok t && Nat.blt n c.2.1.length with
    | true => some ([], c.1 + len, zSt c.2.1 n (t, x), r, c.2.2.2)
    | false => none
  | [] => none
def zStoL (n len : Nat) (c : zCf σ) : zRs σ := match c.2.2.1 with
  | (1, x) :: r => match Nat.blt (n + 1) c.2.1.length with
    | true => some ([], c.1 + len, zStL c.2.1 n (1, x), r, c.2.2.2)
    | false => none
  | _ => none
def zB0 (f : Int → Int → Int) (c : zCf σ) : zRs σ := match c.2.2.1 with
  | (0, y) :: (0, x) :: r => some ([], c.1 + 1, c.2.1, (0, f x y) :: r, c.2.2.2)
  | _ => none
def zB0d (f : Int → Int → Int) (c : zCf σ) : zRs σ := match c.2.2.1 with
  | (0, y) :: (0, x) :: r => some ([¬ y = 0], c.1 + 1, c.2.1, (0, f x y) :: r, c.2.2.2)
  | _ => none
def zB1 (f : Int → Int → Int) (c : zCf σ) : zRs σ := match c.2.2.1 with
  | (1, y) :: (1, x) :: r => some ([], c.1 + 1, c.2.1, (1, f x y) :: r, c.2.2.2)
  | _ => none
def zB1d (f : Int → Int → Int) (c : zCf σ) : zRs σ := match c.2.2.1 with
  | (1, y) :: (1, x) :: r => some ([¬ y = 0], c.1 + 1, c.2.1, (1, f x y) :: r, c.2.2.2)
  | _ => none
def zB10 (f : Int → Int → Int) (c : zCf σ) : zRs σ := match c.2.2.1 with
  | (0, y) :: (1, x) :: r => some ([], c.1 + 1, c.2.1, (1, f x y) :: r, c.2.2.2)
  | _ => none
def zCp (c : zCf σ) : zRs σ := match c.2.2.1 with
  | (1, y) :: (1, x) :: r => some ([], c.1 + 1, c.2.1, (0, qcmp x y) :: r, c.2.2.2)
  | _ => none
def zU (s t : Nat) (f : Int → Int) (c : zCf σ) : zRs σ := match c.2.2.1 with
  | (u, x) :: r => match Nat.beq u s with
    | true => some ([], c.1 + 1, c.2.1, (t, f x) :: r, c.2.2.2)
    | false => none
  | _ => none
def zDup (c : zCf σ) : zRs σ := match c.2.2.1 with
  | (t, x) :: r => match Nat.beq t 1 with
    | true => none
    | false => some ([], c.1 + 1, c.2.1, (t, x) :: (t, x) :: r, c.2.2.2)
  | _ => none
def zPop (c : zCf σ) : zRs σ := match c.2.2.1 with
  | (t, _) :: r => match Nat.beq t 1 with
    | true => none
    | false => some ([], c.1 + 1, c.2.1, r, c.2.2.2)
  | _ => none
def zDup2 (c : zCf σ) : zRs σ := match c.2.2.1 with
  | (t, x) :: (u, y) :: r => match Nat.beq t 1 || Nat.beq u 1 with
    | true => none
    | false => some ([], c.1 + 1, c.2.1, (t, x) :: (u, y) :: (t, x) :: (u, y) :: r, c.2.2.2)
  | _ => none
def zCo (k : ClassFile.Cond) (x y : Int) : Prop := match k with
  | .eq => x = y
  | .ne => ¬ x = y
  | .lt => x < y
  | .ge => y ≤ x
  | .gt => y < x
  | .le => x ≤ y
def zJ (off : Int) (pc : Nat) : Option Nat := match decide (0 ≤ (pc : Int) + off) with
  | true => some ((pc : Int) + off).toNat
  | false => none
def zBr (g : Prop) (off d : Int) (r : List zAv) (c : zCf σ) : zRs σ := match zJ off c.1 with
  | some t => match decide (d = 1) with
    | true => some ([g], t, c.2.1, r, c.2.2.2)
    | false => some ([¬ g], c.1 + 3, c.2.1, r, c.2.2.2)
  | none => none
def zIf (k : ClassFile.Cond) (off d : Int) (c : zCf σ) : zRs σ := match c.2.2.1 with
  | (0, x) :: r => zBr (zCo k x 0) off d r c
  | _ => none
def zIc (k : ClassFile.Cond) (off d : Int) (c : zCf σ) : zRs σ := match c.2.2.1 with
  | (0, y) :: (0, x) :: r => zBr (zCo k x y) off d r c
  | _ => none
def zGo (off : Int) (c : zCf σ) : zRs σ := match zJ off c.1 with
  | some t => some ([], t, c.2.1, c.2.2.1, c.2.2.2)
  | none => none
def zTs (dflt lo hi : Int) (offs : Array Int) (d : Int) (c : zCf σ) : zRs σ := match c.2.2.1 with
  | (0, x) :: r => match decide (lo ≤ d) && decide (d ≤ hi) with
    | true => match offs.toList[(d - lo).toNat]? with
      | some off => match zJ off c.1 with
        | some t => some ([x = d], t, c.2.1, r, c.2.2.2)
        | none => none
      | none => none
    | false => match zJ dflt c.1 with
      | some t => some ([x < lo ∨ hi < x], t, c.2.1, r, c.2.2.2)
      | none => none
  | _ => none
def zLk (ps : List (Int × Int)) (d : Int) : Option Int := match ps with
  | [] => none
  | (k, o) :: r => match decide (k = d) with
    | true => some o
    | false => zLk r d
def zLs (dflt : Int) (ps : Array (Int × Int)) (d : Int) (c : zCf σ) : zRs σ := match c.2.2.1 with
  | (0, x) :: r => match (ps.toList.zip (ps.toList.drop 1)).all (fun (a, next) => a.1 < next.1) with
    | true => match zLk ps.toList d with
      | some off => match zJ off c.1 with
        | some t => some ([x = d], t, c.2.1, r, c.2.2.2)
        | none => none
      | none => match zJ dflt c.1 with
        | some t => some (ps.toList.map (fun q => ¬ x = q.1), t, c.2.1, r, c.2.2.2)
        | none => none
    | false => none
  | _ => none
def zIi (n : Nat) (k : Int) (c : zCf σ) : zRs σ := match zGl c.2.1 n with
  | some (0, x) => some ([], c.1 + 3, zSt c.2.1 n (0, wadd x k), c.2.2.1, c.2.2.2)
  | _ => none
def zCk (b : Bool) (r : zRs σ) : zRs σ := match b with
  | true => r
  | false => none
abbrev zHop (σ : Type) : Type := Instr → zAx → List zAv → σ → Option (List Prop × List zAv × σ)
def zHp (hop : zHop σ) (i : Instr) (len : Nat) (ax : zAx) (c : zCf σ) : zRs σ := match hop i ax c.2.2.1 c.2.2.2 with
  | some (gs, st, h) => some (gs, c.1 + len, c.2.1, st, h)
  | none => none
def zEq0 (t : Nat) : Bool := Nat.beq t 0
def zEq1 (t : Nat) : Bool := Nat.beq t 1
def zGe2 (t : Nat) : Bool := Nat.ble 2 t
/-- one instruction; d: the way taken at a branch -/
def zX (hop : zHop σ) (i : Instr) (len : Nat) (ax : zAx) (d : Int) (c : zCf σ) : zRs σ := match i with
  | .aload n => zLd zGe2 n 2 c
  | .aload_n n => zLd zGe2 n 1 c
  | .iload n => zLd zEq0 n 2 c
  | .iload_n n => zLd zEq0 n 1 c
  | .lload n => zLd zEq1 n 2 c
  | .lload_n n => zLd zEq1 n 1 c
  | .astore n => zSto zGe2 n 2 c
  | .astore_n n => zSto zGe2 n 1 c
  | .istore n => zSto zEq0 n 2 c
  | .istore_n n => zSto zEq0 n 1 c
  | .lstore n => zStoL n 2 c
  | .lstore_n n => zStoL n 1 c
  | .iconst n => zCk (decide (-1 ≤ n) && decide (n ≤ 5)) (zPu (0, n) 1 c)
  | .lconst n => zPu (1, ((n : Nat) : Int)) 1 c
  | .bipush n => zCk (decide (-128 ≤ n) && decide (n < 128)) (zPu (0, n) 2 c)
  | .sipush n => zCk (decide (-32768 ≤ n) && decide (n < 32768)) (zPu (0, n) 3 c)
  | .ldc _ => zPu (0, ax.2.2) 2 c
  | .ldc_w _ => zPu (0, ax.2.2) 3 c
  | .ldc2_w _ => zPu (1, ax.2.2) 3 c
  | .iadd => zB0 wadd c
  | .isub => zB0 wsub c
  | .imul => zB0 wmul c
  | .idiv => zB0d wdiv c
  | .irem => zB0d wrem c
  | .iand => zB0 wand c
  | .ior => zB0 wor c
  | .ixor => zB0 wxor c
  | .ishl => zB0 wshl c
  | .ishr => zB0 wshr c
  | .iushr => zB0 wushr c
  | .ineg => zU 0 0 wneg c
  | .ladd => zB1 qadd c
  | .lsub => zB1 qsub c
  | .lmul => zB1 qmul c
  | .ldiv => zB1d qdiv c
  | .lrem => zB1d qrem c
  | .lor => zB1 qor c
  | .lshl => zB10 qshl c
  | .lshr => zB10 qshr c
  | .lcmp => zCp c
  | .i2l => zU 0 1 (fun x => x) c
  | .l2i => zU 1 0 wl2i c
  | .dup => zDup c
  | .pop => zPop c
  | .dup2 => zDup2 c
  | .iinc n k => zIi n k c
  | .ifCond k off => zIf k off d c
  | .if_icmp k off => zIc k off d c
  | .goto off => zGo off c
  | .tableswitch dflt lo hi offs => zTs dflt lo hi offs d c
  | .lookupswitch dflt ps => zLs dflt ps d c
  | .getfield _ => zHp hop i 3 ax c
  | .putfield _ => zHp hop i 3 ax c
  | .iaload => zHp hop i 1 ax c
  | .iastore => zHp hop i 1 ax c
  | .laload => zHp hop i 1 ax c
  | .lastore => zHp hop i 1 ax c
  | .baload => zHp hop i 1 ax c
  | .bastore => zHp hop i 1 ax c
  | .aaload => zHp hop i 1 ax c
  | .aastore => zHp hop i 1 ax c
  | .arraylength => zHp hop i 1 ax c
  | .new _ => zHp hop i 3 ax c
  | .newarray _ => zHp hop i 2 ax c
  | .anewarray _ => zHp hop i 3 ax c
  | .invokestatic _ => zHp hop i 3 ax c
  | .invokespecial _ => zHp hop i 3 ax c
  | _ => none
end ZX
end
section
/-! links of the pools: class, index, what, places of the words (chunk, index) -/
def zT (k : Nat) : List Cond := match k with
  | 0 => k2_sels lw_privs
  | 1 => tables_1_1
  | 2 => tables_1_2
  | 3 => tables_1_3
  | 4 => tables_1_4
  | 5 => tables_1_5
  | 6 => tables_1_6
  | 7 => tables_1_7
  | 8 => tables_1_8
  | _ => []
def zLF : List (Nat × Nat × Nat × Nat × Nat × Nat) := [(5, 9, 5, 0, 1, 95), (4, 30, 5, 0, 1, 96), (4, 24, 5, 1, 1, 97), (11, 105, 5, 1, 1, 98), (5, 39, 5, 1, 1, 99), (11, 136, 5, 2, 1, 100), (5, 48, 5, 2, 1, 101), (11, 116, 5, 3, 1, 102), (5, 51, 5, 3, 1, 103), (10, 46, 5, 4, 1, 104), (0, 33, 5, 4, 1, 105), (7, 62, 5, 4, 1, 106), (5, 70, 5, 4, 1, 107), (5, 67, 5, 5, 1, 108), (0, 36, 5, 6, 1, 109), (10, 52, 5, 6, 1, 110), (7, 66, 5, 6, 1, 111), (5, 82, 5, 6, 1, 112), (10, 95, 5, 7, 1, 113), (5, 88, 5, 7, 1, 114), (5, 45, 5, 8, 1, 115), (5, 42, 5, 9, 1, 116), (5, 19, 5, 10, 1, 117), (9, 52, 9, 0, 1, 150), (10, 76, 9, 0, 1, 151), (11, 365, 9, 0, 1, 152), (9, 56, 9, 1, 1, 153), (10, 86, 9, 1, 1, 154), (11, 368, 9, 1, 1, 155), (9, 59, 9, 2, 1, 156), (4, 33, 9, 2, 1, 157), (10, 89, 9, 2, 1, 158), (1, 69, 9, 2, 1, 159), (11, 282, 9, 2, 1, 160), (9, 62, 9, 3, 1, 161), (2, 39, 9, 3, 1, 162), (10, 120, 9, 3, 1, 163), (11, 311, 9, 3, 1, 164), (9, 65, 9, 4, 1, 165), (10, 132, 9, 4, 1, 166), (1, 92, 9, 4, 1, 167), (9, 68, 9, 5, 1, 168), (10, 151, 9, 5, 1, 169), (9, 71, 9, 6, 1, 170), (10, 160, 9, 6, 1, 171), (9, 9, 9, 7, 1, 172), (10, 106, 9, 7, 1, 173), (11, 330, 9, 7, 1, 174), (9, 15, 9, 8, 1, 175), (10, 110, 9, 8, 1, 176), (11, 150, 9, 8, 1, 177), (9, 19, 9, 9, 1, 178), (10, 114, 9, 9, 1, 179), (4, 71, 9, 9, 1, 180), (11, 153, 9, 9, 1, 181), (1, 84, 9, 9, 1, 182), (9, 22, 9, 10, 1, 183), (10, 117, 9, 10, 1, 184), (11, 156, 9, 10, 1, 185), (1, 116, 9, 10, 1, 186), (9, 25, 9, 11, 1, 187), (10, 123, 9, 11, 1, 188), (9, 28, 9, 12, 1, 189), (1, 40, 9, 12, 1, 190), (10, 126, 9, 12, 1, 191), (9, 31, 9, 13, 1, 192), (10, 129, 9, 13, 1, 193), (11, 188, 9, 13, 1, 194), (9, 34, 9, 14, 1, 195), (10, 145, 9, 14, 1, 196), (1, 95, 9, 14, 1, 197), (9, 37, 9, 15, 1, 198), (10, 142, 9, 15, 1, 199), (1, 98, 9, 15, 1, 200), (9, 40, 9, 16, 1, 201), (10, 148, 9, 16, 1, 202), (1, 101, 9, 16, 1, 203), (9, 43, 9, 17, 1, 204), (10, 157, 9, 17, 1, 205), (9, 46, 9, 18, 1, 206), (10, 166, 9, 18, 1, 207), (9, 49, 9, 19, 1, 208), (10, 169, 9, 19, 1, 209), (10, 12, 10, 0, 2, 19), (11, 119, 10, 0, 2, 20), (10, 25, 10, 1, 2, 21), (11, 133, 10, 1, 2, 22), (10, 18, 10, 2, 2, 23), (0, 15, 0, 0, 2, 37), (11, 308, 0, 0, 2, 38), (0, 9, 0, 1, 2, 39), (6, 19, 6, 0, 2, 51), (7, 69, 6, 0, 2, 52), (11, 351, 6, 0, 2, 53), (6, 23, 6, 1, 2, 54), (6, 9, 6, 2, 2, 55), (6, 15, 6, 3, 2, 56), (7, 12, 7, 0, 2, 75), (11, 347, 7, 0, 2, 76), (7, 18, 7, 1, 2, 77), (1, 30, 1, 0, 2, 89), (2, 22, 1, 0, 2, 90), (11, 159, 1, 0, 2, 91), (4, 74, 1, 0, 2, 92), (1, 34, 1, 1, 2, 93), (0, 61, 1, 1, 2, 94), (4, 78, 1, 1, 2, 95), (11, 354, 1, 1, 2, 96), (1, 37, 1, 2, 2, 97), (4, 81, 1, 2, 2, 98), (11, 208, 1, 2, 2, 99), (1, 9, 1, 3, 2, 100), (11, 177, 1, 3, 2, 101), (1, 15, 1, 4, 2, 102), (11, 199, 1, 4, 2, 103), (1, 18, 1, 5, 2, 104), (11, 202, 1, 5, 2, 105), (1, 21, 1, 6, 2, 106), (1, 24, 1, 7, 2, 107), (1, 27, 1, 8, 2, 108), (8, 18, 8, 0, 2, 137), (11, 239, 8, 0, 2, 138), (8, 22, 8, 1, 2, 139), (8, 11, 8, 2, 2, 140), (11, 362, 3, 0, 2, 161), (3, 10, 3, 1, 2, 162), (11, 359, 3, 1, 2, 163), (3, 19, 3, 2, 2, 164), (11, 360, 3, 2, 2, 165), (3, 26, 3, 3, 2, 166), (11, 361, 3, 3, 2, 167), (4, 45, 4, 0, 2, 183), (11, 299, 4, 0, 2, 184), (4, 9, 4, 1, 2, 185), (11, 302, 4, 1, 2, 186), (4, 42, 4, 2, 2, 187), (4, 15, 4, 3, 2, 188), (4, 18, 4, 4, 2, 189), (4, 21, 4, 5, 2, 190), (2, 16, 2, 0, 2, 210), (11, 317, 2, 0, 2, 211), (2, 19, 2, 1, 2, 212), (11, 320, 2, 1, 2, 213), (2, 9, 2, 2, 2, 214), (11, 12, 11, 0, 2, 222), (11, 19, 11, 1, 2, 223), (11, 28, 11, 2, 2, 224), (11, 35, 11, 3, 2, 225), (11, 42, 11, 4, 2, 226), (11, 49, 11, 5, 2, 227), (11, 56, 11, 6, 2, 228), (11, 60, 11, 7, 2, 229), (11, 66, 11, 8, 2, 230), (11, 72, 11, 9, 2, 231), (11, 80, 11, 10, 2, 232), (11, 87, 11, 11, 2, 233), (11, 91, 11, 12, 2, 234), (11, 95, 11, 13, 2, 235), (11, 327, 11, 14, 2, 236), (11, 98, 11, 15, 2, 237), (11, 102, 11, 16, 2, 238), (12, 81, 12, 0, 6, 52), (12, 7, 12, 1, 6, 53), (12, 85, 12, 2, 6, 54), (12, 96, 12, 3, 6, 55), (12, 104, 12, 4, 6, 56), (12, 98, 12, 5, 6, 57), (12, 101, 12, 6, 6, 58), (12, 107, 12, 7, 6, 59), (12, 124, 12, 8, 6, 60), (12, 117, 12, 9, 6, 61), (12, 142, 12, 10, 6, 62), (12, 145, 12, 11, 6, 63), (12, 120, 12, 12, 6, 64), (12, 155, 12, 13, 6, 65), (12, 13, 12, 14, 6, 66), (12, 16, 12, 15, 6, 67), (12, 19, 12, 16, 6, 68), (12, 22, 12, 17, 6, 69), (12, 25, 12, 18, 6, 70), (12, 28, 12, 19, 6, 71), (12, 32, 12, 20, 6, 72), (12, 35, 12, 21, 6, 73), (12, 38, 12, 22, 6, 74), (12, 232, 12, 23, 6, 75), (12, 186, 12, 24, 6, 76), (12, 42, 12, 25, 6, 77), (12, 45, 12, 26, 6, 78), (12, 48, 12, 27, 6, 79), (12, 51, 12, 28, 6, 80), (12, 54, 12, 29, 6, 81), (12, 57, 12, 30, 6, 82), (12, 60, 12, 31, 6, 83), (12, 63, 12, 32, 6, 84), (12, 66, 12, 33, 6, 85), (12, 345, 12, 34, 6, 86), (12, 351, 12, 35, 6, 87), (12, 360, 12, 36, 6, 88), (12, 363, 12, 37, 6, 89), (12, 369, 12, 38, 6, 90), (12, 373, 12, 39, 6, 91), (12, 376, 12, 40, 6, 92), (12, 69, 12, 41, 6, 93), (12, 72, 12, 42, 6, 94), (12, 75, 12, 43, 6, 95), (12, 385, 12, 44, 6, 96), (12, 78, 12, 45, 6, 97), (12, 394, 12, 46, 6, 98), (12, 410, 12, 47, 6, 99), (12, 413, 12, 48, 6, 100), (12, 400, 12, 49, 6, 101)]
def zLV : List (Nat × Nat × Nat × Nat × Nat × Nat × Nat × Nat × Nat) := [(16, 25, 14, 3, 34, 3, 35, 3, 36), (11, 108, 15, 3, 38, 3, 39, 3, 40), (16, 30, 16, 3, 42, 3, 43, 3, 44), (16, 35, 17, 3, 46, 3, 47, 3, 48), (11, 112, 18, 3, 50, 3, 51, 3, 52), (10, 22, 19, 3, 54, 3, 55, 3, 56), (10, 29, 20, 3, 58, 3, 59, 3, 60), (5, 54, 21, 3, 62, 3, 63, 3, 64), (5, 79, 26, 3, 78, 3, 80, 0, 0), (5, 92, 27, 3, 82, 3, 84, 0, 1), (10, 35, 29, 3, 89, 3, 90, 3, 91), (10, 39, 30, 3, 93, 3, 95, 0, 2), (10, 49, 31, 3, 97, 3, 98, 3, 99), (10, 55, 32, 3, 101, 3, 103, 0, 3), (10, 79, 21, 3, 105, 3, 63, 3, 64), (10, 82, 33, 3, 106, 3, 107, 3, 108), (5, 96, 31, 3, 110, 3, 98, 3, 99), (10, 58, 34, 3, 111, 3, 113, 0, 4), (10, 92, 35, 3, 115, 3, 117, 0, 5), (10, 172, 36, 3, 119, 3, 120, 3, 121), (9, 86, 37, 3, 123, 3, 124, 3, 125), (9, 90, 38, 3, 127, 3, 128, 3, 129), (10, 99, 39, 3, 131, 3, 133, 0, 6), (10, 103, 40, 3, 135, 3, 136, 3, 137), (10, 61, 41, 3, 139, 3, 141, 0, 7), (10, 64, 42, 3, 143, 3, 145, 0, 8), (10, 135, 43, 3, 147, 3, 148, 3, 149), (5, 102, 38, 3, 151, 3, 128, 3, 129), (10, 139, 44, 3, 152, 3, 153, 3, 154), (10, 67, 45, 3, 156, 3, 158, 0, 9), (10, 70, 46, 3, 160, 3, 162, 0, 10), (10, 154, 47, 3, 164, 3, 165, 3, 166), (10, 73, 48, 3, 168, 3, 170, 0, 11), (10, 163, 49, 3, 172, 3, 173, 3, 174), (10, 42, 50, 3, 176, 3, 177, 3, 178), (5, 99, 51, 3, 180, 3, 181, 3, 182), (11, 120, 52, 3, 184, 3, 185, 3, 186), (11, 124, 53, 3, 191, 3, 192, 3, 193), (11, 127, 54, 3, 196, 3, 197, 3, 198), (11, 130, 55, 3, 200, 3, 201, 3, 202), (16, 40, 56, 3, 204, 3, 205, 3, 206), (16, 59, 57, 3, 208, 3, 209, 3, 210), (11, 191, 58, 3, 212, 3, 214, 0, 12), (11, 139, 59, 3, 216, 3, 218, 0, 13), (16, 64, 60, 3, 220, 3, 221, 3, 222), (11, 172, 61, 3, 224, 3, 226, 0, 14), (11, 205, 62, 3, 228, 3, 229, 3, 230), (1, 138, 63, 3, 232, 3, 233, 3, 234), (16, 68, 66, 4, 5, 4, 6, 4, 7), (11, 211, 67, 4, 9, 4, 10, 4, 11), (16, 72, 68, 4, 13, 4, 14, 4, 15), (11, 214, 69, 4, 17, 4, 18, 4, 19), (11, 217, 70, 4, 21, 4, 22, 4, 23), (8, 25, 71, 4, 25, 4, 26, 4, 27), (1, 51, 72, 4, 29, 4, 30, 4, 31), (16, 77, 73, 4, 33, 4, 34, 4, 35), (11, 224, 75, 4, 40, 4, 41, 4, 42), (11, 227, 76, 4, 44, 4, 45, 4, 46), (1, 55, 77, 4, 48, 4, 49, 4, 50), (9, 93, 47, 4, 52, 3, 165, 3, 166), (1, 59, 79, 4, 56, 4, 57, 4, 58), (1, 72, 82, 4, 66, 4, 67, 4, 68), (1, 76, 85, 4, 76, 4, 78, 0, 15), (1, 80, 86, 4, 80, 4, 82, 0, 16), (16, 81, 87, 4, 85, 4, 86, 4, 87), (11, 231, 88, 4, 89, 4, 90, 4, 91), (1, 88, 89, 4, 93, 4, 94, 4, 95), (1, 104, 90, 4, 97, 4, 99, 0, 17), (1, 112, 91, 4, 101, 4, 102, 4, 103), (1, 124, 92, 4, 106, 4, 108, 0, 18), (1, 127, 93, 4, 110, 4, 111, 4, 112), (1, 131, 94, 4, 114, 4, 116, 0, 19), (1, 135, 95, 4, 118, 4, 119, 4, 120), (16, 86, 96, 4, 122, 4, 123, 4, 124), (11, 235, 97, 4, 126, 4, 127, 4, 128), (16, 90, 98, 4, 130, 4, 131, 4, 132), (11, 245, 100, 4, 137, 4, 139, 0, 20), (11, 266, 71, 4, 141, 4, 26, 4, 27), (11, 179, 101, 4, 142, 4, 143, 4, 144), (1, 150, 62, 4, 146, 3, 229, 3, 230), (16, 94, 102, 4, 147, 4, 148, 4, 149), (16, 98, 103, 4, 151, 4, 152, 4, 153), (11, 249, 104, 4, 155, 4, 157, 0, 21), (11, 371, 105, 4, 159, 4, 160, 4, 161), (11, 252, 106, 4, 163, 4, 165, 0, 22), (16, 102, 107, 4, 168, 4, 169, 4, 170), (11, 256, 108, 4, 172, 4, 174, 0, 23), (11, 259, 109, 4, 176, 4, 178, 0, 24), (16, 106, 110, 4, 180, 4, 181, 4, 182), (11, 262, 111, 4, 184, 4, 186, 0, 25), (11, 276, 72, 4, 188, 4, 30, 4, 31), (11, 196, 63, 4, 189, 3, 233, 3, 234), (16, 110, 112, 4, 190, 4, 191, 4, 192), (16, 114, 113, 4, 194, 4, 195, 4, 196), (11, 268, 89, 4, 198, 4, 94, 4, 95), (16, 118, 114, 4, 199, 4, 200, 4, 201), (16, 122, 115, 4, 203, 4, 204, 4, 205), (16, 126, 116, 4, 207, 4, 208, 4, 209), (16, 130, 117, 4, 211, 4, 212, 4, 213), (11, 279, 77, 4, 215, 4, 49, 4, 50), (11, 285, 82, 4, 216, 4, 67, 4, 68), (16, 134, 118, 4, 218, 4, 219, 4, 220), (11, 291, 119, 4, 222, 4, 223, 4, 224), (11, 295, 120, 4, 227, 4, 228, 4, 229), (4, 48, 121, 4, 231, 4, 233, 0, 26), (4, 52, 69, 4, 239, 4, 18, 4, 19), (4, 55, 123, 5, 0, 5, 2, 0, 27), (4, 84, 79, 5, 4, 4, 57, 4, 58), (4, 88, 124, 5, 5, 5, 6, 5, 7), (1, 108, 125, 5, 9, 5, 10, 5, 11), (4, 91, 126, 5, 13, 5, 15, 0, 28), (4, 95, 67, 5, 17, 4, 10, 4, 11), (4, 59, 127, 5, 18, 5, 20, 0, 29), (16, 138, 128, 5, 22, 5, 23, 5, 24), (16, 142, 129, 5, 26, 5, 27, 5, 28), (11, 305, 130, 5, 30, 5, 31, 5, 32), (0, 19, 20, 5, 34, 3, 59, 3, 60), (0, 25, 29, 5, 35, 3, 90, 3, 91), (0, 29, 131, 5, 36, 5, 38, 0, 30), (0, 39, 31, 5, 40, 3, 98, 3, 99), (0, 43, 21, 5, 41, 3, 63, 3, 64), (0, 46, 43, 5, 42, 3, 148, 3, 149), (0, 50, 33, 5, 43, 3, 107, 3, 108), (0, 66, 63, 5, 47, 3, 233, 3, 234), (0, 58, 50, 5, 49, 3, 177, 3, 178), (16, 146, 133, 5, 50, 5, 51, 5, 52), (11, 314, 134, 5, 54, 5, 55, 5, 56), (2, 27, 135, 5, 58, 5, 60, 0, 31), (2, 31, 89, 5, 63, 4, 94, 4, 95), (2, 35, 136, 5, 64, 5, 66, 0, 32), (2, 44, 75, 5, 68, 4, 41, 4, 42), (2, 48, 76, 5, 69, 4, 45, 4, 46), (16, 150, 137, 5, 70, 5, 71, 5, 72), (16, 154, 138, 5, 74, 5, 75, 5, 76), (16, 158, 139, 5, 78, 5, 79, 5, 80), (16, 162, 140, 5, 82, 5, 83, 5, 84), (16, 166, 141, 5, 86, 5, 87, 5, 88), (11, 323, 93, 5, 90, 4, 111, 4, 112), (16, 170, 142, 5, 91, 5, 92, 5, 93), (11, 334, 143, 5, 95, 5, 97, 0, 33), (11, 338, 144, 5, 99, 5, 101, 0, 34), (11, 341, 145, 5, 103, 5, 105, 0, 35), (16, 174, 146, 5, 107, 5, 108, 5, 109), (16, 178, 147, 5, 111, 5, 112, 5, 113), (11, 344, 148, 5, 115, 5, 116, 5, 117), (7, 22, 54, 5, 119, 3, 197, 3, 198), (7, 25, 20, 5, 120, 3, 59, 3, 60), (7, 31, 149, 5, 121, 5, 123, 0, 36), (7, 43, 150, 5, 125, 5, 127, 0, 37), (7, 56, 151, 5, 129, 5, 131, 0, 38), (7, 59, 51, 5, 133, 3, 181, 3, 182), (7, 39, 31, 5, 134, 3, 98, 3, 99), (7, 49, 21, 5, 135, 3, 63, 3, 64), (7, 72, 50, 5, 136, 3, 177, 3, 178), (7, 46, 152, 5, 137, 5, 138, 5, 139), (7, 52, 153, 5, 141, 5, 142, 5, 143), (7, 75, 154, 5, 145, 5, 147, 0, 39), (7, 79, 43, 5, 149, 3, 148, 3, 149), (7, 35, 29, 5, 150, 3, 90, 3, 91), (11, 348, 155, 5, 151, 5, 152, 5, 153), (16, 182, 156, 5, 156, 5, 157, 5, 158), (11, 355, 157, 5, 160, 5, 161, 5, 162), (6, 32, 158, 5, 164, 5, 166, 0, 40), (6, 36, 63, 5, 168, 3, 233, 3, 234), (6, 42, 125, 5, 169, 5, 10, 5, 11), (16, 186, 160, 5, 175, 5, 176, 5, 177), (16, 190, 161, 5, 179, 5, 180, 5, 181), (16, 194, 162, 5, 183, 5, 184, 5, 185), (11, 162, 91, 5, 187, 4, 102, 4, 103), (16, 7, 163, 5, 192, 5, 193, 5, 194), (16, 15, 164, 6, 25, 6, 26, 6, 27), (11, 182, 165, 6, 30, 6, 31, 6, 32), (11, 185, 166, 6, 34, 6, 35, 6, 36), (16, 18, 167, 6, 41, 6, 42, 6, 43), (16, 50, 169, 6, 203, 6, 204, 6, 205), (16, 29, 170, 6, 207, 6, 208, 6, 209), (12, 88, 171, 6, 211, 6, 213, 0, 42), (16, 34, 172, 6, 215, 6, 216, 6, 217), (16, 39, 173, 6, 219, 6, 220, 6, 221), (12, 226, 174, 6, 223, 6, 225, 0, 43), (12, 168, 175, 6, 227, 6, 229, 0, 44), (12, 162, 176, 6, 231, 6, 233, 0, 45), (12, 127, 179, 7, 1, 7, 3, 0, 46), (12, 229, 180, 7, 7, 7, 9, 0, 47), (12, 199, 181, 7, 11, 7, 13, 0, 48), (12, 202, 184, 7, 21, 7, 23, 0, 49), (12, 148, 185, 7, 25, 7, 27, 0, 50), (12, 180, 186, 7, 29, 7, 31, 0, 51), (12, 158, 187, 7, 33, 7, 35, 0, 52), (12, 205, 189, 7, 40, 7, 42, 0, 53), (12, 190, 190, 7, 44, 7, 46, 0, 54), (12, 172, 191, 7, 48, 7, 50, 0, 55), (12, 183, 193, 7, 55, 7, 57, 0, 56), (12, 208, 194, 7, 59, 7, 61, 0, 57), (12, 193, 195, 7, 63, 7, 65, 0, 58), (12, 211, 196, 7, 67, 7, 69, 0, 59), (12, 196, 197, 7, 71, 7, 73, 0, 60), (12, 214, 198, 7, 75, 7, 77, 0, 61), (12, 217, 199, 7, 79, 7, 81, 0, 62), (12, 220, 200, 7, 83, 7, 85, 0, 63), (12, 223, 201, 7, 87, 7, 89, 0, 64), (12, 165, 202, 7, 91, 7, 93, 0, 65), (16, 43, 203, 7, 95, 7, 96, 7, 97), (16, 49, 204, 7, 99, 7, 100, 7, 101), (12, 235, 205, 7, 103, 7, 105, 0, 66), (12, 238, 206, 7, 107, 7, 109, 0, 67), (12, 241, 207, 7, 111, 7, 113, 0, 68), (12, 244, 208, 7, 115, 7, 117, 0, 69), (16, 55, 209, 7, 119, 7, 120, 7, 121), (12, 260, 210, 7, 123, 7, 125, 0, 70), (12, 263, 211, 7, 127, 7, 129, 0, 71), (12, 257, 212, 7, 131, 7, 133, 0, 72), (12, 247, 213, 7, 135, 7, 137, 0, 73), (16, 58, 216, 7, 145, 7, 146, 7, 147), (12, 266, 217, 7, 149, 7, 151, 0, 74), (16, 63, 218, 7, 153, 7, 154, 7, 155), (12, 269, 219, 7, 157, 7, 159, 0, 75), (16, 67, 220, 7, 161, 7, 162, 7, 163), (16, 71, 221, 7, 165, 7, 166, 7, 167), (16, 89, 222, 7, 169, 7, 170, 7, 171), (16, 76, 223, 7, 173, 7, 174, 7, 175), (12, 305, 224, 7, 177, 7, 179, 0, 76), (12, 308, 225, 7, 181, 7, 183, 0, 77), (16, 80, 226, 7, 185, 7, 186, 7, 187), (12, 311, 227, 7, 189, 7, 191, 0, 78), (12, 273, 228, 7, 193, 7, 195, 0, 79), (12, 276, 229, 7, 197, 7, 199, 0, 80), (12, 282, 232, 7, 207, 7, 209, 0, 81), (12, 285, 233, 7, 211, 7, 213, 0, 82), (16, 85, 234, 7, 215, 7, 216, 7, 217), (12, 314, 235, 7, 219, 7, 221, 0, 83), (12, 302, 236, 7, 223, 7, 225, 0, 84), (12, 292, 237, 7, 227, 7, 229, 0, 85), (12, 298, 239, 7, 234, 7, 236, 0, 86), (12, 289, 240, 7, 238, 8, 0, 0, 87), (16, 93, 241, 8, 2, 8, 3, 8, 4), (12, 326, 243, 8, 9, 8, 11, 0, 88), (12, 317, 244, 8, 13, 8, 15, 0, 89), (12, 320, 245, 8, 17, 8, 19, 0, 90), (16, 97, 246, 8, 21, 8, 22, 8, 23), (16, 101, 247, 8, 25, 8, 26, 8, 27), (12, 329, 248, 8, 29, 8, 31, 0, 91), (12, 332, 249, 8, 33, 8, 35, 0, 92), (16, 105, 250, 8, 37, 8, 38, 8, 39), (12, 336, 251, 8, 41, 8, 43, 0, 93), (16, 109, 252, 8, 45, 8, 46, 8, 47), (16, 113, 253, 8, 49, 8, 50, 8, 51), (16, 117, 254, 8, 53, 8, 54, 8, 55), (16, 121, 255, 8, 57, 8, 58, 8, 59), (16, 125, 256, 8, 61, 8, 62, 8, 63), (16, 129, 257, 8, 65, 8, 66, 8, 67), (16, 133, 258, 8, 69, 8, 70, 8, 71), (12, 339, 259, 8, 73, 8, 75, 0, 94), (16, 165, 260, 8, 77, 8, 78, 8, 79), (16, 169, 261, 8, 81, 8, 82, 8, 83), (16, 137, 262, 8, 85, 8, 86, 8, 87), (12, 348, 263, 8, 89, 8, 91, 0, 95), (12, 354, 264, 8, 93, 8, 95, 0, 96), (12, 342, 265, 8, 97, 8, 99, 0, 97), (12, 357, 266, 8, 101, 8, 103, 0, 98), (16, 141, 267, 8, 105, 8, 106, 8, 107), (16, 145, 268, 8, 109, 8, 110, 8, 111), (12, 366, 269, 8, 113, 8, 115, 0, 99), (16, 149, 270, 8, 117, 8, 118, 8, 119), (12, 382, 271, 8, 121, 8, 123, 0, 100), (12, 379, 272, 8, 125, 8, 127, 0, 101), (16, 153, 273, 8, 130, 8, 131, 8, 132), (16, 157, 274, 8, 134, 8, 135, 8, 136), (16, 161, 275, 8, 138, 8, 139, 8, 140), (16, 173, 276, 8, 142, 8, 143, 8, 144), (12, 388, 277, 8, 146, 8, 148, 0, 102), (12, 391, 278, 8, 150, 8, 152, 0, 103), (16, 177, 279, 8, 154, 8, 155, 8, 156), (16, 181, 280, 8, 158, 8, 159, 8, 160), (12, 428, 281, 8, 162, 8, 164, 0, 104), (12, 397, 282, 8, 166, 8, 168, 0, 105), (12, 407, 283, 8, 170, 8, 172, 0, 106), (12, 416, 284, 8, 174, 8, 176, 0, 107), (12, 419, 285, 8, 178, 8, 180, 0, 108), (12, 403, 286, 8, 182, 8, 184, 0, 109), (12, 422, 287, 8, 186, 8, 188, 0, 110), (12, 425, 288, 8, 190, 8, 192, 0, 111), (16, 185, 289, 8, 194, 8, 195, 8, 196), (12, 431, 290, 8, 198, 8, 200, 0, 112), (12, 434, 291, 8, 202, 8, 204, 0, 113), (16, 189, 292, 8, 206, 8, 207, 8, 208), (16, 193, 293, 8, 210, 8, 211, 8, 212), (16, 197, 294, 8, 214, 8, 215, 8, 216)]
def zLS : List (Nat × Nat × Nat × Nat × Nat × Nat × Nat) := [(5, 15, 2, 1, 40, 1, 41), (5, 35, 3, 1, 92, 1, 93), (5, 63, 23, 3, 69, 3, 70), (5, 73, 24, 3, 72, 3, 73), (5, 76, 25, 3, 75, 3, 76), (5, 85, 28, 3, 86, 3, 87), (1, 141, 64, 3, 236, 3, 237), (11, 221, 74, 4, 37, 4, 38), (1, 63, 80, 4, 60, 4, 61), (15, 13, 81, 4, 63, 4, 64), (9, 101, 83, 4, 70, 4, 71), (11, 242, 99, 4, 134, 4, 135), (11, 272, 65, 4, 167, 4, 3), (4, 63, 122, 4, 235, 4, 236), (0, 54, 132, 5, 44, 5, 45), (6, 46, 64, 5, 170, 3, 237), (6, 56, 159, 5, 172, 5, 173), (12, 110, 177, 6, 235, 6, 236), (12, 114, 178, 6, 238, 6, 239), (12, 138, 182, 7, 15, 7, 16), (12, 134, 183, 7, 18, 7, 19), (12, 151, 188, 7, 37, 7, 38), (12, 176, 192, 7, 52, 7, 53), (12, 251, 214, 7, 139, 7, 140), (12, 254, 215, 7, 142, 7, 143), (12, 279, 230, 7, 201, 7, 202), (12, 92, 231, 7, 204, 7, 205), (12, 295, 238, 7, 231, 7, 232), (12, 323, 242, 8, 6, 8, 7)]
def zLSN : List (Nat × Nat × Nat × Nat × Nat × Nat × Nat) := [(1, 146, 65, 4, 2, 4, 3), (4, 38, 74, 4, 226, 4, 38), (4, 67, 65, 4, 238, 4, 3), (0, 70, 65, 5, 48, 4, 3), (6, 52, 65, 5, 171, 4, 3)]
def zLP : List (Nat × Nat × Nat × Nat × Nat × Nat × Nat) := [(16, 21, 0, 1, 28, 1, 29), (11, 25, 5, 2, 13, 2, 14), (11, 34, 6, 2, 33, 2, 34), (11, 48, 8, 2, 69, 2, 70), (11, 65, 10, 2, 130, 2, 131), (16, 24, 168, 6, 48, 6, 49)]
def zLPN : List (Nat × Nat × Nat × Nat × Nat × Nat × Nat) := [(11, 11, 1, 1, 36, 1, 37), (11, 18, 4, 1, 146, 1, 147), (10, 11, 4, 2, 18, 1, 147), (11, 41, 7, 2, 47, 2, 48), (7, 11, 7, 2, 74, 2, 48), (11, 55, 9, 2, 85, 2, 86), (8, 17, 9, 2, 136, 2, 86), (11, 76, 11, 2, 151, 2, 152), (3, 9, 4, 2, 156, 1, 147), (3, 18, 9, 2, 158, 2, 86), (3, 25, 7, 2, 160, 2, 48), (11, 79, 12, 2, 179, 2, 180), (11, 86, 13, 2, 206, 2, 207)]
def zLM : List (Nat × Nat × Nat × Nat × Nat) := [(5, 57, 3, 3, 66), (9, 97, 4, 4, 53), (9, 80, 2, 4, 73), (1, 119, 3, 4, 105), (11, 288, 3, 4, 217), (11, 166, 4, 6, 21)]
def zLC : List (Nat × Nat × Int × Nat × Nat) := [(13, 265, 1431655765, 3, 239), (13, 266, 858993459, 4, 0), (13, 267, 252645135, 4, 1), (1, 87, 1000000, 4, 84), (2, 15, 1103515245, 5, 62), (12, 372, 1103515245, 8, 129)]
def zLJ : List (Nat × Nat × Int × Nat × Nat) := [(12, 130, 27, 7, 5), (12, 132, 96, 7, 6)]
def zLN : List (Nat × Nat × Nat × Nat × Nat × Nat × Nat × Nat × Nat) := [(16, 8, 11, 1, 26, 1, 27, 1, 1), (11, 9, 5, 1, 34, 1, 35, 1, 2), (11, 16, 9, 1, 144, 1, 145, 1, 7), (11, 23, 10, 2, 11, 2, 12, 1, 8), (10, 9, 9, 2, 17, 1, 145, 1, 7), (11, 32, 0, 2, 31, 2, 32, 1, 9), (11, 39, 6, 2, 45, 2, 46, 1, 10), (11, 46, 7, 2, 67, 2, 68, 1, 11), (7, 9, 6, 2, 73, 2, 46, 1, 10), (11, 53, 1, 2, 83, 2, 84, 1, 12), (11, 63, 8, 2, 128, 2, 129, 1, 13), (8, 9, 1, 2, 134, 2, 84, 1, 12), (11, 70, 3, 2, 148, 2, 150, 1, 14), (3, 7, 9, 2, 155, 1, 145, 1, 7), (3, 16, 1, 2, 157, 2, 84, 1, 12), (3, 23, 6, 2, 159, 2, 46, 1, 10), (11, 77, 4, 2, 177, 2, 178, 1, 15), (11, 84, 2, 2, 204, 2, 205, 1, 16), (16, 22, 12, 6, 46, 6, 47, 1, 17)]
def zLA : List (Nat × Nat × Nat × Nat × Nat) := [(11, 53, 1, 2, 83), (8, 9, 1, 2, 134), (11, 70, 3, 2, 148), (3, 16, 1, 2, 157)]
def zLY : List (Nat × Nat × Nat × Nat) := [(9, 74, 3, 188), (1, 45, 3, 195), (6, 26, 5, 155)]
def zLO : List (Nat × Nat × Nat × Nat) := [(11, 3, 1, 31), (5, 3, 1, 39), (9, 3, 1, 149), (10, 3, 2, 16), (0, 3, 2, 36), (6, 3, 2, 50), (7, 3, 2, 72), (1, 3, 2, 88), (8, 3, 2, 133), (3, 1, 2, 154), (4, 3, 2, 182), (2, 3, 2, 209), (12, 1, 6, 51)]
def zIni : List (Nat × Nat) := [(1, 9), (1, 12), (1, 16), (1, 14), (1, 15), (1, 2), (1, 10), (1, 11), (1, 13), (1, 7), (1, 8), (1, 1), (1, 17), (1, 24), (1, 18), (1, 25), (1, 0)]
def zLay0 : List (Nat × Nat) := [(2, 40), (2, 42)]
def zLay1 : List (Nat × Nat) := [(2, 109), (2, 111), (2, 113), (2, 115), (2, 117), (2, 119), (2, 121), (2, 123), (2, 125)]
def zLay2 : List (Nat × Nat) := [(2, 215), (2, 217), (2, 219)]
def zLay3 : List (Nat × Nat) := [(2, 168), (2, 170), (2, 172), (2, 174)]
def zLay4 : List (Nat × Nat) := [(2, 191), (2, 193), (2, 195), (2, 197), (2, 199), (2, 201)]
def zLay5 : List (Nat × Nat) := [(1, 118), (1, 120), (1, 122), (1, 124), (1, 126), (1, 128), (1, 130), (1, 132), (1, 134), (1, 136), (1, 138)]
def zLay6 : List (Nat × Nat) := [(2, 57), (2, 59), (2, 61), (2, 63)]
def zLay7 : List (Nat × Nat) := [(2, 78), (2, 80)]
def zLay8 : List (Nat × Nat) := [(2, 141), (2, 143), (2, 145)]
def zLay9 : List (Nat × Nat) := [(1, 210), (1, 212), (1, 214), (1, 216), (1, 218), (1, 220), (1, 222), (1, 224), (1, 226), (1, 228), (1, 230), (1, 232), (1, 234), (1, 236), (1, 238), (2, 0), (2, 2), (2, 4), (2, 6), (2, 8)]
def zLay10 : List (Nat × Nat) := [(2, 24), (2, 26), (2, 28)]
def zLay11 : List (Nat × Nat) := [(2, 239), (3, 1), (3, 3), (3, 5), (3, 7), (3, 9), (3, 11), (3, 13), (3, 15), (3, 17), (3, 19), (3, 21), (3, 23), (3, 25), (3, 27), (3, 29), (3, 31)]
def zLay12 : List (Nat × Nat) := [(6, 102), (6, 104), (6, 106), (6, 108), (6, 110), (6, 112), (6, 114), (6, 116), (6, 118), (6, 120), (6, 122), (6, 124), (6, 126), (6, 128), (6, 130), (6, 132), (6, 134), (6, 136), (6, 138), (6, 140), (6, 142), (6, 144), (6, 146), (6, 148), (6, 150), (6, 152), (6, 154), (6, 156), (6, 158), (6, 160), (6, 162), (6, 164), (6, 166), (6, 168), (6, 170), (6, 172), (6, 174), (6, 176), (6, 178), (6, 180), (6, 182), (6, 184), (6, 186), (6, 188), (6, 190), (6, 192), (6, 194), (6, 196), (6, 198), (6, 200)]
theorem zT_mem {k i : Nat} {w : Cond} (h : (zT k)[i]? = some w) : w ∈ lw_tbl := by
  have h1 : w ∈ zT k := List.mem_of_getElem? h
  clear h
  unfold lw_tbl tables_1
  unfold zT at h1
  split at h1 <;> first | exact absurd h1 List.not_mem_nil | (simp only [List.mem_append]; simp only [h1, true_or, or_true])
def zGW : List Cond := lw_tbl.filter goodWord
theorem zGW_in {w : Cond} (h1 : w ∈ lw_tbl) (h2 : goodWord w = true) : w ∈ zGW := List.mem_filter.mpr ⟨h1, h2⟩
theorem zGW_good {ws : List Cond} (h : ∀ w ∈ ws, w ∈ zGW) : GoodIn zGW ws := fun w hw => ⟨h w hw, good_of_word (List.mem_filter.mp (h w hw)).2⟩
theorem zAt {k i : Nat} {w : Cond} (h : (zT k)[i]? = some w) (h2 : goodWord w = true) : w ∈ zGW := zGW_in (zT_mem h) h2
abbrev zMt : Type := MethodName × ByteArray × Nat × Option FieldType × Nat × Nat × Nat × Nat
/-- behind the last one: the law -/
def zm (mi : Nat) : zMt := zMs.getD mi (x, code, 7, ret, 16, 1, 0, 0)
def zmY (mi : Nat) : MethodName := (zm mi).1
def zmCode (mi : Nat) : ByteArray := (zm mi).2.1
def zmMax (mi : Nat) : Nat := (zm mi).2.2.1
def zmRet (mi : Nat) : Option FieldType := (zm mi).2.2.2.1
def zmC (mi : Nat) : Nat := (zm mi).2.2.2.2.1
def zmN (mi : Nat) : Nat := (zm mi).2.2.2.2.2.1
def zOw (k : Nat) : String := zOwn.getD k ""
theorem zMap {α β : Type} {l : List α} {f g : α → β} (h : l.map f = l.map g) : ∀ a ∈ l, f a = g a := List.map_inj_left.mp h
set_option maxRecDepth 100000 in
theorem zM0_at : zM0.map (fun r => (zT r.2.2.2.2.2.2.1)[r.2.2.2.2.2.2.2]?) = zM0.map (fun r => some (Cond.code r.1 r.2.1 r.2.2.1 r.2.2.2.1)) := rfl
set_option maxRecDepth 100000 in
theorem zLF_at : zLF.map (fun r => (zT r.2.2.2.2.1)[r.2.2.2.2.2]?) = zLF.map (fun r => match vwCl[r.2.2.1]? with | some q => some (Cond.fieldLink (zOw r.1) r.2.1 (q.2.1 r.2.2.2.1).1 (q.2.1 r.2.2.2.1).2.1 (q.2.1 r.2.2.2.1).2.2.1) | none => none) := rfl
set_option maxRecDepth 100000 in
theorem zM1_at : zM1.map (fun r => (zT r.2.2.2.2.2.2.1)[r.2.2.2.2.2.2.2]?) = zM1.map (fun r => some (Cond.code r.1 r.2.1 r.2.2.1 r.2.2.2.1)) := rfl
set_option maxRecDepth 100000 in
theorem zM2_at : zM2.map (fun r => (zT r.2.2.2.2.2.2.1)[r.2.2.2.2.2.2.2]?) = zM2.map (fun r => some (Cond.code r.1 r.2.1 r.2.2.1 r.2.2.2.1)) := rfl
set_option maxRecDepth 100000 in
theorem zM3_at : zM3.map (fun r => (zT r.2.2.2.2.2.2.1)[r.2.2.2.2.2.2.2]?) = zM3.map (fun r => some (Cond.code r.1 r.2.1 r.2.2.1 r.2.2.2.1)) := rfl
set_option maxRecDepth 100000 in
theorem zM4_at : zM4.map (fun r => (zT r.2.2.2.2.2.2.1)[r.2.2.2.2.2.2.2]?) = zM4.map (fun r => some (Cond.code r.1 r.2.1 r.2.2.1 r.2.2.2.1)) := rfl
set_option maxRecDepth 100000 in
theorem zM5_at : zM5.map (fun r => (zT r.2.2.2.2.2.2.1)[r.2.2.2.2.2.2.2]?) = zM5.map (fun r => some (Cond.code r.1 r.2.1 r.2.2.1 r.2.2.2.1)) := rfl
set_option maxRecDepth 100000 in
theorem zM6_at : zM6.map (fun r => (zT r.2.2.2.2.2.2.1)[r.2.2.2.2.2.2.2]?) = zM6.map (fun r => some (Cond.code r.1 r.2.1 r.2.2.1 r.2.2.2.1)) := rfl
set_option maxRecDepth 100000 in
theorem zM7_at : zM7.map (fun r => (zT r.2.2.2.2.2.2.1)[r.2.2.2.2.2.2.2]?) = zM7.map (fun r => some (Cond.code r.1 r.2.1 r.2.2.1 r.2.2.2.1)) := rfl
theorem zMs_at : ∀ r ∈ zMs, (zT r.2.2.2.2.2.2.1)[r.2.2.2.2.2.2.2]? = some (Cond.code r.1 r.2.1 r.2.2.1 r.2.2.2.1) := by
  apply zMap
  simp only [zMs, List.map_append, zM0_at, zM1_at, zM2_at, zM3_at, zM4_at, zM5_at, zM6_at, zM7_at]
def zMpar (r : zMt) : Bool := decide ((parseMethodDescriptor r.1.desc).map (fun d => d.parameters.length) = some r.2.2.2.2.2.1) && (Nat.ble r.2.2.1 20 && Nat.blt r.2.2.2.2.1 17)
theorem zM0_par : zM0.all zMpar = true := by decide +kernel
theorem zM1_par : zM1.all zMpar = true := by decide +kernel
theorem zM2_par : zM2.all zMpar = true := by decide +kernel
theorem zM3_par : zM3.all zMpar = true := by decide +kernel
theorem zM4_par : zM4.all zMpar = true := by decide +kernel
theorem zM5_par : zM5.all zMpar = true := by decide +kernel
theorem zM6_par : zM6.all zMpar = true := by decide +kernel
theorem zM7_par : zM7.all zMpar = true := by decide +kernel
theorem zMs_par : zMs.all zMpar = true := by
  simp only [zMs, List.all_append, zM0_par, zM1_par, zM2_par, zM3_par, zM4_par, zM5_par, zM6_par, zM7_par, Bool.and_self]
set_option maxRecDepth 100000 in
theorem zMs_cls : ∀ r ∈ zMs, r.1.cls = zOw r.2.2.2.2.1 := zMap (l := zMs) (f := fun r => r.1.cls) (g := fun r => zOw r.2.2.2.2.1) rfl
theorem zm_in {mi : Nat} (h : mi < zMs.length) : zm mi ∈ zMs := by
  unfold zm
  rw [List.getD_eq_getElem?_getD, List.getElem?_eq_getElem h]
  exact List.getElem_mem h
theorem zMs_len : zMs.length = 295 := by decide +kernel
theorem zOw_plain : (List.range 17).all (fun k => (plainName (zOw k) || Nat.beq k 14) && decide (zOw k ≠ "java/lang/invoke/MethodHandle") && decide (zOw k ≠ "java/lang/invoke/VarHandle")) = true := by decide +kernel
theorem zm_code {mi : Nat} (h : mi < zMs.length) : Cond.code (zmY mi) (zmCode mi) (zmMax mi) (zmRet mi) ∈ zGW := zAt (zMs_at _ (zm_in h)) rfl
theorem zm_par {mi : Nat} (h : mi < zMs.length) : (parseMethodDescriptor (zmY mi).desc).map (fun d => d.parameters.length) = some (zmN mi) ∧ zmMax mi ≤ 20 ∧ zmC mi < 17 := by
  have h1 := List.all_eq_true.mp zMs_par _ (zm_in h)
  simp only [zMpar, Bool.and_eq_true, decide_eq_true_eq] at h1
  exact ⟨h1.1, Nat.le_of_ble_eq_true h1.2.1, Nat.le_of_ble_eq_true h1.2.2⟩
theorem zm_cls {mi : Nat} (h : mi < zMs.length) : (zmY mi).cls = zOw (zmC mi) := zMs_cls _ (zm_in h)
theorem zm_plain {mi : Nat} (h : mi < zMs.length) (h14 : ¬ zmC mi = 14) : plainName (zmY mi).cls = true ∧ (zmY mi).cls ≠ "java/lang/invoke/MethodHandle" ∧ (zmY mi).cls ≠ "java/lang/invoke/VarHandle" := by
  rw [zm_cls h]
  have h1 := List.all_eq_true.mp zOw_plain (zmC mi) (List.mem_range.mpr (zm_par h).2.2)
  simp only [Bool.and_eq_true, Bool.or_eq_true, decide_eq_true_eq] at h1
  exact ⟨h1.1.1.resolve_right (fun e => h14 (Nat.eq_of_beq_eq_true e)), h1.1.2, h1.2⟩
set_option maxRecDepth 100000 in
theorem zIni_at : zIni.map (fun r => (zT r.1)[r.2]?) = (List.range 17).map (fun k => some (Cond.initialized (zOw k))) := rfl
theorem zIni_in {k : Nat} (h : k < 17) : Cond.initialized (zOw k) ∈ zGW := by
  have h0 : some (Cond.initialized (zOw k)) ∈ (List.range 17).map (fun k => some (Cond.initialized (zOw k))) := List.mem_map.mpr ⟨k, List.mem_range.mpr h, rfl⟩
  rw [← zIni_at] at h0
  obtain ⟨r, -, hr⟩ := List.mem_map.mp h0
  exact zAt hr rfl
theorem zm_ini {mi : Nat} (h : mi < zMs.length) : Cond.initialized (zmY mi).cls ∈ zGW := by
  rw [zm_cls h]
  exact zIni_in (zm_par h).2.2
set_option maxRecDepth 100000 in
theorem zLV_at : zLV.map (fun r => ((zT r.2.2.2.1)[r.2.2.2.2.1]?, (zT r.2.2.2.2.2.1)[r.2.2.2.2.2.2.1]?, (zT r.2.2.2.2.2.2.2.1)[r.2.2.2.2.2.2.2.2]?)) = zLV.map (fun r => (some (Cond.methodLink (zOw r.1) r.2.1 (zmY r.2.2.1)), some (Cond.instanceMethod (zmY r.2.2.1)), some (Cond.selects (zmY r.2.2.1).cls (zmY r.2.2.1) (zmY r.2.2.1)))) := rfl
set_option maxRecDepth 100000 in
theorem zLS_at : zLS.map (fun r => ((zT r.2.2.2.1)[r.2.2.2.2.1]?, (zT r.2.2.2.2.2.1)[r.2.2.2.2.2.2]?)) = zLS.map (fun r => (some (Cond.methodLink (zOw r.1) r.2.1 (zmY r.2.2.1)), some (Cond.static (zmY r.2.2.1)))) := rfl
set_option maxRecDepth 100000 in
theorem zLSN_at : zLSN.map (fun r => ((zT r.2.2.2.1)[r.2.2.2.2.1]?, (zT r.2.2.2.2.2.1)[r.2.2.2.2.2.2]?)) = zLSN.map (fun r => (some (Cond.methodLinkNest (zOw r.1) r.2.1 (zmY r.2.2.1) "EchoVale"), some (Cond.static (zmY r.2.2.1)))) := rfl
set_option maxRecDepth 100000 in
theorem zLP_at : zLP.map (fun r => ((zT r.2.2.2.1)[r.2.2.2.2.1]?, (zT r.2.2.2.2.2.1)[r.2.2.2.2.2.2]?, (zmY r.2.2.1).name, zmRet r.2.2.1)) = zLP.map (fun r => (some (Cond.methodLink (zOw r.1) r.2.1 (zmY r.2.2.1)), some (Cond.instanceMethod (zmY r.2.2.1)), "<init>", none)) := rfl
set_option maxRecDepth 100000 in
theorem zLPN_at : zLPN.map (fun r => ((zT r.2.2.2.1)[r.2.2.2.2.1]?, (zT r.2.2.2.2.2.1)[r.2.2.2.2.2.2]?, (zmY r.2.2.1).name, zmRet r.2.2.1)) = zLPN.map (fun r => (some (Cond.methodLinkNest (zOw r.1) r.2.1 (zmY r.2.2.1) "EchoVale"), some (Cond.instanceMethod (zmY r.2.2.1)), "<init>", none)) := rfl
set_option maxRecDepth 100000 in
theorem zLC_at : zLC.map (fun r => (zT r.2.2.2.1)[r.2.2.2.2]?) = zLC.map (fun r => some (Cond.constant (zOw r.1) r.2.1 (Int32.ofInt r.2.2.1))) := rfl
set_option maxRecDepth 100000 in
theorem zLJ_at : zLJ.map (fun r => (zT r.2.2.2.1)[r.2.2.2.2]?) = zLJ.map (fun r => some (Cond.constantLong (zOw r.1) r.2.1 (Int64.ofInt r.2.2.1))) := rfl
theorem zLC_r : zLC.all (fun r => decide (-2147483648 ≤ r.2.2.1) && decide (r.2.2.1 < 2147483648)) = true := by decide +kernel
theorem zLJ_r : zLJ.all (fun r => decide (-9223372036854775808 ≤ r.2.2.1) && decide (r.2.2.1 < 9223372036854775808)) = true := by decide +kernel
def zNf (ci : Nat) : Nat := match vwCl[ci]? with
  | some q => q.2.2
  | none => 0
def zTX (ci : Nat) : u_T := match vwCl[ci]? with
  | some q => q.2.1
  | none => fun _ => ("", "", "", false)
set_option maxRecDepth 100000 in
theorem zLN_at : zLN.map (fun r => ((zT r.2.2.2.1)[r.2.2.2.2.1]?, (zT r.2.2.2.2.2.1)[r.2.2.2.2.2.2.1]?, (zT r.2.2.2.2.2.2.2.1)[r.2.2.2.2.2.2.2.2]?)) = zLN.map (fun r => (some (Cond.classLink (zOw r.1) r.2.1 (zOw r.2.2.1)), some (Cond.instantiable (zOw r.2.2.1) (zNf r.2.2.1)), some (Cond.initialized (zOw r.2.2.1)))) := rfl
set_option maxRecDepth 100000 in
theorem zLA_at : zLA.map (fun r => (zT r.2.2.2.1)[r.2.2.2.2]?) = zLA.map (fun r => some (Cond.classLink (zOw r.1) r.2.1 (zOw r.2.2.1))) := rfl
set_option maxRecDepth 100000 in
theorem zLY_at : zLY.map (fun r => (zT r.2.2.1)[r.2.2.2]?) = zLY.map (fun r => some (Cond.methodLink (zOw r.1) r.2.1 arraycopyName)) := rfl
set_option maxRecDepth 100000 in
theorem zLO_at : zLO.map (fun r => (zT r.2.2.1)[r.2.2.2]?) = zLO.map (fun r => some (Cond.methodLink (zOw r.1) r.2.1 Lib.objectInit)) := rfl
theorem zL_lt : (zLF.all (fun r => Nat.blt r.2.2.2.1 (zNf r.2.2.1) && Nat.blt r.2.2.1 13) && zLV.all (fun r => Nat.blt r.2.2.1 295) && zLS.all (fun r => Nat.blt r.2.2.1 295) && zLSN.all (fun r => Nat.blt r.2.2.1 295) && zLP.all (fun r => Nat.blt r.2.2.1 295) && zLPN.all (fun r => Nat.blt r.2.2.1 295) && zLN.all (fun r => Nat.blt r.2.2.1 13) && zLA.all (fun r => Nat.beq r.2.2.1 1 || Nat.beq r.2.2.1 3)) = true := by decide +kernel
theorem zp_nat : Cond.native arraycopyName ∈ zGW := zAt (show (zT (([3, 190] : List Nat).getD 0 0))[([3, 190] : List Nat).getD 1 0]? = _ from rfl) rfl
theorem zp_stat : Cond.static arraycopyName ∈ zGW := zAt (show (zT (([3, 189] : List Nat).getD 0 0))[([3, 189] : List Nat).getD 1 0]? = _ from rfl) rfl
theorem zp_isys : Cond.initialized "java/lang/System" ∈ zGW := zAt (show (zT (([1, 19] : List Nat).getD 0 0))[([1, 19] : List Nat).getD 1 0]? = _ from rfl) rfl
theorem zp_obi : Cond.instanceMethod Lib.objectInit ∈ zGW := zAt (show (zT (([1, 32] : List Nat).getD 0 0))[([1, 32] : List Nat).getD 1 0]? = _ from rfl) rfl
theorem zp_obc : Cond.code Lib.objectInit ⟨#[0xb1]⟩ 1 none ∈ zGW := zAt (show (zT (([1, 33] : List Nat).getD 0 0))[([1, 33] : List Nat).getD 1 0]? = _ from rfl) rfl
theorem zp_aI : Cond.arrayClass .int ∈ zGW := zAt (show (zT (([1, 141] : List Nat).getD 0 0))[([1, 141] : List Nat).getD 1 0]? = _ from rfl) rfl
theorem zp_aJ : Cond.arrayClass .long ∈ zGW := zAt (show (zT (([1, 142] : List Nat).getD 0 0))[([1, 142] : List Nat).getD 1 0]? = _ from rfl) rfl
theorem zp_aZ : Cond.arrayClass .boolean ∈ zGW := zAt (show (zT (([2, 66] : List Nat).getD 0 0))[([2, 66] : List Nat).getD 1 0]? = _ from rfl) rfl
theorem zp_oC : Cond.arrayOver (.object "EchoVale$Course") ∈ lw_tbl := zT_mem (show (zT (([2, 135] : List Nat).getD 0 0))[([2, 135] : List Nat).getD 1 0]? = _ from rfl)
theorem zp_oM : Cond.arrayOver (.object "EchoVale$Image") ∈ lw_tbl := zT_mem (show (zT (([2, 149] : List Nat).getD 0 0))[([2, 149] : List Nat).getD 1 0]? = _ from rfl)
def zLays : List (List (Nat × Nat)) := [zLay0, zLay1, zLay2, zLay3, zLay4, zLay5, zLay6, zLay7, zLay8, zLay9, zLay10, zLay11, zLay12]
set_option maxRecDepth 100000 in
theorem zLays_at : zLays.map (fun l => l.map (fun r => (zT r.1)[r.2]?)) = (List.range 13).map (fun ci => (List.range (zNf ci)).map (fun k => some (u_lay (zOw ci) (zTX ci) k))) := rfl
theorem zLay_good (C : String) (T : u_T) (k : Nat) : goodWord (u_lay C T k) = true := by
  unfold u_lay
  split <;> rfl
theorem zCl_in {ci : Nat} (h : ci < 13) : ∀ w ∈ u_ws (zOw ci) (zTX ci) (zNf ci), w ∈ zGW := by
  intro w hw
  obtain ⟨k, hk, rfl⟩ := List.mem_map.mp hw
  have h0 : (List.range (zNf ci)).map (fun k => some (u_lay (zOw ci) (zTX ci) k)) ∈ (List.range 13).map (fun ci => (List.range (zNf ci)).map (fun k => some (u_lay (zOw ci) (zTX ci) k))) := List.mem_map.mpr ⟨ci, List.mem_range.mpr h, rfl⟩
  rw [← zLays_at] at h0
  obtain ⟨l, -, hl⟩ := List.mem_map.mp h0
  have h1 : some (u_lay (zOw ci) (zTX ci) k) ∈ (List.range (zNf ci)).map (fun k => some (u_lay (zOw ci) (zTX ci) k)) := List.mem_map.mpr ⟨k, hk, rfl⟩
  rw [← hl] at h1
  obtain ⟨r, -, hr⟩ := List.mem_map.mp h1
  exact zAt hr (zLay_good _ _ _)
theorem zCl_at {ci : Nat} (h : ci < 13) : vwCl[ci]? = some (zOw ci, zTX ci, zNf ci) := by
  match ci, h with
  | 0, _ => rfl | 1, _ => rfl | 2, _ => rfl | 3, _ => rfl | 4, _ => rfl | 5, _ => rfl | 6, _ => rfl | 7, _ => rfl | 8, _ => rfl | 9, _ => rfl | 10, _ => rfl | 11, _ => rfl | 12, _ => rfl
theorem zCl_nm {ci : Nat} (h : ci < 13) : ∀ a, a < zNf ci → ∀ b, b < zNf ci → a ≠ b → (zTX ci a).2.1 ≠ (zTX ci b).2.1 := by
  match ci, h with
  | 0, _ => exact nmX0 | 1, _ => exact nmX1 | 2, _ => exact nmX2 | 3, _ => exact nmX3 | 4, _ => exact nmX4 | 5, _ => exact nmX5 | 6, _ => exact nmX6 | 7, _ => exact nmX7 | 8, _ => exact nmX8 | 9, _ => exact nmX9 | 10, _ => exact nmX10 | 11, _ => exact nmX11 | 12, _ => exact nmX12
theorem zCl_ty {ci : Nat} (h : ci < 13) : ∀ k, k < zNf ci → parseFieldDescriptor (zTX ci k).2.2.1 = some (zTy ci k) := by
  match ci, h with
  | 0, _ => exact tyX0_ok | 1, _ => exact tyX1_ok | 2, _ => exact tyX2_ok | 3, _ => exact tyX3_ok | 4, _ => exact tyX4_ok | 5, _ => exact tyX5_ok | 6, _ => exact tyX6_ok | 7, _ => exact tyX7_ok | 8, _ => exact tyX8_ok | 9, _ => exact tyX9_ok | 10, _ => exact tyX10_ok | 11, _ => exact tyX11_ok | 12, _ => exact tyX12_ok
theorem zp_mabss : Cond.static Lib.Math.abs.name ∈ zGW := zAt (show (zT (([4, 74] : List Nat).getD 0 0))[([4, 74] : List Nat).getD 1 0]? = _ from rfl) rfl
theorem zp_mabsc : Cond.code Lib.Math.abs.name Lib.Math.abs.code 1 (some .int) ∈ zGW := zAt (show (zT (([4, 75] : List Nat).getD 0 0))[([4, 75] : List Nat).getD 1 0]? = _ from rfl) rfl
theorem zp_mmins : Cond.static Lib.Math.min.name ∈ zGW := zAt (show (zT (([3, 67] : List Nat).getD 0 0))[([3, 67] : List Nat).getD 1 0]? = _ from rfl) rfl
theorem zp_mminc : Cond.code Lib.Math.min.name Lib.Math.min.code 2 (some .int) ∈ zGW := zAt (show (zT (([3, 68] : List Nat).getD 0 0))[([3, 68] : List Nat).getD 1 0]? = _ from rfl) rfl
theorem zp_mmaxs : Cond.static Lib.Math.max.name ∈ zGW := zAt (show (zT (([4, 54] : List Nat).getD 0 0))[([4, 54] : List Nat).getD 1 0]? = _ from rfl) rfl
theorem zp_mmaxc : Cond.code Lib.Math.max.name Lib.Math.max.code 2 (some .int) ∈ zGW := zAt (show (zT (([4, 55] : List Nat).getD 0 0))[([4, 55] : List Nat).getD 1 0]? = _ from rfl) rfl
theorem zp_mini : Cond.initialized "java/lang/Math" ∈ zGW := zAt (show (zT (([1, 18] : List Nat).getD 0 0))[([1, 18] : List Nat).getD 1 0]? = _ from rfl) rfl
def zMn (k : Nat) : MethodName := match k with
  | 2 => Lib.Math.abs.name
  | 3 => Lib.Math.min.name
  | _ => Lib.Math.max.name
set_option maxRecDepth 100000 in
theorem zLM_at : zLM.map (fun r => (zT r.2.2.2.1)[r.2.2.2.2]?) = zLM.map (fun r => some (Cond.methodLink (zOw r.1) r.2.1 (zMn r.2.2.1))) := rfl
theorem zMs_nl : zMs.all (fun r => !Nat.beq r.2.2.2.2.1 16) = true := by decide +kernel
theorem zm_notlaw {mi : Nat} (h : mi < zMs.length) : ¬ zmC mi = 16 := by
  intro q
  have h1 := List.all_eq_true.mp zMs_nl _ (zm_in h)
  have q : (zm mi).2.2.2.2.1 = 16 := q
  rw [q] at h1
  cases h1
end
section
/-! The first heap: cells by number. A cell: its kind (0 to 12 an object of that class; 20 int[], 21 long[], 22 boolean[], 23 Course[], 24 Image[]), its size, what it holds. -/
abbrev zCe : Type := Nat × Nat × (Nat → Int)
abbrev zH1 : Type := List zCe
def zTag (ci k : Nat) : Nat := zTg (zTy ci k)
def zUp (f : Nat → Int) (k : Nat) (v : Int) : Nat → Int := fun j => if j = k then v else f j
def zIsB (ci k : Nat) : Bool := match zTy ci k with
  | .boolean => true
  | _ => false
def zIni0 (ci : Nat) : Nat → Int := fun k => if zTag ci k = 2 then -1 else 0
def zSl (h : zH1) : Nat := (h.map (fun c => c.2.1)).sum
def zAk (kd : Nat) : FieldType := match kd with
  | 20 => .int
  | 21 => .long
  | 22 => .boolean
  | 23 => .object "EchoVale$Course"
  | _ => .object "EchoVale$Image"
def zNk (ty : ArrayType) : Option Nat := match ty with
  | .int => some 20
  | .long => some 21
  | .boolean => some 22
  | _ => none
def zCpy (f g : Nat → Int) (sp dp n : Nat) : Nat → Int := fun k => if dp ≤ k ∧ k < dp + n then f (sp + (k - dp)) else g k
/-- what lies below the arguments of a call is little -/
def zRm (r : List zAv) : Bool := Nat.ble r.length 8
def zLdA (kd t : Nat) (b : Bool) (st : List zAv) (h : zH1) : Option (List Prop × List zAv × zH1) := match st with
  | (0, i) :: (2, a) :: r => match h[a.toNat]? with
    | some (k, n, f) => match Nat.beq k kd with
      | true => some ((match b with
        | true => [0 ≤ i ∧ i < (n : Int), 0 ≤ f i.toNat]
        | false => [0 ≤ i ∧ i < (n : Int)]), (t, f i.toNat) :: r, h)
      | false => none
    | none => none
  | _ => none
def zStA (kd t : Nat) (g : Int → List Prop) (st : List zAv) (h : zH1) : Option (List Prop × List zAv × zH1) := match st with
  | (u, v) :: (0, i) :: (2, a) :: r => match h[a.toNat]? with
    | some (k, n, f) => match Nat.beq k kd && Nat.beq u t with
      | true => some ((0 ≤ i ∧ i < (n : Int)) :: g v, r, h.set a.toNat (k, n, zUp f i.toNat v))
      | false => none
    | none => none
  | _ => none
def zLinkF (cls idx ci k : Nat) : Bool := zLF.any (fun r => Nat.beq r.1 cls && Nat.beq r.2.1 idx && Nat.beq r.2.2.1 ci && Nat.beq r.2.2.2.1 k)
/-- L: how long the script is; xs: what it holds -/
def zHop1 (L : Nat) (xs : Nat → Int) : zHop zH1 := fun i ax st h => match i with
  | .getfield _ => match st with
    | (2, o) :: r => match h[o.toNat]? with
      | some (kd, _, f) => match Nat.beq kd ax.1 with
        | true => match Nat.beq (zTag ax.1 ax.2.1) 2 with
          | true => some ([0 ≤ f ax.2.1], (2, f ax.2.1) :: r, h)
          | false => some ([], (zTag ax.1 ax.2.1, f ax.2.1) :: r, h)
        | false => none
      | none => none
    | _ => none
  | .putfield _ => match st with
    | (t, v) :: (2, o) :: r => match h[o.toNat]? with
      | some (kd, n, f) => match Nat.beq kd ax.1 && Nat.beq t (zTag ax.1 ax.2.1) with
        | true => some ((match zIsB ax.1 ax.2.1 with
          | true => [v = 0 ∨ v = 1]
          | false => []), r, h.set o.toNat (kd, n, zUp f ax.2.1 v))
        | false => none
      | none => none
    | _ => none
  | .iaload => match Nat.beq ax.1 1 with
    | true => match st with
      | (0, j) :: (5, _) :: r => some ([0 ≤ j ∧ j < (L : Int)], (0, xs j.toNat) :: r, h)
      | _ => none
    | false => zLdA 20 0 false st h
  | .laload => zLdA 21 1 false st h
  | .baload => zLdA 22 0 false st h
  | .aaload => match Nat.beq ax.1 23 || Nat.beq ax.1 24 with
    | true => zLdA ax.1 2 true st h
    | false => none
  | .iastore => zStA 20 0 (fun _ => []) st h
  | .lastore => zStA 21 1 (fun _ => []) st h
  | .bastore => zStA 22 0 (fun v => [v = 0 ∨ v = 1]) st h
  | .aastore => match st with
    | (2, v) :: _ => match h[v.toNat]? with
      | some (k, _, _) => match (Nat.beq ax.1 23 && Nat.beq k 1) || (Nat.beq ax.1 24 && Nat.beq k 3) with
        | true => zStA ax.1 2 (fun _ => []) st h
        | false => none
      | none => none
    | _ => none
  | .arraylength => match Nat.beq ax.1 1 with
    | true => match st with
      | (5, _) :: r => some ([], (0, (L : Int)) :: r, h)
      | _ => none
    | false => match st with
      | (2, a) :: r => match h[a.toNat]? with
        | some (k, n, _) => match Nat.ble 20 k with
          | true => some ([], (0, (n : Int)) :: r, h)
          | false => none
        | none => none
      | _ => none
  | .new _ => some ([], (2, (h.length : Int)) :: st, h ++ [((ax.1, zNf ax.1, zIni0 ax.1) : zCe)])
  | .newarray ty => match zNk ty with
    | some kd => match st with
      | (0, n) :: r => some ([0 ≤ n ∧ n ≤ 100000], (2, (h.length : Int)) :: r, h ++ [((kd, n.toNat, fun _ => (0 : Int)) : zCe)])
      | _ => none
    | none => none
  | .anewarray _ => match Nat.beq ax.1 23 || Nat.beq ax.1 24 with
    | true => match st with
      | (0, n) :: r => some ([0 ≤ n ∧ n ≤ 100000], (2, (h.length : Int)) :: r, h ++ [((ax.1, n.toNat, fun _ => (-1 : Int)) : zCe)])
      | _ => none
    | false => none
  | .invokestatic _ => match ax.1 with
    | 5001 => match st with
      | (0, n) :: (0, dp) :: (2, d) :: (0, sp) :: (2, s) :: r => match h[s.toNat]?, h[d.toNat]? with
        | some (k0, n0, f), some (k1, n1, g) => match (Nat.beq k0 k1 && (Nat.beq k0 20 || Nat.beq k0 21)) && zRm r with
          | true => some ([0 ≤ sp, 0 ≤ dp, 0 ≤ n, sp + n ≤ (n0 : Int), dp + n ≤ (n1 : Int)], r, h.set d.toNat (k1, n1, zCpy f g sp.toNat dp.toNat n.toNat))
          | false => none
        | _, _ => none
      | _ => none
    | 5002 => match st with
      | (0, x) :: r => match zRm r with
        | true => some ([], (0, if x < 0 then wneg x else x) :: r, h)
        | false => none
      | _ => none
    | 5003 => match st with
      | (0, y) :: (0, x) :: r => match zRm r with
        | true => some ([], (0, if y < x then y else x) :: r, h)
        | false => none
      | _ => none
    | 5004 => match st with
      | (0, y) :: (0, x) :: r => match zRm r with
        | true => some ([], (0, if x < y then y else x) :: r, h)
        | false => none
      | _ => none
    | _ => none
  | .invokespecial _ => match Nat.beq ax.1 5000 with
    | true => match st with
      | (2, _) :: r => match zRm r with
        | true => some ([], r, h)
        | false => none
      | _ => none
    | false => none
  | _ => none
/-- are the pool's numbers as the tables have them? cls: the method's class; ini: it is a constructor -/
def zAxOk (cls : Nat) (ini : Bool) (i : Instr) (ax : zAx) : Bool := match i with
  | .getfield x => zLinkF cls x ax.1 ax.2.1
  | .putfield x => zLinkF cls x ax.1 ax.2.1 && (!(zTX ax.1 ax.2.1).2.2.2 || (ini && Nat.beq cls ax.1))
  | .ldc x => zLC.any (fun r => Nat.beq r.1 cls && Nat.beq r.2.1 x && decide (r.2.2.1 = ax.2.2))
  | .ldc_w x => zLC.any (fun r => Nat.beq r.1 cls && Nat.beq r.2.1 x && decide (r.2.2.1 = ax.2.2))
  | .ldc2_w x => zLJ.any (fun r => Nat.beq r.1 cls && Nat.beq r.2.1 x && decide (r.2.2.1 = ax.2.2))
  | .new x => zLN.any (fun r => Nat.beq r.1 cls && Nat.beq r.2.1 x && Nat.beq r.2.2.1 ax.1)
  | .anewarray x => zLA.any (fun r => Nat.beq r.1 cls && Nat.beq r.2.1 x && Nat.beq (if r.2.2.1 = 1 then 23 else 24) ax.1)
  | .iaload => Nat.beq ax.1 0 || Nat.beq cls 16
  | .arraylength => Nat.beq ax.1 0 || Nat.beq cls 16
  | .invokestatic x => match ax.1 with
    | 5001 => zLY.any (fun r => Nat.beq r.1 cls && Nat.beq r.2.1 x)
    | 5002 => zLM.any (fun r => Nat.beq r.1 cls && Nat.beq r.2.1 x && Nat.beq r.2.2.1 2)
    | 5003 => zLM.any (fun r => Nat.beq r.1 cls && Nat.beq r.2.1 x && Nat.beq r.2.2.1 3)
    | 5004 => zLM.any (fun r => Nat.beq r.1 cls && Nat.beq r.2.1 x && Nat.beq r.2.2.1 4)
    | mi => zLS.any (fun r => Nat.beq r.1 cls && Nat.beq r.2.1 x && Nat.beq r.2.2.1 mi) || zLSN.any (fun r => Nat.beq r.1 cls && Nat.beq r.2.1 x && Nat.beq r.2.2.1 mi)
  | .invokevirtual x => zLV.any (fun r => Nat.beq r.1 cls && Nat.beq r.2.1 x && Nat.beq r.2.2.1 ax.1)
  | .invokespecial x => match ax.1 with
    | 5000 => zLO.any (fun r => Nat.beq r.1 cls && Nat.beq r.2.1 x)
    | mi => zLP.any (fun r => Nat.beq r.1 cls && Nat.beq r.2.1 x && Nat.beq r.2.2.1 mi) || zLPN.any (fun r => Nat.beq r.1 cls && Nat.beq r.2.1 x && Nat.beq r.2.2.1 mi)
  | _ => true
end
section
/-! What the abstract machine's things are on the real one. -/
def cv (b : Nat) (as : List Nat) (a : zAv) : Value := match a.1 with
  | 0 => .int (Int32.ofInt a.2)
  | 1 => .long (Int64.ofInt a.2)
  | 2 => .ref (as.getD a.2.toNat 0)
  | _ => .ref b
def wfv (n : Nat) (sc : Prop) (a : zAv) : Prop := match a.1 with
  | 0 => zR32 a.2
  | 1 => zR64 a.2
  | 2 => 0 ≤ a.2 ∧ a.2 < (n : Int)
  | 5 => sc
  | _ => False
def zFv (as : List Nat) (t : Nat) (x : Int) : Value := match t with
  | 0 => .int (Int32.ofInt x)
  | 1 => .long (Int64.ofInt x)
  | _ => if x < 0 then .null else .ref (as.getD x.toNat 0)
def wff (n : Nat) (t : Nat) (x : Int) : Prop := match t with
  | 0 => zR32 x
  | 1 => zR64 x
  | _ => x < (n : Int)
def zKt (kd : Nat) : Nat := match kd with
  | 20 => 0
  | 21 => 1
  | 22 => 0
  | _ => 2
def wfc (n : Nat) (c : zCe) : Prop := (c.1 < 13 ∧ c.2.1 = zNf c.1 ∧ ∀ k, k < c.2.1 → wff n (zTag c.1 k) (c.2.2 k)) ∨ (20 ≤ c.1 ∧ c.1 < 25 ∧ c.2.1 ≤ 100000 ∧ ∀ k, k < c.2.1 → wff n (zKt c.1) (c.2.2 k))
def zEr (as : List Nat) (x : Int) : Option Nat := if x < 0 then none else some (as.getD x.toNat 0)
def zEnt (as : List Nat) (cA : ClassId) (c : zCe) : va_E := match Nat.ble 20 c.1 with
  | false => .inr (c.1, (List.range c.2.1).map (fun k => zFv as (zTag c.1 k) (c.2.2 k)))
  | true => .inl (cA, c.2.1, match c.1 with
    | 20 => .inl (fun j => Int32.ofInt (c.2.2 j))
    | 22 => .inl (fun j => Int32.ofInt (c.2.2 j))
    | 21 => .inr (.inl (fun j => Int64.ofInt (c.2.2 j)))
    | _ => .inr (.inr (.inr (.inr (fun j => zEr as (c.2.2 j))))))
def zWs (as : List Nat) (ca : Nat → ClassId) (h : zH1) : va_W := h.mapIdx (fun k c => (as.getD k 0, zEnt as (ca k) c))
theorem zWs_at {as : List Nat} {ca : Nat → ClassId} {h : zH1} {k : Nat} {c : zCe} (e : h[k]? = some c) : (zWs as ca h)[k]? = some (as.getD k 0, zEnt as (ca k) c) := by
  simp [zWs, e]
theorem zWs_len {as : List Nat} {ca : Nat → ClassId} {h : zH1} : (zWs as ca h).length = h.length := by simp [zWs]
theorem zWs_set {as : List Nat} {ca : Nat → ClassId} {h : zH1} {k : Nat} {c' : zCe} : (zWs as ca h).set k (as.getD k 0, zEnt as (ca k) c') = zWs as ca (h.set k c') := by
  apply List.ext_getElem?
  intro i
  simp only [zWs, List.getElem?_set, List.getElem?_mapIdx, List.length_mapIdx]
  by_cases hi : k = i
  · subst hi
    by_cases hl : k < h.length <;> simp [hl]
  · simp [hi]
theorem getD_app {as : List Nat} {q k : Nat} (h : k < as.length) : (as ++ [q]).getD k 0 = as.getD k 0 := by
  simp [List.getD_eq_getElem?_getD, List.getElem?_append_left h]
theorem getD_last {as : List Nat} {q : Nat} : (as ++ [q]).getD as.length 0 = q := by
  simp [List.getD_eq_getElem?_getD]
theorem zFv_app {as : List Nat} {q t : Nat} {x : Int} (h : wff as.length t x) : zFv (as ++ [q]) t x = zFv as t x := by
  unfold zFv wff at *
  split
  · rfl
  · rfl
  · rename_i h0 h1
    split
    · rfl
    · rename_i hx
      have : x < (as.length : Int) := by
        revert h; split
        · exact absurd rfl h0
        · exact absurd rfl h1
        · exact id
      rw [getD_app (by omega)]
theorem zEr_app {as : List Nat} {q : Nat} {x : Int} (h : x < (as.length : Int)) : zEr (as ++ [q]) x = zEr as x := by
  unfold zEr
  split
  · rfl
  · rw [getD_app (by omega)]
theorem zEnt_congr {as as' : List Nat} {cA : ClassId} {k n : Nat} {f g : Nat → Int} (hk : k < 20) (h : ∀ j, j < n → zFv as (zTag k j) (f j) = zFv as' (zTag k j) (g j)) : zEnt as cA (k, n, f) = zEnt as' cA (k, n, g) := by
  have hb : Nat.ble 20 k = false := by
    cases e : Nat.ble 20 k with
    | false => rfl
    | true => have := Nat.le_of_ble_eq_true e; omega
  simp only [zEnt, hb]
  congr 2
  apply List.map_congr_left
  intro j hj
  exact h j (List.mem_range.mp hj)
/-- beyond an array's size it doesn't matter what its row holds -/
theorem vp_cell_congr {cA : ClassId} {n : Nat} {f g : Nat → Option Nat} (h : ∀ j, j < n → f j = g j) : vp_cell cA (n, .inr (.inr (.inr (.inr f)))) = vp_cell cA (n, .inr (.inr (.inr (.inr g)))) := by
  simp only [vp_cell, arrV]
  congr 2
  funext j
  rw [h j.val j.isLt]
theorem zAt_app {D : va_G} {as : List Nat} {q a : Nat} {cA : ClassId} {c : zCe} {H : Heap} (hw : wfc as.length c) (h : va_at D vwCl (a, zEnt as cA c) H) : va_at D vwCl (a, zEnt (as ++ [q]) cA c) H := by
  obtain ⟨k, n, f⟩ := c
  rcases hw with ⟨h1, h2, h3⟩ | ⟨h1, h2, h3, h4⟩
  · rw [zEnt_congr (as := as ++ [q]) (as' := as) (g := f) (by omega) (fun j hj => zFv_app (h3 j hj))]
    exact h
  · have hb : Nat.ble 20 k = true := Nat.ble_eq_true_of_le h1
    simp only [zEnt, hb] at h ⊢
    have hk : k = 20 ∨ k = 21 ∨ k = 22 ∨ k = 23 ∨ k = 24 := by simp only at h1 h2; omega
    rcases hk with rfl | rfl | rfl | rfl | rfl
    · exact h
    · exact h
    · exact h
    · show H[a]? = some (vp_cell cA (n, .inr (.inr (.inr (.inr (fun j => zEr (as ++ [q]) (f j)))))))
      rw [vp_cell_congr (g := fun j => zEr as (f j)) (fun j hj => zEr_app (h4 j hj))]
      exact h
    · show H[a]? = some (vp_cell cA (n, .inr (.inr (.inr (.inr (fun j => zEr (as ++ [q]) (f j)))))))
      rw [vp_cell_congr (g := fun j => zEr as (f j)) (fun j hj => zEr_app (h4 j hj))]
      exact h
theorem cv_app {b : Nat} {as : List Nat} {sc : Prop} {q : Nat} {a : zAv} (h : wfv as.length sc a) : cv b (as ++ [q]) a = cv b as a := by
  obtain ⟨t, x⟩ := a
  unfold cv wfv at *
  simp only at *
  split
  · rfl
  · rfl
  · obtain ⟨h1, h2⟩ := h
    rw [getD_app (by omega)]
  · rfl
theorem wfv_up {n n' : Nat} {sc : Prop} {a : zAv} (hn : n ≤ n') (h : wfv n sc a) : wfv n' sc a := by
  obtain ⟨t, x⟩ := a
  unfold wfv at *
  simp only at *
  split at h
  · exact h
  · exact h
  · exact ⟨h.1, by omega⟩
  · exact h
  · exact h
theorem wff_up {n n' t : Nat} {x : Int} (hn : n ≤ n') (h : wff n t x) : wff n' t x := by
  unfold wff at *
  split at h
  · exact h
  · exact h
  · omega
theorem wfc_up {n n' : Nat} {c : zCe} (hn : n ≤ n') (h : wfc n c) : wfc n' c := by
  rcases h with ⟨h1, h2, h3⟩ | ⟨h1, h2, h3, h4⟩
  · exact Or.inl ⟨h1, h2, fun k hk => wff_up hn (h3 k hk)⟩
  · exact Or.inr ⟨h1, h2, h3, fun k hk => wff_up hn (h4 k hk)⟩
/-- the heap -/
def zHR (s : State) (D : va_G) (A : Nat → Prop) (H0 : Heap) (as : List Nat) (ca : Nat → ClassId) (h : zH1) (H : Heap) (locs : List Loc) : Prop :=
  as.length = h.length ∧ (∃ tys, va_K D vwCl tys s ∧ ∀ (k : Nat) (c : zCe), h[k]? = some c → 20 ≤ c.1 → ∃ t0 : Nat, tys[t0]? = some (ca k, zAk c.1)) ∧ va_P D vwCl (zWs as ca h) H ∧ va_D A (zWs as ca h) ∧ va_S A H0 H locs ∧ ∀ (k : Nat) (c : zCe), h[k]? = some c → wfc h.length c
def lvF (b : Nat) (as : List Nat) (ls : Array Slot) (nL : Nat) (L : zLo) : Prop := ls.size = nL ∧ lv_wf ls ∧ ∀ (i : Nat) (a : zAv), zGl L i = some a → ls[i]? = some (.val (cv b as a))
/-- the frame -/
def zFR (b : Nat) (sc : Prop) (as : List Nat) (n : Nat) (L : zLo) (st : List zAv) (ls : Array Slot) (nL : Nat) : Prop :=
  lvF b as ls nL L ∧ L.length = nL ∧ (∀ (i : Nat) (a : zAv), zGl L i = some a → wfv n sc a) ∧ ∀ a ∈ st, wfv n sc a
theorem zGl_set {L : zLo} {i j : Nat} {x : Option zAv} {a : zAv} (h : zGl (L.set i x) j = some a) : (i = j ∧ x = some a) ∨ (i ≠ j ∧ zGl L j = some a) := by
  unfold zGl at *
  rw [List.getElem?_set] at h
  by_cases hi : i = j
  · rw [if_pos hi] at h
    left
    refine ⟨hi, ?_⟩
    by_cases hl : i < L.length
    · rw [if_pos hl] at h
      cases x with
      | none => simp at h
      | some y => simpa using h
    · rw [if_neg hl] at h
      simp at h
  · rw [if_neg hi] at h
    exact Or.inr ⟨hi, h⟩
theorem zGl_kl {L : zLo} {i j : Nat} {a : zAv} (h : zGl (zKl L i) j = some a) : zGl L j = some a ∧ ¬ (j + 1 = i ∧ a.1 = 1) := by
  cases i with
  | zero => exact ⟨h, fun q => by omega⟩
  | succ i =>
    unfold zKl at h
    simp only at h
    split at h
    · rename_i x hx
      rcases zGl_set h with ⟨h1, h2⟩ | ⟨h1, h2⟩
      · cases h2
      · exact ⟨h2, fun q => h1 (by omega)⟩
    · rename_i hx
      refine ⟨h, fun q => ?_⟩
      obtain ⟨q1, q2⟩ := q
      have hj : j = i := by omega
      subst hj
      obtain ⟨t, x⟩ := a
      simp only at q2
      subst q2
      exact hx x h
theorem zKl_len {L : zLo} {i : Nat} : (zKl L i).length = L.length := by
  cases i with
  | zero => rfl
  | succ i => unfold zKl; simp only; split <;> simp
theorem cv_cat2 {b : Nat} {as : List Nat} {a : zAv} (h : (cv b as a).category = 2) : a.1 = 1 := by
  obtain ⟨t, x⟩ := a
  unfold cv at h
  simp only at *
  split at h <;> simp_all [Value.category]
theorem cv_cat1 {b : Nat} {as : List Nat} {a : zAv} (h : ¬ a.1 = 1) : (cv b as a).category = 1 := by
  rcases lv_cat (cv b as a) with h1 | h1
  · exact h1
  · exact absurd (cv_cat2 h1) h
/-- the listed values of the locals -/
def zAs (b : Nat) (as : List Nat) (L : zLo) : List (Nat × Value) := (List.range L.length).filterMap (fun i => (zGl L i).map (fun a => (i, cv b as a)))
theorem zGl_lt {L : zLo} {i : Nat} {a : zAv} (h : zGl L i = some a) : i < L.length := by
  unfold zGl at h
  split at h
  · rename_i e; exact (List.getElem?_eq_some_iff.mp e).1
  · cases h
theorem zAs_in {b : Nat} {as : List Nat} {L : zLo} {i : Nat} {a : zAv} (h : zGl L i = some a) : (i, cv b as a) ∈ zAs b as L :=
  List.mem_filterMap.mpr ⟨i, List.mem_range.mpr (zGl_lt h), by rw [h]; rfl⟩
theorem lvF.has {b : Nat} {as : List Nat} {ls : Array Slot} {nL : Nat} {L : zLo} (h : lvF b as ls nL L) : lv_has ls nL (zAs b as L) := by
  refine ⟨h.1, h.2.1, fun q hq => ?_⟩
  obtain ⟨i, -, hi⟩ := List.mem_filterMap.mp hq
  cases e : zGl L i with
  | none => rw [e] at hi; cases hi
  | some a => rw [e] at hi; cases hi; exact h.2.2 i a e
theorem lvF.sto {b : Nat} {as : List Nat} {ls' : Array Slot} {nL n : Nat} {L : zLo} {a : zAv} (h : lv_has ls' nL ((n, cv b as a) :: (zAs b as L).filter (fun q => !(q.1 == n) && !(q.1 + 1 == n && q.2.category == 2)))) : lvF b as ls' nL (zSt L n a) := by
  refine ⟨h.1, h.2.1, fun j c hj => ?_⟩
  rcases zGl_set hj with ⟨h1, h2⟩ | ⟨h1, h2⟩
  · cases h2
    subst h1
    exact h.2.2 (n, _) List.mem_cons_self
  · obtain ⟨h3, h4⟩ := zGl_kl h2
    refine h.2.2 (j, cv b as c) (List.mem_cons_of_mem _ (List.mem_filter.mpr ⟨zAs_in h3, ?_⟩))
    simp only [Bool.and_eq_true, Bool.not_eq_true', beq_eq_false_iff_ne, Bool.and_eq_false_iff]
    refine ⟨fun e => h1 e.symm, ?_⟩
    by_cases hc : (cv b as c).category = 2
    · left
      intro e
      exact h4 ⟨e, cv_cat2 hc⟩
    · right
      exact hc
theorem lvF.stoL {b : Nat} {as : List Nat} {ls' : Array Slot} {nL n : Nat} {L : zLo} {a : zAv} (h : lv_has ls' nL ((n, cv b as a) :: (zAs b as L).filter (fun q => !(q.1 == n) && (!(q.1 == n + 1) && !(q.1 + 1 == n && q.2.category == 2))))) : lvF b as ls' nL (zStL L n a) := by
  refine ⟨h.1, h.2.1, fun j c hj => ?_⟩
  rcases zGl_set hj with ⟨h1, h2⟩ | ⟨h0, h2⟩
  · cases h2
  · rcases zGl_set h2 with ⟨h1, h2⟩ | ⟨h1, h2⟩
    · cases h2
      subst h1
      exact h.2.2 (n, _) List.mem_cons_self
    · obtain ⟨h3, h4⟩ := zGl_kl h2
      refine h.2.2 (j, cv b as c) (List.mem_cons_of_mem _ (List.mem_filter.mpr ⟨zAs_in h3, ?_⟩))
      simp only [Bool.and_eq_true, Bool.not_eq_true', beq_eq_false_iff_ne, Bool.and_eq_false_iff]
      refine ⟨fun e => h1 e.symm, fun e => h0 e.symm, ?_⟩
      by_cases hc : (cv b as c).category = 2
      · left
        intro e
        exact h4 ⟨e, cv_cat2 hc⟩
      · right
        exact hc
theorem o32 {x : Int} (h : zR32 x) : (Int32.ofInt x).toInt = x := Int32.toInt_ofInt_of_le h.1 h.2
theorem o64 {x : Int} (h : zR64 x) : (Int64.ofInt x).toInt = x := Int64.toInt_ofInt_of_le h.1 h.2
theorem r32 (x : Int32) : zR32 x.toInt := ⟨x.le_toInt, x.toInt_lt⟩
theorem r64 (x : Int64) : zR64 x.toInt := ⟨x.le_toInt, x.toInt_lt⟩
theorem o32_lt {x y : Int} (hx : zR32 x) (hy : zR32 y) : Int32.ofInt x < Int32.ofInt y ↔ x < y := by
  rw [Int32.lt_iff_toInt_lt, o32 hx, o32 hy]
theorem o32_le {x y : Int} (hx : zR32 x) (hy : zR32 y) : Int32.ofInt x ≤ Int32.ofInt y ↔ x ≤ y := by
  rw [Int32.le_iff_toInt_le, o32 hx, o32 hy]
theorem o32_eq {x y : Int} (hx : zR32 x) (hy : zR32 y) : Int32.ofInt x = Int32.ofInt y ↔ x = y := by
  rw [← Int32.toInt_inj, o32 hx, o32 hy]
theorem o64_lt {x y : Int} (hx : zR64 x) (hy : zR64 y) : Int64.ofInt x < Int64.ofInt y ↔ x < y := by
  rw [Int64.lt_iff_toInt_lt, o64 hx, o64 hy]
theorem o64_eq {x y : Int} (hx : zR64 x) (hy : zR64 y) : Int64.ofInt x = Int64.ofInt y ↔ x = y := by
  rw [← Int64.toInt_inj, o64 hx, o64 hy]
theorem o32_0 : Int32.ofInt 0 = 0 := rfl
theorem r32_0 : zR32 0 := ⟨by decide, by decide⟩
theorem o32_cl {x : Int} (h : zR32 x) (h0 : 0 ≤ x) : (Int32.ofInt x).toNatClampNeg = x.toNat := by
  rw [Int32.toNatClampNeg, o32 h]
theorem o32_in {x : Int} {n : Nat} (h : zR32 x) (h0 : 0 ≤ x ∧ x < (n : Int)) : vp_in (Int32.ofInt x) n := by
  unfold vp_in
  rw [Int32.lt_iff_toInt_lt, o32 h, o32_cl h h0.1]
  have : (0 : Int32).toInt = 0 := rfl
  omega
end
section
/-! One instruction of the abstract machine is one of the real one. -/
def zLn (i : Instr) : Nat := match i with
  | .aload _ => 2
  | .iload _ => 2
  | .lload _ => 2
  | .astore _ => 2
  | .istore _ => 2
  | .lstore _ => 2
  | .bipush _ => 2
  | .ldc _ => 2
  | .newarray _ => 2
  | .sipush _ => 3
  | .ldc_w _ => 3
  | .ldc2_w _ => 3
  | .iinc _ _ => 3
  | .ifCond _ _ => 3
  | .if_icmp _ _ => 3
  | .goto _ => 3
  | .getfield _ => 3
  | .putfield _ => 3
  | .new _ => 3
  | .anewarray _ => 3
  | .invokestatic _ => 3
  | .invokespecial _ => 3
  | .invokevirtual _ => 3
  | .tableswitch _ _ _ _ => 0
  | .lookupswitch _ _ => 0
  | _ => 1
def zLnOk (i : Instr) (len : Nat) : Bool := Nat.beq (zLn i) len || Nat.beq (zLn i) 0
def zKnS (s : State) : Prop := va_AO "EchoVale$Course" s ∧ va_AO "EchoVale$Image" s ∧ (∀ r ∈ zLSN, va_Nw (.methodLinkNest (zOw r.1) r.2.1 (zmY r.2.2.1) "EchoVale") s) ∧ ∀ r ∈ zLPN, va_Nw (.methodLinkNest (zOw r.1) r.2.1 (zmY r.2.2.1) "EchoVale") s
def zIsI (mi : Nat) : Bool := decide ((zmY mi).name = "<init>")
section ZS
variable {p : Program} {l : Launch} {e : Env} {R : Room} {s : State} {m : MethodId} {args : Array Value} {below : List Frame} {meth : Method} {c : Code} {Q : State → Prop}
variable {D : va_G} {A : Nat → Prop} {H0 : Heap} {b Ls : Nat} {xs : Nat → Int32} {mi n0 s0 : Nat}
def zCx (p : Program) (R : Room) (s : State) (m : MethodId) (args : Array Value) (meth : Method) (c : Code) (A : Nat → Prop) (H0 : Heap) (b Ls : Nat) (xs : Nat → Int32) (mi : Nat) : Prop :=
  p.tables.exec = Jvm.exec ∧ c.code = zmCode mi ∧ c.maxLocals = zmMax mi ∧ s.vm.findClass (zOw (zmC mi)) = some m.cls ∧ (∀ w ∈ zGW, w.before args s = true) ∧ zKnS s ∧ (∀ q, H0.size ≤ q → A q) ∧ meth.name = (zmY mi).name ∧ (zmC mi = 16 → va_X b Ls xs s H0 ∧ b < H0.size ∧ ¬ A b ∧ Ls < 2 ^ 31) ∧ 1 ≤ R.frames ∧ 40 ≤ R.locals
/-- what is still to be shown of a place of the method -/
def zGoal (p : Program) (l : Launch) (e : Env) (R : Room) (s : State) (m : MethodId) (args : Array Value) (below : List Frame) (meth : Method) (c : Code) (Q : State → Prop) (D : va_G) (A : Nat → Prop) (H0 : Heap) (b mi n0 s0 : Nat) (as0 : List Nat) (cf : zCf zH1) : Prop :=
  ∀ (as : List Nat) (ca : Nat → ClassId) (ls : Array Slot) (H : Heap) (locs : List Loc), zHR s D A H0 as ca cf.2.2.2 H locs → zFR b (zmC mi = 16) as cf.2.2.2.length cf.2.1 cf.2.2.1 ls (zmMax mi) → as0 <+: as →
    W p l e R s m args below meth c H locs (cf.2.2.2.length - n0) (zSl cf.2.2.2 - s0) Q (F0 m cf.1 ls (cf.2.2.1.map (cv b as)))
theorem zGoal.mono {as0 as1 : List Nat} {cf : zCf zH1} (h : as0 <+: as1) (g : zGoal p l e R s m args below meth c Q D A H0 b mi n0 s0 as0 cf) : zGoal p l e R s m args below meth c Q D A H0 b mi n0 s0 as1 cf :=
  fun as ca ls H locs hH hF hp => g as ca ls H locs hH hF (h.trans hp)
theorem cv_ref {as : List Nat} {t : Nat} {x : Int} (h : zGe2 t = true) : ∃ r : Nat, cv b as (t, x) = .ref r := by
  have h2 := Nat.le_of_ble_eq_true h
  unfold cv
  simp only
  split
  · omega
  · omega
  · exact ⟨_, rfl⟩
  · exact ⟨_, rfl⟩
theorem zFR.push {sc : Prop} {as : List Nat} {n nL : Nat} {L : zLo} {st : List zAv} {ls : Array Slot} {a : zAv} (h : zFR b sc as n L st ls nL) (ha : wfv n sc a) : zFR b sc as n L (a :: st) ls nL :=
  ⟨h.1, h.2.1, h.2.2.1, fun x hx => by
    rcases List.mem_cons.mp hx with rfl | hx
    · exact ha
    · exact h.2.2.2 x hx⟩
theorem zFR.tl {sc : Prop} {as : List Nat} {n nL : Nat} {L : zLo} {st : List zAv} {ls : Array Slot} {a : zAv} (h : zFR b sc as n L (a :: st) ls nL) : zFR b sc as n L st ls nL :=
  ⟨h.1, h.2.1, h.2.2.1, fun x hx => h.2.2.2 x (List.mem_cons_of_mem _ hx)⟩
theorem zFR.hd {sc : Prop} {as : List Nat} {n nL : Nat} {L : zLo} {st : List zAv} {ls : Array Slot} {a : zAv} (h : zFR b sc as n L (a :: st) ls nL) : wfv n sc a := h.2.2.2 a List.mem_cons_self
theorem zFR.sto {sc : Prop} {as : List Nat} {n nL k : Nat} {L L' : zLo} {st : List zAv} {ls ls' : Array Slot} {a : zAv} (h : zFR b sc as n L st ls nL) (ha : wfv n sc a) (h1 : lvF b as ls' nL L') (h2 : L'.length = L.length) (h3 : ∀ i c, zGl L' i = some c → (c = a) ∨ zGl L i = some c) : zFR b sc as n L' st ls' nL :=
  ⟨h1, h2.trans h.2.1, fun i c hc => by
    rcases h3 i c hc with rfl | h4
    · exact ha
    · exact h.2.2.1 i c h4, h.2.2.2⟩
theorem zSt_or {L : zLo} {k : Nat} {a : zAv} : ∀ i c, zGl (zSt L k a) i = some c → (c = a) ∨ zGl L i = some c := by
  intro i c hc
  rcases zGl_set hc with ⟨-, h2⟩ | ⟨-, h2⟩
  · cases h2; exact Or.inl rfl
  · exact Or.inr (zGl_kl h2).1
theorem zStL_or {L : zLo} {k : Nat} {a : zAv} : ∀ i c, zGl (zStL L k a) i = some c → (c = a) ∨ zGl L i = some c := by
  intro i c hc
  rcases zGl_set hc with ⟨-, h2⟩ | ⟨-, h2⟩
  · cases h2
  · rcases zGl_set h2 with ⟨-, h2⟩ | ⟨-, h2⟩
    · cases h2; exact Or.inl rfl
    · exact Or.inr (zGl_kl h2).1
theorem zSt_len {L : zLo} {k : Nat} {a : zAv} : (zSt L k a).length = L.length := by simp [zSt, zKl_len]
theorem zStL_len {L : zLo} {k : Nat} {a : zAv} : (zStL L k a).length = L.length := by simp [zStL, zKl_len]
theorem lvF.at {as : List Nat} {ls : Array Slot} {nL i : Nat} {L : zLo} {a : zAv} (h : lvF b as ls nL L) (e : zGl L i = some a) : ls[i]? = some (.val (cv b as a)) := h.2.2 i a e
/-- loads -/
theorem z_ld {pc len n : Nat} {L : zLo} {st : List zAv} {h : zH1} {gs : List Prop} {cf : zCf zH1} {ok : Nat → Bool} {as0 : List Nat}
    (row : ∀ (as : List Nat) (t : Nat) (x : Int) (ls : Array Slot) (H : Heap) (locs : List Loc) (rest : List Value) (k1 k2 : Nat), ok t = true → ls[n]? = some (.val (cv b as (t, x))) → W p l e R s m args below meth c H locs k1 k2 Q (F0 m (pc + len) ls (cv b as (t, x) :: rest)) → W p l e R s m args below meth c H locs k1 k2 Q (F0 m pc ls rest))
    (hE : zLd ok n len (pc, L, st, h) = some (gs, cf)) (kk : zGoal p l e R s m args below meth c Q D A H0 b mi n0 s0 as0 cf) : zGoal p l e R s m args below meth c Q D A H0 b mi n0 s0 as0 (pc, L, st, h) := by
  unfold zLd at hE
  simp only at hE
  split at hE
  · rename_i t x e1
    split at hE
    · rename_i e2
      cases hE
      intro as ca ls H locs hH hF hp
      exact row as t x ls H locs _ _ _ e2 (hF.1.at e1) (kk as ca ls H locs hH (hF.push (hF.2.2.1 n _ e1)) hp)
    · cases hE
  · cases hE
/-- a push -/
theorem z_pu {pc len : Nat} {L : zLo} {st : List zAv} {h : zH1} {gs : List Prop} {cf : zCf zH1} {v : zAv} {as0 : List Nat} (hv : ∀ n, wfv n (zmC mi = 16) v)
    (row : ∀ (as : List Nat) (ls : Array Slot) (H : Heap) (locs : List Loc) (rest : List Value) (k1 k2 : Nat), W p l e R s m args below meth c H locs k1 k2 Q (F0 m (pc + len) ls (cv b as v :: rest)) → W p l e R s m args below meth c H locs k1 k2 Q (F0 m pc ls rest))
    (hE : zPu v len (pc, L, st, h) = some (gs, cf)) (kk : zGoal p l e R s m args below meth c Q D A H0 b mi n0 s0 as0 cf) : zGoal p l e R s m args below meth c Q D A H0 b mi n0 s0 as0 (pc, L, st, h) := by
  cases hE
  intro as ca ls H locs hH hF hp
  exact row as ls H locs _ _ _ (kk as ca ls H locs hH (hF.push (hv _)) hp)
/-- stores -/
theorem z_sto {pc len n : Nat} {L : zLo} {st : List zAv} {h : zH1} {gs : List Prop} {cf : zCf zH1} {ok : Nat → Bool} {as0 : List Nat}
    (row : ∀ (as : List Nat) (t : Nat) (x : Int) (ls : Array Slot) (H : Heap) (locs : List Loc) (rest : List Value) (k1 k2 : Nat), ok t = true → n < zmMax mi → lv_has ls (zmMax mi) (zAs b as L) → (∀ ls' : Array Slot, lv_has ls' (zmMax mi) ((n, cv b as (t, x)) :: (zAs b as L).filter (fun q => !(q.1 == n) && !(q.1 + 1 == n && q.2.category == 2))) → W p l e R s m args below meth c H locs k1 k2 Q (F0 m (pc + len) ls' rest)) → W p l e R s m args below meth c H locs k1 k2 Q (F0 m pc ls (cv b as (t, x) :: rest)))
    (hE : zSto ok n len (pc, L, st, h) = some (gs, cf)) (kk : zGoal p l e R s m args below meth c Q D A H0 b mi n0 s0 as0 cf) : zGoal p l e R s m args below meth c Q D A H0 b mi n0 s0 as0 (pc, L, st, h) := by
  unfold zSto at hE
  simp only at hE
  split at hE
  · rename_i t x r
    split at hE
    · rename_i e2
      cases hE
      rw [Bool.and_eq_true] at e2
      intro as ca ls H locs hH hF hp
      have hn : n < zmMax mi := by rw [← hF.2.1]; exact Nat.le_of_ble_eq_true e2.2
      exact row as t x ls H locs _ _ _ e2.1 hn hF.1.has (fun ls' hl => kk as ca ls' H locs hH (hF.tl.sto (k := 0) hF.hd (lvF.sto hl) zSt_len zSt_or) hp)
    · cases hE
  · cases hE
theorem z_stoL {pc len n : Nat} {L : zLo} {st : List zAv} {h : zH1} {gs : List Prop} {cf : zCf zH1} {as0 : List Nat}
    (row : ∀ (as : List Nat) (x : Int) (ls : Array Slot) (H : Heap) (locs : List Loc) (rest : List Value) (k1 k2 : Nat), n + 1 < zmMax mi → lv_has ls (zmMax mi) (zAs b as L) → (∀ ls' : Array Slot, lv_has ls' (zmMax mi) ((n, .long (Int64.ofInt x)) :: (zAs b as L).filter (fun q => !(q.1 == n) && (!(q.1 == n + 1) && !(q.1 + 1 == n && q.2.category == 2)))) → W p l e R s m args below meth c H locs k1 k2 Q (F0 m (pc + len) ls' rest)) → W p l e R s m args below meth c H locs k1 k2 Q (F0 m pc ls (.long (Int64.ofInt x) :: rest)))
    (hE : zStoL n len (pc, L, st, h) = some (gs, cf)) (kk : zGoal p l e R s m args below meth c Q D A H0 b mi n0 s0 as0 cf) : zGoal p l e R s m args below meth c Q D A H0 b mi n0 s0 as0 (pc, L, st, h) := by
  unfold zStoL at hE
  simp only at hE
  split at hE
  · rename_i x r
    split at hE
    · rename_i e2
      cases hE
      intro as ca ls H locs hH hF hp
      have hn : n + 1 < zmMax mi := by rw [← hF.2.1]; exact Nat.le_of_ble_eq_true e2
      exact row as x ls H locs _ _ _ hn hF.1.has (fun ls' hl => kk as ca ls' H locs hH (hF.tl.sto (k := 0) hF.hd (lvF.stoL hl) zStL_len zStL_or) hp)
    · cases hE
  · cases hE
theorem z_b0 {pc : Nat} {L : zLo} {st : List zAv} {h : zH1} {gs : List Prop} {cf : zCf zH1} {f : Int → Int → Int} {as0 : List Nat} {F : Int32 → Int32 → Int32} (hf : ∀ x y, f x y = (F (Int32.ofInt x) (Int32.ofInt y)).toInt)
    (row : ∀ (x y : Int32) (ls : Array Slot) (H : Heap) (locs : List Loc) (rest : List Value) (k1 k2 : Nat), W p l e R s m args below meth c H locs k1 k2 Q (F0 m (pc + 1) ls (.int (F x y) :: rest)) → W p l e R s m args below meth c H locs k1 k2 Q (F0 m pc ls (.int y :: .int x :: rest)))
    (hE : zB0 f (pc, L, st, h) = some (gs, cf)) (kk : zGoal p l e R s m args below meth c Q D A H0 b mi n0 s0 as0 cf) : zGoal p l e R s m args below meth c Q D A H0 b mi n0 s0 as0 (pc, L, st, h) := by
  unfold zB0 at hE
  simp only at hE
  split at hE
  · rename_i y x r
    cases hE
    intro as ca ls H locs hH hF hp
    refine row (Int32.ofInt x) (Int32.ofInt y) ls H locs _ _ _ ?_
    have := kk as ca ls H locs hH (hF.tl.tl.push (a := (0, f x y)) (by rw [hf]; exact r32 _)) hp
    simpa only [List.map_cons, cv, hf, Int32.ofInt_toInt] using this
  · cases hE
theorem z_b0d {pc : Nat} {L : zLo} {st : List zAv} {h : zH1} {gs : List Prop} {cf : zCf zH1} {f : Int → Int → Int} {as0 : List Nat} {F : Int32 → Int32 → Int32} (hf : ∀ x y, f x y = (F (Int32.ofInt x) (Int32.ofInt y)).toInt)
    (row : ∀ (x y : Int32) (ls : Array Slot) (H : Heap) (locs : List Loc) (rest : List Value) (k1 k2 : Nat), ¬ y = 0 → W p l e R s m args below meth c H locs k1 k2 Q (F0 m (pc + 1) ls (.int (F x y) :: rest)) → W p l e R s m args below meth c H locs k1 k2 Q (F0 m pc ls (.int y :: .int x :: rest)))
    (hE : zB0d f (pc, L, st, h) = some (gs, cf)) (hg : zAll gs) (kk : zGoal p l e R s m args below meth c Q D A H0 b mi n0 s0 as0 cf) : zGoal p l e R s m args below meth c Q D A H0 b mi n0 s0 as0 (pc, L, st, h) := by
  unfold zB0d at hE
  simp only at hE
  split at hE
  · rename_i y x r
    cases hE
    intro as ca ls H locs hH hF hp
    have hy : ¬ Int32.ofInt y = 0 := by
      rw [← o32_0, o32_eq hF.hd r32_0]; exact hg.1
    refine row (Int32.ofInt x) (Int32.ofInt y) ls H locs _ _ _ hy ?_
    have := kk as ca ls H locs hH (hF.tl.tl.push (a := (0, f x y)) (by rw [hf]; exact r32 _)) hp
    simpa only [List.map_cons, cv, hf, Int32.ofInt_toInt] using this
  · cases hE
theorem z_b1 {pc : Nat} {L : zLo} {st : List zAv} {h : zH1} {gs : List Prop} {cf : zCf zH1} {f : Int → Int → Int} {as0 : List Nat} {F : Int64 → Int64 → Int64} (hf : ∀ x y, f x y = (F (Int64.ofInt x) (Int64.ofInt y)).toInt)
    (row : ∀ (x y : Int64) (ls : Array Slot) (H : Heap) (locs : List Loc) (rest : List Value) (k1 k2 : Nat), W p l e R s m args below meth c H locs k1 k2 Q (F0 m (pc + 1) ls (.long (F x y) :: rest)) → W p l e R s m args below meth c H locs k1 k2 Q (F0 m pc ls (.long y :: .long x :: rest)))
    (hE : zB1 f (pc, L, st, h) = some (gs, cf)) (kk : zGoal p l e R s m args below meth c Q D A H0 b mi n0 s0 as0 cf) : zGoal p l e R s m args below meth c Q D A H0 b mi n0 s0 as0 (pc, L, st, h) := by
  unfold zB1 at hE
  simp only at hE
  split at hE
  · rename_i y x r
    cases hE
    intro as ca ls H locs hH hF hp
    refine row (Int64.ofInt x) (Int64.ofInt y) ls H locs _ _ _ ?_
    have := kk as ca ls H locs hH (hF.tl.tl.push (a := (1, f x y)) (by rw [hf]; exact r64 _)) hp
    simpa only [List.map_cons, cv, hf, Int64.ofInt_toInt] using this
  · cases hE
theorem z_b1d {pc : Nat} {L : zLo} {st : List zAv} {h : zH1} {gs : List Prop} {cf : zCf zH1} {f : Int → Int → Int} {as0 : List Nat} {F : Int64 → Int64 → Int64} (hf : ∀ x y, f x y = (F (Int64.ofInt x) (Int64.ofInt y)).toInt)
    (row : ∀ (x y : Int64) (ls : Array Slot) (H : Heap) (locs : List Loc) (rest : List Value) (k1 k2 : Nat), ¬ y = 0 → W p l e R s m args below meth c H locs k1 k2 Q (F0 m (pc + 1) ls (.long (F x y) :: rest)) → W p l e R s m args below meth c H locs k1 k2 Q (F0 m pc ls (.long y :: .long x :: rest)))
    (hE : zB1d f (pc, L, st, h) = some (gs, cf)) (hg : zAll gs) (kk : zGoal p l e R s m args below meth c Q D A H0 b mi n0 s0 as0 cf) : zGoal p l e R s m args below meth c Q D A H0 b mi n0 s0 as0 (pc, L, st, h) := by
  unfold zB1d at hE
  simp only at hE
  split at hE
  · rename_i y x r
    cases hE
    intro as ca ls H locs hH hF hp
    have hy : ¬ Int64.ofInt y = 0 := by
      rw [show (0 : Int64) = Int64.ofInt 0 from rfl, o64_eq hF.hd ⟨by decide, by decide⟩]; exact hg.1
    refine row (Int64.ofInt x) (Int64.ofInt y) ls H locs _ _ _ hy ?_
    have := kk as ca ls H locs hH (hF.tl.tl.push (a := (1, f x y)) (by rw [hf]; exact r64 _)) hp
    simpa only [List.map_cons, cv, hf, Int64.ofInt_toInt] using this
  · cases hE
theorem z_b10 {pc : Nat} {L : zLo} {st : List zAv} {h : zH1} {gs : List Prop} {cf : zCf zH1} {f : Int → Int → Int} {as0 : List Nat} {F : Int64 → Int32 → Int64} (hf : ∀ x y, f x y = (F (Int64.ofInt x) (Int32.ofInt y)).toInt)
    (row : ∀ (x : Int64) (y : Int32) (ls : Array Slot) (H : Heap) (locs : List Loc) (rest : List Value) (k1 k2 : Nat), W p l e R s m args below meth c H locs k1 k2 Q (F0 m (pc + 1) ls (.long (F x y) :: rest)) → W p l e R s m args below meth c H locs k1 k2 Q (F0 m pc ls (.int y :: .long x :: rest)))
    (hE : zB10 f (pc, L, st, h) = some (gs, cf)) (kk : zGoal p l e R s m args below meth c Q D A H0 b mi n0 s0 as0 cf) : zGoal p l e R s m args below meth c Q D A H0 b mi n0 s0 as0 (pc, L, st, h) := by
  unfold zB10 at hE
  simp only at hE
  split at hE
  · rename_i y x r
    cases hE
    intro as ca ls H locs hH hF hp
    refine row (Int64.ofInt x) (Int32.ofInt y) ls H locs _ _ _ ?_
    have := kk as ca ls H locs hH (hF.tl.tl.push (a := (1, f x y)) (by rw [hf]; exact r64 _)) hp
    simpa only [List.map_cons, cv, hf, Int64.ofInt_toInt] using this
  · cases hE
end ZS
end
section
section ZS2
variable {p : Program} {l : Launch} {e : Env} {R : Room} {s : State} {m : MethodId} {args : Array Value} {below : List Frame} {meth : Method} {c : Code} {Q : State → Prop}
variable {D : va_G} {A : Nat → Prop} {H0 : Heap} {b Ls : Nat} {xs : Nat → Int32} {mi n0 s0 : Nat}
variable {pc : Nat} {L : zLo} {st : List zAv} {h : zH1} {gs : List Prop} {cf : zCf zH1} {as0 : List Nat}
theorem z_cp (row : ∀ (x y : Int64) (ls : Array Slot) (H : Heap) (locs : List Loc) (rest : List Value) (k1 k2 : Nat), W p l e R s m args below meth c H locs k1 k2 Q (F0 m (pc + 1) ls (.int (lg_cmp x y) :: rest)) → W p l e R s m args below meth c H locs k1 k2 Q (F0 m pc ls (.long y :: .long x :: rest)))
    (hE : zCp (pc, L, st, h) = some (gs, cf)) (kk : zGoal p l e R s m args below meth c Q D A H0 b mi n0 s0 as0 cf) : zGoal p l e R s m args below meth c Q D A H0 b mi n0 s0 as0 (pc, L, st, h) := by
  unfold zCp at hE
  simp only at hE
  split at hE
  · rename_i y x r
    cases hE
    intro as ca ls H locs hH hF hp
    refine row (Int64.ofInt x) (Int64.ofInt y) ls H locs _ _ _ ?_
    have hx : zR64 x := hF.tl.hd
    have hy : zR64 y := hF.hd
    have e1 : Int32.ofInt (qcmp x y) = lg_cmp (Int64.ofInt x) (Int64.ofInt y) := by
      unfold qcmp lg_cmp
      simp only [gt_iff_lt, o64_lt hy hx, o64_eq hx hy]
      repeat' split
      all_goals rfl
    have := kk as ca ls H locs hH (hF.tl.tl.push (a := (0, qcmp x y)) (by
      show zR32 _
      unfold qcmp
      repeat' split
      all_goals exact ⟨by decide, by decide⟩)) hp
    simpa only [List.map_cons, cv, e1] using this
  · cases hE
theorem z_u {u t : Nat} {f : Int → Int} (hf : ∀ n x, wfv n (zmC mi = 16) (u, x) → wfv n (zmC mi = 16) (t, f x))
    (row : ∀ (n : Nat) (as : List Nat) (x : Int) (ls : Array Slot) (H : Heap) (locs : List Loc) (rest : List Value) (k1 k2 : Nat), wfv n (zmC mi = 16) (u, x) → W p l e R s m args below meth c H locs k1 k2 Q (F0 m (pc + 1) ls (cv b as (t, f x) :: rest)) → W p l e R s m args below meth c H locs k1 k2 Q (F0 m pc ls (cv b as (u, x) :: rest)))
    (hE : zU u t f (pc, L, st, h) = some (gs, cf)) (kk : zGoal p l e R s m args below meth c Q D A H0 b mi n0 s0 as0 cf) : zGoal p l e R s m args below meth c Q D A H0 b mi n0 s0 as0 (pc, L, st, h) := by
  unfold zU at hE
  simp only at hE
  split at hE
  · rename_i u' x r
    split at hE
    · rename_i e1
      cases hE
      have e2 := Nat.eq_of_beq_eq_true e1
      subst e2
      intro as ca ls H locs hH hF hp
      exact row _ as x ls H locs _ _ _ hF.hd (kk as ca ls H locs hH (hF.tl.push (hf _ x hF.hd)) hp)
    · cases hE
  · cases hE
theorem z_dup (row : ∀ (va : Value) (ls : Array Slot) (H : Heap) (locs : List Loc) (rest : List Value) (k1 k2 : Nat), va.category = 1 → W p l e R s m args below meth c H locs k1 k2 Q (F0 m (pc + 1) ls (va :: va :: rest)) → W p l e R s m args below meth c H locs k1 k2 Q (F0 m pc ls (va :: rest)))
    (hE : zDup (pc, L, st, h) = some (gs, cf)) (kk : zGoal p l e R s m args below meth c Q D A H0 b mi n0 s0 as0 cf) : zGoal p l e R s m args below meth c Q D A H0 b mi n0 s0 as0 (pc, L, st, h) := by
  unfold zDup at hE
  simp only at hE
  split at hE
  · rename_i t x r
    split at hE
    · cases hE
    · rename_i e1
      cases hE
      intro as ca ls H locs hH hF hp
      exact row _ ls H locs _ _ _ (cv_cat1 (Nat.ne_of_beq_eq_false e1)) (kk as ca ls H locs hH (hF.push hF.hd) hp)
  · cases hE
theorem z_pop (row : ∀ (va : Value) (ls : Array Slot) (H : Heap) (locs : List Loc) (rest : List Value) (k1 k2 : Nat), va.category = 1 → W p l e R s m args below meth c H locs k1 k2 Q (F0 m (pc + 1) ls (rest)) → W p l e R s m args below meth c H locs k1 k2 Q (F0 m pc ls (va :: rest)))
    (hE : zPop (pc, L, st, h) = some (gs, cf)) (kk : zGoal p l e R s m args below meth c Q D A H0 b mi n0 s0 as0 cf) : zGoal p l e R s m args below meth c Q D A H0 b mi n0 s0 as0 (pc, L, st, h) := by
  unfold zPop at hE
  simp only at hE
  split at hE
  · rename_i t x r
    split at hE
    · cases hE
    · rename_i e1
      cases hE
      intro as ca ls H locs hH hF hp
      exact row _ ls H locs _ _ _ (cv_cat1 (Nat.ne_of_beq_eq_false e1)) (kk as ca ls H locs hH hF.tl hp)
  · cases hE
theorem z_dup2 (row : ∀ (va vb : Value) (ls : Array Slot) (H : Heap) (locs : List Loc) (rest : List Value) (k1 k2 : Nat), va.category = 1 → vb.category = 1 → W p l e R s m args below meth c H locs k1 k2 Q (F0 m (pc + 1) ls (va :: vb :: va :: vb :: rest)) → W p l e R s m args below meth c H locs k1 k2 Q (F0 m pc ls (va :: vb :: rest)))
    (hE : zDup2 (pc, L, st, h) = some (gs, cf)) (kk : zGoal p l e R s m args below meth c Q D A H0 b mi n0 s0 as0 cf) : zGoal p l e R s m args below meth c Q D A H0 b mi n0 s0 as0 (pc, L, st, h) := by
  unfold zDup2 at hE
  simp only at hE
  split at hE
  · rename_i t x u y r
    split at hE
    · cases hE
    · rename_i e1
      cases hE
      rw [Bool.or_eq_false_iff] at e1
      intro as ca ls H locs hH hF hp
      exact row _ _ ls H locs _ _ _ (cv_cat1 (Nat.ne_of_beq_eq_false e1.1)) (cv_cat1 (Nat.ne_of_beq_eq_false e1.2)) (kk as ca ls H locs hH ((hF.push hF.tl.hd).push hF.hd) hp)
  · cases hE
theorem zJ_spec {off : Int} {pc t : Nat} (h : zJ off pc = some t) : (pc : Int) + off = (t : Int) := by
  unfold zJ at h
  split at h
  · rename_i e1
    cases h
    have := of_decide_eq_true e1
    omega
  · cases h
theorem z_go {off : Int} (row : ∀ (tgt : Nat) (ls : Array Slot) (H : Heap) (locs : List Loc) (rest : List Value) (k1 k2 : Nat), (pc : Int) + off = (tgt : Int) → W p l e R s m args below meth c H locs k1 k2 Q (F0 m tgt ls rest) → W p l e R s m args below meth c H locs k1 k2 Q (F0 m pc ls rest))
    (hE : zGo off (pc, L, st, h) = some (gs, cf)) (kk : zGoal p l e R s m args below meth c Q D A H0 b mi n0 s0 as0 cf) : zGoal p l e R s m args below meth c Q D A H0 b mi n0 s0 as0 (pc, L, st, h) := by
  unfold zGo at hE
  simp only at hE
  split at hE
  · rename_i t e1
    cases hE
    intro as ca ls H locs hH hF hp
    exact row _ ls H locs _ _ _ (zJ_spec e1) (kk as ca ls H locs hH hF hp)
  · cases hE
/-- a branch on a condition over the stack's top -/
theorem z_br {g : Prop} {off d : Int} {r : List zAv}
    (hE : zBr g off d r (pc, L, st, h) = some (gs, cf)) (hg : zAll gs) (kk : zGoal p l e R s m args below meth c Q D A H0 b mi n0 s0 as0 cf) :
    (∃ t : Nat, (pc : Int) + off = (t : Int) ∧ g ∧ zGoal p l e R s m args below meth c Q D A H0 b mi n0 s0 as0 (t, L, r, h)) ∨ (∃ t : Nat, (pc : Int) + off = (t : Int) ∧ ¬ g ∧ zGoal p l e R s m args below meth c Q D A H0 b mi n0 s0 as0 (pc + 3, L, r, h)) := by
  unfold zBr at hE
  simp only at hE
  split at hE
  · rename_i t e1
    split at hE
    · cases hE
      exact Or.inl ⟨t, zJ_spec e1, hg.1, kk⟩
    · cases hE
      exact Or.inr ⟨t, zJ_spec e1, hg.1, kk⟩
  · cases hE
theorem z_if {k : ClassFile.Cond} {off d : Int} {P : Int32 → Prop} (hP : ∀ x, zR32 x → (P (Int32.ofInt x) ↔ zCo k x 0))
    (row : ∀ (tgt : Nat) (x : Int32) (ls : Array Slot) (H : Heap) (locs : List Loc) (rest : List Value) (k1 k2 : Nat), (pc : Int) + off = (tgt : Int) → (P x → W p l e R s m args below meth c H locs k1 k2 Q (F0 m tgt ls rest)) → (¬ P x → W p l e R s m args below meth c H locs k1 k2 Q (F0 m (pc + 3) ls rest)) → W p l e R s m args below meth c H locs k1 k2 Q (F0 m pc ls (.int x :: rest)))
    (hE : zIf k off d (pc, L, st, h) = some (gs, cf)) (hg : zAll gs) (kk : zGoal p l e R s m args below meth c Q D A H0 b mi n0 s0 as0 cf) : zGoal p l e R s m args below meth c Q D A H0 b mi n0 s0 as0 (pc, L, st, h) := by
  unfold zIf at hE
  simp only at hE
  split at hE
  · rename_i x r
    intro as ca ls H locs hH hF hp
    rcases z_br hE hg kk with ⟨t, e1, e2, k1⟩ | ⟨t, e1, e2, k1⟩
    · exact row t (Int32.ofInt x) ls H locs _ _ _ e1 (fun _ => k1 as ca ls H locs hH hF.tl hp) (fun q => absurd ((hP x hF.hd).mpr e2) q)
    · exact row t (Int32.ofInt x) ls H locs _ _ _ e1 (fun q => absurd ((hP x hF.hd).mp q) e2) (fun _ => k1 as ca ls H locs hH hF.tl hp)
  · cases hE
theorem z_ic {k : ClassFile.Cond} {off d : Int} {P : Int32 → Int32 → Prop} (hP : ∀ x y, zR32 x → zR32 y → (P (Int32.ofInt x) (Int32.ofInt y) ↔ zCo k x y))
    (row : ∀ (tgt : Nat) (x y : Int32) (ls : Array Slot) (H : Heap) (locs : List Loc) (rest : List Value) (k1 k2 : Nat), (pc : Int) + off = (tgt : Int) → (P x y → W p l e R s m args below meth c H locs k1 k2 Q (F0 m tgt ls rest)) → (¬ P x y → W p l e R s m args below meth c H locs k1 k2 Q (F0 m (pc + 3) ls rest)) → W p l e R s m args below meth c H locs k1 k2 Q (F0 m pc ls (.int y :: .int x :: rest)))
    (hE : zIc k off d (pc, L, st, h) = some (gs, cf)) (hg : zAll gs) (kk : zGoal p l e R s m args below meth c Q D A H0 b mi n0 s0 as0 cf) : zGoal p l e R s m args below meth c Q D A H0 b mi n0 s0 as0 (pc, L, st, h) := by
  unfold zIc at hE
  simp only at hE
  split at hE
  · rename_i y x r
    intro as ca ls H locs hH hF hp
    have hx : zR32 x := hF.tl.hd
    have hy : zR32 y := hF.hd
    rcases z_br hE hg kk with ⟨t, e1, e2, k1⟩ | ⟨t, e1, e2, k1⟩
    · exact row t (Int32.ofInt x) (Int32.ofInt y) ls H locs _ _ _ e1 (fun _ => k1 as ca ls H locs hH hF.tl.tl hp) (fun q => absurd ((hP x y hx hy).mpr e2) q)
    · exact row t (Int32.ofInt x) (Int32.ofInt y) ls H locs _ _ _ e1 (fun q => absurd ((hP x y hx hy).mp q) e2) (fun _ => k1 as ca ls H locs hH hF.tl.tl hp)
  · cases hE
theorem z_ii {n : Nat} {k : Int}
    (row : ∀ (as : List Nat) (x : Int) (j : Nat) (ls : Array Slot) (H : Heap) (locs : List Loc) (rest : List Value) (k1 k2 : Nat), n < zmMax mi → lv_has ls (zmMax mi) (zAs b as L) → (zAs b as L)[j]? = some (n, .int (Int32.ofInt x)) → (∀ ls' : Array Slot, lv_has ls' (zmMax mi) ((n, cv b as (0, wadd x k)) :: (zAs b as L).filter (fun q => !(q.1 == n) && !(q.1 + 1 == n && q.2.category == 2))) → W p l e R s m args below meth c H locs k1 k2 Q (F0 m (pc + 3) ls' rest)) → W p l e R s m args below meth c H locs k1 k2 Q (F0 m pc ls rest))
    (hE : zIi n k (pc, L, st, h) = some (gs, cf)) (kk : zGoal p l e R s m args below meth c Q D A H0 b mi n0 s0 as0 cf) : zGoal p l e R s m args below meth c Q D A H0 b mi n0 s0 as0 (pc, L, st, h) := by
  unfold zIi at hE
  simp only at hE
  split at hE
  · rename_i x e1
    cases hE
    intro as ca ls H locs hH hF hp
    have hn : n < zmMax mi := by rw [← hF.2.1]; exact zGl_lt e1
    obtain ⟨j, hj⟩ := List.getElem?_of_mem (zAs_in (b := b) (as := as) e1)
    exact row as x j ls H locs _ _ _ hn hF.1.has hj (fun ls' hl => kk as ca ls' H locs hH (hF.sto (k := 0) (a := (0, wadd x k)) (r32 _) (lvF.sto hl) zSt_len zSt_or) hp)
  · cases hE
theorem z_ts {dflt lo hi d : Int} {offs : Array Int} {len : Nat}
    (rowO : ∀ (tgt : Nat) (x : Int32) (ls : Array Slot) (H : Heap) (locs : List Loc) (rest : List Value) (k1 k2 : Nat), x.toInt < lo ∨ hi < x.toInt → (pc : Int) + dflt = (tgt : Int) → W p l e R s m args below meth c H locs k1 k2 Q (F0 m tgt ls rest) → W p l e R s m args below meth c H locs k1 k2 Q (F0 m pc ls (.int x :: rest)))
    (rowI : ∀ (tgt : Nat) (off : Int) (x : Int32) (ls : Array Slot) (H : Heap) (locs : List Loc) (rest : List Value) (k1 k2 : Nat), ¬ x.toInt < lo → ¬ hi < x.toInt → offs[(x.toInt - lo).toNat]? = some off → (pc : Int) + off = (tgt : Int) → W p l e R s m args below meth c H locs k1 k2 Q (F0 m tgt ls rest) → W p l e R s m args below meth c H locs k1 k2 Q (F0 m pc ls (.int x :: rest)))
    (hE : zTs dflt lo hi offs d (pc, L, st, h) = some (gs, cf)) (hg : zAll gs) (kk : zGoal p l e R s m args below meth c Q D A H0 b mi n0 s0 as0 cf) : zGoal p l e R s m args below meth c Q D A H0 b mi n0 s0 as0 (pc, L, st, h) := by
  unfold zTs at hE
  simp only at hE
  split at hE
  · rename_i x r
    intro as ca ls H locs hH hF hp
    have hx : zR32 x := hF.hd
    split at hE
    · rename_i e1
      rw [Bool.and_eq_true, decide_eq_true_eq, decide_eq_true_eq] at e1
      split at hE
      · rename_i off e2
        split at hE
        · rename_i t e3
          cases hE
          have hxd : x = d := hg.1
          subst hxd
          refine rowI t off (Int32.ofInt x) ls H locs _ _ _ (by rw [o32 hx]; omega) (by rw [o32 hx]; omega) (by rw [o32 hx]; rw [← Array.getElem?_toList]; exact e2) (zJ_spec e3) (kk as ca ls H locs hH hF.tl hp)
        · cases hE
      · cases hE
    · split at hE
      · rename_i t e3
        cases hE
        exact rowO t (Int32.ofInt x) ls H locs _ _ _ (by rw [o32 hx]; exact hg.1) (zJ_spec e3) (kk as ca ls H locs hH hF.tl hp)
      · cases hE
  · cases hE
theorem zLk_off {ps : List (Int × Int)} {d o : Int} (dflt : Int) (h : zLk ps d = some o) : Op.lookupswitch.offset ps dflt d = o := by
  induction ps with
  | nil => cases h
  | cons q r ih =>
    obtain ⟨k, o'⟩ := q
    unfold zLk at h
    split at h
    · rename_i e1
      cases h
      have := of_decide_eq_true e1
      subst this
      simp [Op.lookupswitch.offset]
    · rename_i e1
      have hk := of_decide_eq_false e1
      have := ih h
      simpa [Op.lookupswitch.offset, hk] using this
theorem zLk_dflt {ps : List (Int × Int)} {x : Int} (dflt : Int) (h : zAll (ps.map (fun q => ¬ x = q.1))) : Op.lookupswitch.offset ps dflt x = dflt := by
  induction ps with
  | nil => rfl
  | cons q r ih =>
    obtain ⟨k, o'⟩ := q
    have h1 : ¬ x = k := h.1
    have := ih h.2
    have hk : ¬ k = x := fun q => h1 q.symm
    simpa [Op.lookupswitch.offset, hk] using this
theorem z_ls {dflt d : Int} {ps : Array (Int × Int)}
    (row : ∀ (tgt : Nat) (off : Int) (x : Int32) (ls : Array Slot) (H : Heap) (locs : List Loc) (rest : List Value) (k1 k2 : Nat), (ps.toList.zip (ps.toList.drop 1)).all (fun (a, next) => a.1 < next.1) = true → Op.lookupswitch.offset ps.toList dflt x.toInt = off → (pc : Int) + off = (tgt : Int) → W p l e R s m args below meth c H locs k1 k2 Q (F0 m tgt ls rest) → W p l e R s m args below meth c H locs k1 k2 Q (F0 m pc ls (.int x :: rest)))
    (hE : zLs dflt ps d (pc, L, st, h) = some (gs, cf)) (hg : zAll gs) (kk : zGoal p l e R s m args below meth c Q D A H0 b mi n0 s0 as0 cf) : zGoal p l e R s m args below meth c Q D A H0 b mi n0 s0 as0 (pc, L, st, h) := by
  unfold zLs at hE
  simp only at hE
  split at hE
  · rename_i x r
    intro as ca ls H locs hH hF hp
    have hx : zR32 x := hF.hd
    split at hE
    · rename_i e0
      split at hE
      · rename_i off e1
        split at hE
        · rename_i t e3
          cases hE
          have hxd : x = d := hg.1
          subst hxd
          exact row t off (Int32.ofInt x) ls H locs _ _ _ e0 (by rw [o32 hx]; exact zLk_off dflt e1) (zJ_spec e3) (kk as ca ls H locs hH hF.tl hp)
        · cases hE
      · split at hE
        · rename_i t e3
          cases hE
          exact row t dflt (Int32.ofInt x) ls H locs _ _ _ e0 (by rw [o32 hx]; exact zLk_dflt dflt hg) (zJ_spec e3) (kk as ca ls H locs hH hF.tl hp)
        · cases hE
    · cases hE
  · cases hE
end ZS2
end
section
/-! The heap's instructions. -/
theorem zb20 {k : Nat} (h : k < 20) : Nat.ble 20 k = false := by
  cases e : Nat.ble 20 k with
  | false => rfl
  | true => have := Nat.le_of_ble_eq_true e; omega
theorem zEnt_o {as : List Nat} {cA : ClassId} {k n : Nat} {f : Nat → Int} (h : k < 20) : zEnt as cA (k, n, f) = .inr (k, (List.range n).map (fun j => zFv as (zTag k j) (f j))) := by
  simp only [zEnt, zb20 h]
theorem zAny_field {cls idx ci k : Nat} (h : zLinkF cls idx ci k = true) : Cond.fieldLink (zOw cls) idx (zTX ci k).1 (zTX ci k).2.1 (zTX ci k).2.2.1 ∈ zGW ∧ k < zNf ci ∧ ci < 13 := by
  obtain ⟨r, hr, h1⟩ := List.any_eq_true.mp h
  simp only [Bool.and_eq_true] at h1
  obtain ⟨⟨⟨a1, a2⟩, a3⟩, a4⟩ := h1
  have e1 := Nat.eq_of_beq_eq_true a1; have e2 := Nat.eq_of_beq_eq_true a2; have e3 := Nat.eq_of_beq_eq_true a3; have e4 := Nat.eq_of_beq_eq_true a4
  have hl := zL_lt
  simp only [Bool.and_eq_true] at hl
  have h2 := List.all_eq_true.mp hl.1.1.1.1.1.1.1 r hr
  rw [Bool.and_eq_true] at h2
  have h3 := Nat.le_of_ble_eq_true h2.1; have h4 := Nat.le_of_ble_eq_true h2.2
  have h5 := zMap zLF_at r hr
  have h6 : vwCl[r.2.2.1]? = some (zOw r.2.2.1, zTX r.2.2.1, zNf r.2.2.1) := zCl_at h4
  rw [h6] at h5
  simp only at h5
  rw [e1, e2, e3, e4] at h5
  rw [e3] at h3 h4
  rw [e4] at h3
  exact ⟨zAt h5 rfl, h3, h4⟩
def zTyB (ty : FieldType) : Bool := match ty with
  | .int => true
  | .boolean => true
  | .long => true
  | .object _ => true
  | .array _ => true
  | _ => false
theorem zTy_all : ((List.range 13).all (fun ci => (List.range (zNf ci)).all (fun k => zTyB (zTy ci k)))) = true := by decide +kernel
theorem zTy_ok {ci k : Nat} (h : ci < 13) (hk : k < zNf ci) : zTyB (zTy ci k) = true := List.all_eq_true.mp (List.all_eq_true.mp zTy_all ci (List.mem_range.mpr h)) k (List.mem_range.mpr hk)
set_option maxRecDepth 20000 in
theorem zDecl_all : ((List.range 13).all (fun ci => (List.range (zNf ci)).all (fun k => decide ((zTX ci k).1 = zOw ci)))) = true := by decide +kernel
theorem zFits {b n : Nat} {as : List Nat} {sc : Prop} {ty : FieldType} {v : zAv} (hb : zTyB ty = true) (hv : wfv n sc v) (ht : v.1 = zTg ty) (hz : ty = .boolean → v.2 = 0 ∨ v.2 = 1) : narrow ty (cv b as v) = cv b as v ∧ fits ty (cv b as v) = true := by
  obtain ⟨t, x⟩ := v
  simp only at ht
  cases ty with
  | int => subst ht; exact ⟨rfl, rfl⟩
  | boolean =>
    subst ht
    rcases hz rfl with h | h
    · simp only at h
      subst h
      exact ⟨show narrow .boolean (.int (Int32.ofInt 0)) = .int (Int32.ofInt 0) by decide, show fits .boolean (.int (Int32.ofInt 0)) = true by decide⟩
    · simp only at h
      subst h
      exact ⟨show narrow .boolean (.int (Int32.ofInt 1)) = .int (Int32.ofInt 1) by decide, show fits .boolean (.int (Int32.ofInt 1)) = true by decide⟩
  | long => subst ht; exact ⟨rfl, rfl⟩
  | object _ => subst ht; exact ⟨rfl, rfl⟩
  | array _ => subst ht; exact ⟨rfl, rfl⟩
  | _ => cases hb
theorem zFv_cv {b : Nat} {as : List Nat} {t : Nat} {x : Int} (ht : t ≤ 2) (h : t = 2 → 0 ≤ x) : zFv as t x = cv b as (t, x) := by
  have ht : t = 0 ∨ t = 1 ∨ t = 2 := by omega
  rcases ht with rfl | rfl | rfl
  · rfl
  · rfl
  · show (if x < 0 then _ else _) = _
    rw [if_neg (by have := h rfl; omega)]
    rfl
theorem zTag_le {ci k : Nat} : zTag ci k ≤ 2 := by
  unfold zTag zTg
  split <;> omega
theorem wfv_of {n t : Nat} {sc : Prop} {x : Int} (ht : t ≤ 2) (h : wff n t x) (h2 : t = 2 → 0 ≤ x) : wfv n sc (t, x) := by
  have ht : t = 0 ∨ t = 1 ∨ t = 2 := by omega
  rcases ht with rfl | rfl | rfl
  · exact h
  · exact h
  · exact ⟨h2 rfl, h⟩
theorem wff_of {n t : Nat} {sc : Prop} {x : Int} (ht : t ≤ 2) (h : wfv n sc (t, x)) : wff n t x := by
  have ht : t = 0 ∨ t = 1 ∨ t = 2 := by omega
  rcases ht with rfl | rfl | rfl
  · exact h
  · exact h
  · exact h.2
theorem zSl_set {h : zH1} {k : Nat} {c c' : zCe} (h1 : h[k]? = some c) (h2 : c'.2.1 = c.2.1) : zSl (h.set k c') = zSl h := by
  unfold zSl
  congr 1
  apply List.ext_getElem?
  intro i
  rw [List.getElem?_map, List.getElem?_map, List.getElem?_set]
  by_cases hi : k = i
  · subst hi
    obtain ⟨hl, -⟩ := List.getElem?_eq_some_iff.mp h1
    rw [if_pos rfl, if_pos hl, h1]
    simp [h2]
  · rw [if_neg hi]
section ZH
variable {p : Program} {l : Launch} {e : Env} {R : Room} {s : State} {m : MethodId} {args : Array Value} {below : List Frame} {meth : Method} {c : Code} {Q : State → Prop}
variable {D : va_G} {A : Nat → Prop} {H0 : Heap} {b Ls : Nat} {xs : Nat → Int32} {mi n0 s0 : Nat}
variable {pc : Nat} {L : zLo} {st : List zAv} {h : zH1} {gs : List Prop} {cf : zCf zH1} {as0 : List Nat}
theorem zHR.set {as : List Nat} {ca : Nat → ClassId} {h : zH1} {H H1 : Heap} {locs locs1 : List Loc} {k : Nat} {cl cl' : zCe} (hH : zHR s D A H0 as ca h H locs) (hk : h[k]? = some cl) (h1 : cl'.1 = cl.1) (hw : wfc h.length cl')
    (hP : va_P D vwCl (zWs as ca (h.set k cl')) H1) (hD : va_D A (zWs as ca (h.set k cl'))) (hS : va_S A H0 H1 locs1) : zHR s D A H0 as ca (h.set k cl') H1 locs1 := by
  obtain ⟨a1, ⟨tys, a2, a3⟩, -, -, -, a6⟩ := hH
  refine ⟨by rw [List.length_set]; exact a1, ⟨tys, a2, fun j x hj hx => ?_⟩, hP, hD, hS, fun j x hj => ?_⟩
  · rw [List.getElem?_set] at hj
    split at hj
    · rename_i e1
      subst e1
      split at hj
      · cases hj
        rw [h1] at hx ⊢
        exact a3 k cl hk hx
      · cases hj
    · exact a3 j x hj hx
  · rw [List.length_set]
    rw [List.getElem?_set] at hj
    split at hj
    · split at hj
      · cases hj; exact hw
      · cases hj
    · exact a6 j x hj
theorem zFR.len {sc : Prop} {as : List Nat} {n n' nL : Nat} {L : zLo} {st : List zAv} {ls : Array Slot} (h : zFR b sc as n L st ls nL) (e : n' = n) : zFR b sc as n' L st ls nL := e ▸ h
theorem z_getf {x len : Nat} {ax : zAx} {st' : List zAv} {h' : zH1} (X : zCx p R s m args meth c A H0 b Ls xs mi) (hdec : decode (zmCode mi) pc = .ok (.getfield x, 3)) (hax : zLinkF (zmC mi) x ax.1 ax.2.1 = true)
    (hE : zHop1 Ls (fun j => (xs j).toInt) (.getfield x) ax st h = some (gs, st', h')) (hg : zAll gs) (kk : zGoal p l e R s m args below meth c Q D A H0 b mi n0 s0 as0 (pc + 3, L, st', h')) : zGoal p l e R s m args below meth c Q D A H0 b mi n0 s0 as0 (pc, L, st, h) := by
  obtain ⟨hx, hb, hml, hown, hts, -⟩ := X
  obtain ⟨hl, hk, hci⟩ := zAny_field hax
  simp only [zHop1] at hE
  split at hE
  · rename_i o r
    split at hE
    · rename_i kd n f e1
      split at hE
      · rename_i e2
        have e2 := Nat.eq_of_beq_eq_true e2
        subst e2
        have key : (zTag ax.1 ax.2.1 = 2 → 0 ≤ f ax.2.1) ∧ st' = (zTag ax.1 ax.2.1, f ax.2.1) :: r ∧ h' = h := by
          split at hE
          · rename_i e3
            cases hE
            exact ⟨fun _ => hg.1, by rw [Nat.eq_of_beq_eq_true e3], rfl⟩
          · rename_i e3
            cases hE
            exact ⟨fun q => absurd q (Nat.ne_of_beq_eq_false e3), rfl, rfl⟩
        obtain ⟨k1, rfl, rfl⟩ := key
        intro as ca ls H locs hH hF hp
        obtain ⟨a1, ⟨tys, a2, a3⟩, a4, a5, a6, a7⟩ := id hH
        have hw := a7 _ _ e1
        have hn : n = zNf ax.1 ∧ ∀ k, k < n → wff h'.length (zTag ax.1 k) (f k) := by
          rcases hw with ⟨q1, q2, q3⟩ | ⟨q1, -⟩
          · exact ⟨q2, q3⟩
          · simp only at q1; omega
        have he := zWs_at (as := as) (ca := ca) e1
        rw [zEnt_o (by omega)] at he
        refine va_get hx hb hts (zCl_in hci) hown a2 a4 o.toNat he (zCl_at hci) ax.2.1 hk (hts _ hl) (fun _ q => q) (v := cv b as (zTag ax.1 ax.2.1, f ax.2.1)) ?_ hdec ?_
        · rw [List.getElem?_map, List.getElem?_range (by omega)]
          exact congrArg some (zFv_cv zTag_le k1)
        · exact kk as ca ls H locs hH (hF.tl.push (wfv_of zTag_le (hn.2 _ (by omega)) k1)) hp
      · cases hE
    · cases hE
  · cases hE
theorem zUp_map {as : List Nat} {ci n k : Nat} {f : Nat → Int} {v : Int} {w : Value} (hw : zFv as (zTag ci k) v = w) : (List.range n).map (fun j => zFv as (zTag ci j) (zUp f k v j)) = ((List.range n).map (fun j => zFv as (zTag ci j) (f j))).set k w := by
  apply List.ext_getElem?
  intro i
  rw [List.getElem?_set, List.getElem?_map]
  by_cases hi : k = i
  · subst hi
    rw [if_pos rfl]
    by_cases hl : k < n
    · rw [List.getElem?_range hl]
      simp [zUp, hw, hl]
    · rw [List.getElem?_eq_none (by simpa using hl)]
      simp [hl]
  · rw [if_neg hi, List.getElem?_map]
    by_cases hl : i < n
    · rw [List.getElem?_range hl]
      have hi2 : ¬ i = k := fun q => hi q.symm
      simp [zUp, hi2]
    · rw [List.getElem?_eq_none (by simpa using hl)]
      rfl
theorem z_putf {x : Nat} {ax : zAx} {st' : List zAv} {h' : zH1} (X : zCx p R s m args meth c A H0 b Ls xs mi) (hdec : decode (zmCode mi) pc = .ok (.putfield x, 3)) (hax : (zLinkF (zmC mi) x ax.1 ax.2.1 && (!(zTX ax.1 ax.2.1).2.2.2 || (zIsI mi && Nat.beq (zmC mi) ax.1))) = true)
    (hE : zHop1 Ls (fun j => (xs j).toInt) (.putfield x) ax st h = some (gs, st', h')) (hg : zAll gs) (kk : zGoal p l e R s m args below meth c Q D A H0 b mi n0 s0 as0 (pc + 3, L, st', h')) : zGoal p l e R s m args below meth c Q D A H0 b mi n0 s0 as0 (pc, L, st, h) := by
  obtain ⟨hx, hb, hml, hown, hts, -, -, hnm, -⟩ := X
  rw [Bool.and_eq_true] at hax
  obtain ⟨hl, hk, hci⟩ := zAny_field hax.1
  simp only [zHop1] at hE
  split at hE
  · rename_i t v o r
    split at hE
    · rename_i kd n f e1
      split at hE
      · rename_i e2
        rw [Bool.and_eq_true] at e2
        have e3 := Nat.eq_of_beq_eq_true e2.1
        have e4 := Nat.eq_of_beq_eq_true e2.2
        clear e2
        subst e3
        subst e4
        cases hE
        have hz : zTy ax.1 ax.2.1 = .boolean → v = 0 ∨ v = 1 := by
          intro q
          have hzb : zIsB ax.1 ax.2.1 = true := by unfold zIsB; rw [q]
          rw [hzb] at hg
          exact hg.1
        intro as ca ls H locs hH hF hp
        obtain ⟨a1, ⟨tys, a2, a3⟩, a4, a5, a6, a7⟩ := id hH
        have hw := a7 _ _ e1
        have hn : n = zNf ax.1 ∧ ∀ k, k < n → wff h.length (zTag ax.1 k) (f k) := by
          rcases hw with ⟨q1, q2, q3⟩ | ⟨q1, -⟩
          · exact ⟨q2, q3⟩
          · simp only at q1; omega
        have he := zWs_at (as := as) (ca := ca) e1
        rw [zEnt_o (by omega)] at he
        have hv : wfv h.length (zmC mi = 16) (zTag ax.1 ax.2.1, v) := hF.hd
        obtain ⟨f1, f2⟩ := zFits (b := b) (as := as) (zTy_ok hci hk) hv rfl hz
        have hfv : zFv as (zTag ax.1 ax.2.1) v = cv b as (zTag ax.1 ax.2.1, v) := zFv_cv zTag_le (fun q => by rw [q] at hv; exact hv.1)
        have hcl : wfc h.length (ax.1, n, zUp f ax.2.1 v) := Or.inl ⟨hci, hn.1, fun k hk2 => by
          show wff _ _ (zUp f ax.2.1 v k)
          unfold zUp
          split
          · rename_i q; subst q; exact wff_of zTag_le hv
          · exact hn.2 k hk2⟩
        have hset : (zWs as ca h).set o.toNat (as.getD o.toNat 0, .inr (ax.1, ((List.range n).map (fun j => zFv as (zTag ax.1 j) (f j))).set ax.2.1 (cv b as (zTag ax.1 ax.2.1, v)))) = zWs as ca (h.set o.toNat (ax.1, n, zUp f ax.2.1 v)) := by
          rw [← zWs_set, zEnt_o (by omega), zUp_map hfv]
        have go : ∀ (H1 : Heap) (locs1 : List Loc), va_P D vwCl (zWs as ca (h.set o.toNat (ax.1, n, zUp f ax.2.1 v))) H1 → va_D A (zWs as ca (h.set o.toNat (ax.1, n, zUp f ax.2.1 v))) → va_S A H0 H1 locs1 → W p l e R s m args below meth c H1 locs1 (h.length - n0) (zSl h - s0) Q (F0 m (pc + 3) ls (st'.map (cv b as))) := by
          intro H1 locs1 b1 b2 b3
          have := kk as ca ls H1 locs1 (hH.set e1 rfl hcl b1 b2 b3) (by rw [List.length_set]; exact hF.tl.tl) hp
          simp only [List.length_set] at this
          rw [zSl_set (c' := (ax.1, n, zUp f ax.2.1 v)) e1 rfl] at this
          exact this
        by_cases hfin : (zTX ax.1 ax.2.1).2.2.2 = true
        · have h2 := hax.2
          rw [hfin] at h2
          simp only [Bool.not_true, Bool.false_or, Bool.and_eq_true] at h2
          have hcc := Nat.eq_of_beq_eq_true h2.2
          have hini : meth.name = "<init>" := by rw [hnm]; exact of_decide_eq_true h2.1
          have hdecl : (zTX ax.1 ax.2.1).1 = zOw (zmC mi) := by
            rw [hcc]
            have := zDecl_all
            exact of_decide_eq_true (List.all_eq_true.mp (List.all_eq_true.mp this ax.1 (List.mem_range.mpr hci)) ax.2.1 (List.mem_range.mpr hk))
          refine va_putF hx hb hts (zCl_in hci) (zTy ax.1) (zCl_ty hci) (zCl_nm hci) hown a2 a4 a5 a6 o.toNat he (zCl_at hci) ax.2.1 hk (hts _ hl) (fun _ q => q) hfin hini hdecl (zCl_ty hci _ hk) f1 f2 (by simp; omega) hdec ?_
          intro H1 locs1 b1 b2 b3
          rw [hset] at b1 b2
          exact go H1 locs1 b1 b2 b3
        · refine va_put hx hb hts (zCl_in hci) (zTy ax.1) (zCl_ty hci) (zCl_nm hci) hown a2 a4 a5 a6 o.toNat he (zCl_at hci) ax.2.1 hk (hts _ hl) (fun _ q => q) (by simpa using hfin) (zCl_ty hci _ hk) f1 f2 (by simp; omega) hdec ?_
          intro H1 locs1 b1 b2 b3
          rw [hset] at b1 b2
          exact go H1 locs1 b1 b2 b3
      · cases hE
    · cases hE
  · cases hE
end ZH
end
section
/-! Arrays. -/
theorem zLdA_spec {kd t : Nat} {b : Bool} {st st' : List zAv} {h h' : zH1} {gs : List Prop} (hE : zLdA kd t b st h = some (gs, st', h')) (hg : zAll gs) :
    ∃ (i a : Int) (r : List zAv) (n : Nat) (f : Nat → Int), st = (0, i) :: (2, a) :: r ∧ h[a.toNat]? = some (kd, n, f) ∧ st' = (t, f i.toNat) :: r ∧ h' = h ∧ 0 ≤ i ∧ i < (n : Int) ∧ (b = true → 0 ≤ f i.toNat) := by
  unfold zLdA at hE
  split at hE
  · rename_i i a r
    split at hE
    · rename_i k n f e1
      split at hE
      · rename_i e2
        have e2 := Nat.eq_of_beq_eq_true e2
        subst e2
        cases b with
        | true => cases hE; exact ⟨i, a, r, n, f, rfl, e1, rfl, rfl, hg.1.1, hg.1.2, fun _ => hg.2.1⟩
        | false => cases hE; exact ⟨i, a, r, n, f, rfl, e1, rfl, rfl, hg.1.1, hg.1.2, fun q => by cases q⟩
      · cases hE
    · cases hE
  · cases hE
theorem zStA_spec {kd t : Nat} {g : Int → List Prop} {st st' : List zAv} {h h' : zH1} {gs : List Prop} (hE : zStA kd t g st h = some (gs, st', h')) (hg : zAll gs) :
    ∃ (v i a : Int) (n : Nat) (f : Nat → Int), st = (t, v) :: (0, i) :: (2, a) :: st' ∧ h[a.toNat]? = some (kd, n, f) ∧ h' = h.set a.toNat (kd, n, zUp f i.toNat v) ∧ 0 ≤ i ∧ i < (n : Int) ∧ zAll (g v) := by
  unfold zStA at hE
  split at hE
  · rename_i u v i a r
    split at hE
    · rename_i k n f e1
      split at hE
      · rename_i e2
        rw [Bool.and_eq_true] at e2
        have e3 := Nat.eq_of_beq_eq_true e2.1
        have e4 := Nat.eq_of_beq_eq_true e2.2
        subst e3
        subst e4
        cases hE
        exact ⟨v, i, a, n, f, rfl, e1, rfl, hg.1.1, hg.1.2, hg.2⟩
      · cases hE
    · cases hE
  · cases hE
theorem zEnt_I {as : List Nat} {cA : ClassId} {n : Nat} {f : Nat → Int} : zEnt as cA (20, n, f) = .inl (cA, n, .inl (fun j => Int32.ofInt (f j))) := rfl
theorem zEnt_J {as : List Nat} {cA : ClassId} {n : Nat} {f : Nat → Int} : zEnt as cA (21, n, f) = .inl (cA, n, .inr (.inl (fun j => Int64.ofInt (f j)))) := rfl
theorem zEnt_Z {as : List Nat} {cA : ClassId} {n : Nat} {f : Nat → Int} : zEnt as cA (22, n, f) = .inl (cA, n, .inl (fun j => Int32.ofInt (f j))) := rfl
theorem zEnt_C {as : List Nat} {cA : ClassId} {n : Nat} {f : Nat → Int} : zEnt as cA (23, n, f) = .inl (cA, n, .inr (.inr (.inr (.inr (fun j => zEr as (f j)))))) := rfl
theorem zEnt_M {as : List Nat} {cA : ClassId} {n : Nat} {f : Nat → Int} : zEnt as cA (24, n, f) = .inl (cA, n, .inr (.inr (.inr (.inr (fun j => zEr as (f j)))))) := rfl
theorem wfc_arr {n : Nat} {c : zCe} (h : wfc n c) (h20 : 20 ≤ c.1) : c.2.1 ≤ 100000 ∧ ∀ k, k < c.2.1 → wff n (zKt c.1) (c.2.2 k) := by
  rcases h with ⟨h1, -⟩ | ⟨h1, h2, h3, h4⟩
  · omega
  · exact ⟨h3, h4⟩
theorem upd_of {f : Nat → Int} {k : Nat} {v : Int} : (fun j => Int32.ofInt (zUp f k v j)) = upd (fun j => Int32.ofInt (f j)) k (Int32.ofInt v) := by
  funext j
  unfold zUp upd
  split <;> rfl
theorem updL_of {f : Nat → Int} {k : Nat} {v : Int} : (fun j => Int64.ofInt (zUp f k v j)) = vp_updL (fun j => Int64.ofInt (f j)) k (Int64.ofInt v) := by
  funext j
  unfold zUp vp_updL
  split <;> rfl
theorem updR_of {as : List Nat} {f : Nat → Int} {k : Nat} {v : Int} (hv : 0 ≤ v) : (fun j => zEr as (zUp f k v j)) = va_up (fun j => zEr as (f j)) k (some (as.getD v.toNat 0)) := by
  funext j
  unfold zUp va_up
  split
  · unfold zEr
    rw [if_neg (by omega)]
  · rfl
section ZA
variable {p : Program} {l : Launch} {e : Env} {R : Room} {s : State} {m : MethodId} {args : Array Value} {below : List Frame} {meth : Method} {c : Code} {Q : State → Prop}
variable {D : va_G} {A : Nat → Prop} {H0 : Heap} {b Ls : Nat} {xs : Nat → Int32} {mi n0 s0 : Nat}
variable {pc : Nat} {L : zLo} {st st' : List zAv} {h h' : zH1} {gs : List Prop} {cf : zCf zH1} {as0 : List Nat}
theorem z_iald (X : zCx p R s m args meth c A H0 b Ls xs mi) (hdec : decode (zmCode mi) pc = .ok (.iaload, 1)) (hE : zLdA 20 0 false st h = some (gs, st', h')) (hg : zAll gs) (kk : zGoal p l e R s m args below meth c Q D A H0 b mi n0 s0 as0 (pc + 1, L, st', h')) : zGoal p l e R s m args below meth c Q D A H0 b mi n0 s0 as0 (pc, L, st, h) := by
  obtain ⟨hx, hb, -⟩ := X
  obtain ⟨i, a, r, n, f, rfl, e1, rfl, rfl, h0, h1, -⟩ := zLdA_spec hE hg
  intro as ca ls H locs hH hF hp
  obtain ⟨a1, ⟨tys, a2, a3⟩, a4, a5, a6, a7⟩ := id hH
  obtain ⟨t0, ht⟩ := a3 _ _ e1 (Nat.le_refl 20)
  have hi : zR32 i := hF.hd
  have hw := wfc_arr (a7 _ _ e1) (Nat.le_refl 20)
  have he := zWs_at (as := as) (ca := ca) e1
  rw [zEnt_I] at he
  refine va_iald hx hb a2 a4 a.toNat t0 he ht (i := Int32.ofInt i) (o32_in hi ⟨h0, h1⟩) hdec ?_
  rw [o32_cl hi h0]
  exact kk as ca ls H locs hH (hF.tl.tl.push (hw.2 _ (by show i.toNat < n; omega))) hp
theorem z_zald (X : zCx p R s m args meth c A H0 b Ls xs mi) (hdec : decode (zmCode mi) pc = .ok (.baload, 1)) (hE : zLdA 22 0 false st h = some (gs, st', h')) (hg : zAll gs) (kk : zGoal p l e R s m args below meth c Q D A H0 b mi n0 s0 as0 (pc + 1, L, st', h')) : zGoal p l e R s m args below meth c Q D A H0 b mi n0 s0 as0 (pc, L, st, h) := by
  obtain ⟨hx, hb, -⟩ := X
  obtain ⟨i, a, r, n, f, rfl, e1, rfl, rfl, h0, h1, -⟩ := zLdA_spec hE hg
  intro as ca ls H locs hH hF hp
  obtain ⟨a1, ⟨tys, a2, a3⟩, a4, a5, a6, a7⟩ := id hH
  obtain ⟨t0, ht⟩ := a3 _ _ e1 (Nat.le_of_ble_eq_true rfl)
  have hi : zR32 i := hF.hd
  have hw := wfc_arr (a7 _ _ e1) (Nat.le_of_ble_eq_true rfl)
  have he := zWs_at (as := as) (ca := ca) e1
  rw [zEnt_Z] at he
  refine va_zald hx hb a2 a4 a.toNat t0 he ht (i := Int32.ofInt i) (o32_in hi ⟨h0, h1⟩) hdec ?_
  rw [o32_cl hi h0]
  exact kk as ca ls H locs hH (hF.tl.tl.push (hw.2 _ (by show i.toNat < n; omega))) hp
theorem z_lald (X : zCx p R s m args meth c A H0 b Ls xs mi) (hdec : decode (zmCode mi) pc = .ok (.laload, 1)) (hE : zLdA 21 1 false st h = some (gs, st', h')) (hg : zAll gs) (kk : zGoal p l e R s m args below meth c Q D A H0 b mi n0 s0 as0 (pc + 1, L, st', h')) : zGoal p l e R s m args below meth c Q D A H0 b mi n0 s0 as0 (pc, L, st, h) := by
  obtain ⟨hx, hb, -⟩ := X
  obtain ⟨i, a, r, n, f, rfl, e1, rfl, rfl, h0, h1, -⟩ := zLdA_spec hE hg
  intro as ca ls H locs hH hF hp
  obtain ⟨a1, ⟨tys, a2, a3⟩, a4, a5, a6, a7⟩ := id hH
  obtain ⟨t0, ht⟩ := a3 _ _ e1 (Nat.le_of_ble_eq_true rfl)
  have hi : zR32 i := hF.hd
  have hw := wfc_arr (a7 _ _ e1) (Nat.le_of_ble_eq_true rfl)
  have he := zWs_at (as := as) (ca := ca) e1
  rw [zEnt_J] at he
  refine va_lald hx hb a2 a4 a.toNat t0 he ht (i := Int32.ofInt i) (o32_in hi ⟨h0, h1⟩) hdec ?_
  rw [o32_cl hi h0]
  exact kk as ca ls H locs hH (hF.tl.tl.push (hw.2 _ (by show i.toNat < n; omega))) hp
theorem z_aald {kd : Nat} (hkd : kd = 23 ∨ kd = 24) (X : zCx p R s m args meth c A H0 b Ls xs mi) (hdec : decode (zmCode mi) pc = .ok (.aaload, 1)) (hE : zLdA kd 2 true st h = some (gs, st', h')) (hg : zAll gs) (kk : zGoal p l e R s m args below meth c Q D A H0 b mi n0 s0 as0 (pc + 1, L, st', h')) : zGoal p l e R s m args below meth c Q D A H0 b mi n0 s0 as0 (pc, L, st, h) := by
  obtain ⟨hx, hb, -⟩ := X
  obtain ⟨i, a, r, n, f, rfl, e1, rfl, rfl, h0, h1, h2⟩ := zLdA_spec hE hg
  have h2 := h2 rfl
  intro as ca ls H locs hH hF hp
  obtain ⟨a1, ⟨tys, a2, a3⟩, a4, a5, a6, a7⟩ := id hH
  have hk20 : 20 ≤ kd := by omega
  obtain ⟨t0, ht⟩ := a3 _ _ e1 hk20
  have hi : zR32 i := hF.hd
  have hw := wfc_arr (a7 _ _ e1) hk20
  have he := zWs_at (as := as) (ca := ca) e1
  have hv : wfv h'.length (zmC mi = 16) (2, f i.toNat) := ⟨h2, by
    have := hw.2 i.toNat (by show i.toNat < n; omega)
    rcases hkd with rfl | rfl <;> exact this⟩
  have hr : va_rf (zEr as (f i.toNat)) = cv b as (2, f i.toNat) := by
    unfold zEr
    rw [if_neg (by omega)]
    rfl
  rcases hkd with rfl | rfl
  · rw [zEnt_C] at he
    refine va_aldq hx hb a2 a4 a.toNat t0 he ht (i := Int32.ofInt i) (o32_in hi ⟨h0, h1⟩) hdec ?_
    rw [o32_cl hi h0, hr]
    exact kk as ca ls H locs hH (hF.tl.tl.push hv) hp
  · rw [zEnt_M] at he
    refine va_aldq hx hb a2 a4 a.toNat t0 he ht (i := Int32.ofInt i) (o32_in hi ⟨h0, h1⟩) hdec ?_
    rw [o32_cl hi h0, hr]
    exact kk as ca ls H locs hH (hF.tl.tl.push hv) hp
theorem wfc_up1 {n nn : Nat} {kd k : Nat} {f : Nat → Int} {v : Int} (h : wfc n (kd, nn, f)) (h20 : 20 ≤ kd) (hv : wff n (zKt kd) v) : wfc n (kd, nn, zUp f k v) := by
  rcases h with ⟨h1, -⟩ | ⟨h1, h2, h3, h4⟩
  · simp only at h1; omega
  · refine Or.inr ⟨h1, h2, h3, fun j hj => ?_⟩
    show wff n (zKt kd) (zUp f k v j)
    unfold zUp
    split
    · exact hv
    · exact h4 j hj
theorem z_stA {kd t n : Nat} {f : Nat → Int} {v i a : Int} {as : List Nat} {ca : Nat → ClassId} {ls : Array Slot} {H H1 : Heap} {locs locs1 : List Loc} (h20 : 20 ≤ kd) (hH : zHR s D A H0 as ca h H locs) (hF : zFR b (zmC mi = 16) as h.length L ((t, v) :: (0, i) :: (2, a) :: st') ls (zmMax mi)) (hp : as0 <+: as) (e1 : h[a.toNat]? = some (kd, n, f)) (hv : wff h.length (zKt kd) v)
    (kk : zGoal p l e R s m args below meth c Q D A H0 b mi n0 s0 as0 (pc + 1, L, st', h.set a.toNat (kd, n, zUp f i.toNat v)))
    (hP : va_P D vwCl (zWs as ca (h.set a.toNat (kd, n, zUp f i.toNat v))) H1) (hD : va_D A (zWs as ca (h.set a.toNat (kd, n, zUp f i.toNat v)))) (hS : va_S A H0 H1 locs1) : W p l e R s m args below meth c H1 locs1 (h.length - n0) (zSl h - s0) Q (F0 m (pc + 1) ls (st'.map (cv b as))) := by
  have hw := hH.2.2.2.2.2 _ _ e1
  have := kk as ca ls H1 locs1 (hH.set (cl' := (kd, n, zUp f i.toNat v)) e1 rfl (wfc_up1 hw h20 hv) hP hD hS) (by rw [List.length_set]; exact hF.tl.tl.tl) hp
  simp only [List.length_set] at this
  rw [zSl_set (c' := (kd, n, zUp f i.toNat v)) e1 rfl] at this
  exact this
theorem z_iast (X : zCx p R s m args meth c A H0 b Ls xs mi) (hdec : decode (zmCode mi) pc = .ok (.iastore, 1)) (hE : zStA 20 0 (fun _ => []) st h = some (gs, st', h')) (hg : zAll gs) (kk : zGoal p l e R s m args below meth c Q D A H0 b mi n0 s0 as0 (pc + 1, L, st', h')) : zGoal p l e R s m args below meth c Q D A H0 b mi n0 s0 as0 (pc, L, st, h) := by
  obtain ⟨hx, hb, -⟩ := X
  obtain ⟨v, i, a, n, f, rfl, e1, rfl, h0, h1, -⟩ := zStA_spec hE hg
  intro as ca ls H locs hH hF hp
  obtain ⟨a1, ⟨tys, a2, a3⟩, a4, a5, a6, a7⟩ := id hH
  obtain ⟨t0, ht⟩ := a3 _ _ e1 (Nat.le_refl 20)
  have hi : zR32 i := hF.tl.hd
  have he := zWs_at (as := as) (ca := ca) e1
  rw [zEnt_I] at he
  refine va_iast hx hb a2 a4 a5 a6 a.toNat t0 he ht (i := Int32.ofInt i) (x := Int32.ofInt v) (o32_in hi ⟨h0, h1⟩) hdec ?_
  intro H1 locs1 b1 b2 b3
  rw [o32_cl hi h0, ← upd_of, ← zEnt_I (as := as), zWs_set] at b1 b2
  exact z_stA (Nat.le_refl 20) hH hF hp e1 hF.hd kk b1 b2 b3
theorem z_zast (X : zCx p R s m args meth c A H0 b Ls xs mi) (hdec : decode (zmCode mi) pc = .ok (.bastore, 1)) (hE : zStA 22 0 (fun v => [v = 0 ∨ v = 1]) st h = some (gs, st', h')) (hg : zAll gs) (kk : zGoal p l e R s m args below meth c Q D A H0 b mi n0 s0 as0 (pc + 1, L, st', h')) : zGoal p l e R s m args below meth c Q D A H0 b mi n0 s0 as0 (pc, L, st, h) := by
  obtain ⟨hx, hb, -⟩ := X
  obtain ⟨v, i, a, n, f, rfl, e1, rfl, h0, h1, h2⟩ := zStA_spec hE hg
  intro as ca ls H locs hH hF hp
  obtain ⟨a1, ⟨tys, a2, a3⟩, a4, a5, a6, a7⟩ := id hH
  obtain ⟨t0, ht⟩ := a3 _ _ e1 (Nat.le_of_ble_eq_true rfl)
  have hi : zR32 i := hF.tl.hd
  have he := zWs_at (as := as) (ca := ca) e1
  rw [zEnt_Z] at he
  have hz : vp_nar .boolean (Int32.ofInt v) = Int32.ofInt v := by
    rcases h2.1 with rfl | rfl <;> decide
  refine va_zast hx hb a2 a4 a5 a6 a.toNat t0 he ht (i := Int32.ofInt i) (x := Int32.ofInt v) (o32_in hi ⟨h0, h1⟩) hdec ?_
  intro H1 locs1 b1 b2 b3
  rw [hz, o32_cl hi h0, ← upd_of, ← zEnt_Z (as := as), zWs_set] at b1 b2
  exact z_stA (Nat.le_of_ble_eq_true rfl) hH hF hp e1 hF.hd kk b1 b2 b3
theorem z_last (X : zCx p R s m args meth c A H0 b Ls xs mi) (hdec : decode (zmCode mi) pc = .ok (.lastore, 1)) (hE : zStA 21 1 (fun _ => []) st h = some (gs, st', h')) (hg : zAll gs) (kk : zGoal p l e R s m args below meth c Q D A H0 b mi n0 s0 as0 (pc + 1, L, st', h')) : zGoal p l e R s m args below meth c Q D A H0 b mi n0 s0 as0 (pc, L, st, h) := by
  obtain ⟨hx, hb, -⟩ := X
  obtain ⟨v, i, a, n, f, rfl, e1, rfl, h0, h1, -⟩ := zStA_spec hE hg
  intro as ca ls H locs hH hF hp
  obtain ⟨a1, ⟨tys, a2, a3⟩, a4, a5, a6, a7⟩ := id hH
  obtain ⟨t0, ht⟩ := a3 _ _ e1 (Nat.le_of_ble_eq_true rfl)
  have hi : zR32 i := hF.tl.hd
  have he := zWs_at (as := as) (ca := ca) e1
  rw [zEnt_J] at he
  refine va_last hx hb a2 a4 a5 a6 a.toNat t0 he ht (i := Int32.ofInt i) (x := Int64.ofInt v) (o32_in hi ⟨h0, h1⟩) hdec ?_
  intro H1 locs1 b1 b2 b3
  rw [o32_cl hi h0, ← updL_of, ← zEnt_J (as := as), zWs_set] at b1 b2
  exact z_stA (Nat.le_of_ble_eq_true rfl) hH hF hp e1 hF.hd kk b1 b2 b3
theorem z_aast {ax : zAx} (X : zCx p R s m args meth c A H0 b Ls xs mi) (hdec : decode (zmCode mi) pc = .ok (.aastore, 1)) (hE : zHop1 Ls (fun j => (xs j).toInt) .aastore ax st h = some (gs, st', h')) (hg : zAll gs) (kk : zGoal p l e R s m args below meth c Q D A H0 b mi n0 s0 as0 (pc + 1, L, st', h')) : zGoal p l e R s m args below meth c Q D A H0 b mi n0 s0 as0 (pc, L, st, h) := by
  obtain ⟨hx, hb, -⟩ := X
  simp only [zHop1] at hE
  split at hE
  · rename_i v0 r0
    split at hE
    · rename_i kv nv fv ev
      split at hE
      · rename_i e2
        obtain ⟨v, i, a, n, f, hst, e1, rfl, h0, h1, -⟩ := zStA_spec hE hg
        cases hst
        rw [Bool.or_eq_true, Bool.and_eq_true, Bool.and_eq_true] at e2
        intro as ca ls H locs hH hF hp
        obtain ⟨a1, ⟨tys, a2, a3⟩, a4, a5, a6, a7⟩ := id hH
        have hi : zR32 i := hF.tl.hd
        have hv : 0 ≤ v0 ∧ v0 < (h.length : Int) := hF.hd
        have he := zWs_at (as := as) (ca := ca) e1
        have hev := zWs_at (as := as) (ca := ca) ev
        rcases e2 with ⟨q1, q2⟩ | ⟨q1, q2⟩
        · have q1 := Nat.eq_of_beq_eq_true q1
          have q2 := Nat.eq_of_beq_eq_true q2
          subst q2
          rw [q1] at e1 he kk
          obtain ⟨t0, ht⟩ := a3 _ _ e1 (Nat.le_of_ble_eq_true rfl)
          rw [zEnt_C] at he
          rw [zEnt_o (by omega)] at hev
          refine va_astq (r := (zOw 1, zTX 1, zNf 1)) hx hb a2 a4 a5 a6 a.toNat t0 v0.toNat 1 he ht hev (zCl_at (ci := 1) (by omega)) (i := Int32.ofInt i) (o32_in hi ⟨h0, h1⟩) hdec ?_
          intro H1 locs1 b1 b2 b3
          rw [o32_cl hi h0, ← updR_of hv.1, ← zEnt_C, zWs_set] at b1 b2
          exact z_stA (Nat.le_of_ble_eq_true rfl) hH hF hp e1 hv.2 kk b1 b2 b3
        · have q1 := Nat.eq_of_beq_eq_true q1
          have q2 := Nat.eq_of_beq_eq_true q2
          subst q2
          rw [q1] at e1 he kk
          obtain ⟨t0, ht⟩ := a3 _ _ e1 (Nat.le_of_ble_eq_true rfl)
          rw [zEnt_M] at he
          rw [zEnt_o (by omega)] at hev
          refine va_astq (r := (zOw 3, zTX 3, zNf 3)) hx hb a2 a4 a5 a6 a.toNat t0 v0.toNat 3 he ht hev (zCl_at (ci := 3) (by omega)) (i := Int32.ofInt i) (o32_in hi ⟨h0, h1⟩) hdec ?_
          intro H1 locs1 b1 b2 b3
          rw [o32_cl hi h0, ← updR_of hv.1, ← zEnt_M, zWs_set] at b1 b2
          exact z_stA (Nat.le_of_ble_eq_true rfl) hH hF hp e1 hv.2 kk b1 b2 b3
      · cases hE
    · cases hE
  · cases hE
end ZA
end
section
/-! Making cells, sizes, the script, the library's own. -/
theorem zP_app {D : va_G} {as : List Nat} {ca : Nat → ClassId} {h : zH1} {q : Nat} {cA : ClassId} {c : zCe} {H : Heap} (hl : as.length = h.length) (hw : ∀ (k : Nat) (c : zCe), h[k]? = some c → wfc as.length c) (hP : va_P D vwCl (zWs as ca h ++ [(q, zEnt (as ++ [q]) cA c)]) H) : va_P D vwCl (zWs (as ++ [q]) (fun k => if k = h.length then cA else ca k) (h ++ [c])) H := by
  intro k x hx
  have hk : k < (h ++ [c]).length := by rw [← zWs_len (as := as ++ [q]) (ca := fun k => if k = h.length then cA else ca k)]; exact (List.getElem?_eq_some_iff.mp hx).1
  rw [List.length_append] at hk
  have hk : k < h.length + 1 := hk
  by_cases he : k = h.length
  · subst he
    have h1 : (h ++ [c])[h.length]? = some c := by simp
    rw [zWs_at h1] at hx
    cases hx
    have := hP h.length (q, zEnt (as ++ [q]) cA c) (by rw [List.getElem?_append_right (by rw [zWs_len]; omega), zWs_len]; simp)
    simp only [if_true]
    rw [← hl, getD_last]
    exact this
  · have hk : k < h.length := by omega
    have h1 : (h ++ [c])[k]? = some h[k] := by rw [List.getElem?_append_left hk, List.getElem?_eq_getElem hk]
    rw [zWs_at h1] at hx
    cases hx
    have h2 : h[k]? = some h[k] := List.getElem?_eq_getElem hk
    have := hP k (as.getD k 0, zEnt as (ca k) h[k]) (by rw [List.getElem?_append_left (by rw [zWs_len]; exact hk)]; exact zWs_at h2)
    simp only [if_neg he]
    rw [getD_app (by omega)]
    exact zAt_app (hw k _ h2) this
theorem zD_app {A : Nat → Prop} {as : List Nat} {ca ca' : Nat → ClassId} {h : zH1} {q : Nat} {e : va_E} {c : zCe} (hl : as.length = h.length) (hD : va_D A (zWs as ca h ++ [(q, e)])) : va_D A (zWs (as ++ [q]) ca' (h ++ [c])) := by
  have key : ∀ (k : Nat) (x : Nat × va_E), (zWs (as ++ [q]) ca' (h ++ [c]))[k]? = some x → ∃ y : Nat × va_E, (zWs as ca h ++ [(q, e)])[k]? = some y ∧ y.1 = x.1 := by
    intro k x hx
    have hk : k < (h ++ [c]).length := by rw [← zWs_len (as := as ++ [q]) (ca := ca')]; exact (List.getElem?_eq_some_iff.mp hx).1
    rw [List.length_append] at hk
    have hk : k < h.length + 1 := hk
    by_cases he : k = h.length
    · subst he
      have h1 : (h ++ [c])[h.length]? = some c := by simp
      rw [zWs_at h1] at hx
      cases hx
      refine ⟨(q, e), by rw [List.getElem?_append_right (by rw [zWs_len]; omega), zWs_len]; simp, ?_⟩
      show q = (as ++ [q]).getD h.length 0
      rw [← hl, getD_last]
    · have hk : k < h.length := by omega
      have h1 : (h ++ [c])[k]? = some h[k] := by rw [List.getElem?_append_left hk, List.getElem?_eq_getElem hk]
      rw [zWs_at h1] at hx
      cases hx
      refine ⟨(as.getD k 0, zEnt as (ca k) h[k]), by rw [List.getElem?_append_left (by rw [zWs_len]; exact hk)]; exact zWs_at (List.getElem?_eq_getElem hk), ?_⟩
      show as.getD k 0 = (as ++ [q]).getD k 0
      rw [getD_app (by omega)]
  refine ⟨fun i j x y hx hy hxy => ?_, fun k x hx => ?_⟩
  · obtain ⟨x', h1, h2⟩ := key i x hx
    obtain ⟨y', h3, h4⟩ := key j y hy
    exact hD.1 i j x' y' h1 h3 (by rw [h2, h4]; exact hxy)
  · obtain ⟨x', h1, h2⟩ := key k x hx
    rw [← h2]
    exact hD.2 k x' h1
theorem zSl_app {h : zH1} {c : zCe} : zSl (h ++ [c]) = zSl h + c.2.1 := by simp [zSl]
theorem zFR.app {b : Nat} {sc : Prop} {as : List Nat} {n nL q : Nat} {L : zLo} {st : List zAv} {ls : Array Slot} (hn : as.length = n) (h : zFR b sc as n L st ls nL) : zFR b sc (as ++ [q]) (n + 1) L st ls nL := by
  subst hn
  refine ⟨⟨h.1.1, h.1.2.1, fun i a ha => ?_⟩, h.2.1, fun i a ha => wfv_up (Nat.le_succ _) (h.2.2.1 i a ha), fun a ha => wfv_up (Nat.le_succ _) (h.2.2.2 a ha)⟩
  rw [cv_app (h.2.2.1 i a ha)]
  exact h.1.2.2 i a ha
theorem map_cv_app {b : Nat} {sc : Prop} {as : List Nat} {q : Nat} {st : List zAv} (h : ∀ a ∈ st, wfv as.length sc a) : st.map (cv b (as ++ [q])) = st.map (cv b as) := List.map_congr_left fun a ha => cv_app (h a ha)
section ZN
variable {p : Program} {l : Launch} {e : Env} {R : Room} {s : State} {m : MethodId} {args : Array Value} {below : List Frame} {meth : Method} {c : Code} {Q : State → Prop}
variable {D : va_G} {A : Nat → Prop} {H0 : Heap} {b Ls : Nat} {xs : Nat → Int32} {mi n0 s0 : Nat}
variable {pc pc' : Nat} {L : zLo} {st st' : List zAv} {h h' : zH1} {gs : List Prop} {cf : zCf zH1} {as0 : List Nat}
/-- behind a new cell -/
theorem z_made {as : List Nat} {ca : Nat → ClassId} {ls : Array Slot} {H H1 : Heap} {locs locs1 : List Loc} {q : Nat} {cA : ClassId} {cl : zCe} (hn : n0 ≤ h.length) (hs : s0 ≤ zSl h)
    (hH : zHR s D A H0 as ca h H locs) (hF : zFR b (zmC mi = 16) as h.length L st ls (zmMax mi)) (hp : as0 <+: as) (hw : wfc (h.length + 1) cl)
    (hK : ∃ tys, va_K D vwCl tys s ∧ (∀ (k : Nat) (x : zCe), h[k]? = some x → 20 ≤ x.1 → ∃ t0 : Nat, tys[t0]? = some (ca k, zAk x.1)) ∧ (20 ≤ cl.1 → ∃ t0 : Nat, tys[t0]? = some (cA, zAk cl.1)))
    (hP : va_P D vwCl (zWs as ca h ++ [(q, zEnt (as ++ [q]) cA cl)]) H1) (hD : va_D A (zWs as ca h ++ [(q, zEnt (as ++ [q]) cA cl)])) (hS : va_S A H0 H1 locs1)
    (kk : zGoal p l e R s m args below meth c Q D A H0 b mi n0 s0 as0 (pc', L, (2, (h.length : Int)) :: st, h ++ [cl])) : W p l e R s m args below meth c H1 locs1 (h.length - n0 + 1) (zSl h - s0 + cl.2.1) Q (F0 m pc' ls (.ref q :: st.map (cv b as))) := by
  obtain ⟨a1, -, a4, a5, a6, a7⟩ := id hH
  obtain ⟨tys, k1, k2, k3⟩ := hK
  have hH' : zHR s D A H0 (as ++ [q]) (fun k => if k = h.length then cA else ca k) (h ++ [cl]) H1 locs1 := by
    refine ⟨by simp [a1], ⟨tys, k1, fun k x hk hx => ?_⟩, zP_app a1 (fun k x hx => by rw [a1]; exact a7 k x hx) hP, zD_app a1 hD, hS, fun k x hk => ?_⟩
    · by_cases he : k = h.length
      · subst he
        simp at hk
        subst hk
        simp only [if_true]
        exact k3 hx
      · rw [List.getElem?_append_left (by have := (List.getElem?_eq_some_iff.mp hk).1; simp at this; omega)] at hk
        simp only [if_neg he]
        exact k2 k x hk hx
    · rw [List.length_append]
      by_cases he : k = h.length
      · subst he
        simp at hk
        subst hk
        exact hw
      · rw [List.getElem?_append_left (by have := (List.getElem?_eq_some_iff.mp hk).1; simp at this; omega)] at hk
        exact wfc_up (Nat.le_succ _) (a7 k x hk)
  have hF' : zFR b (zmC mi = 16) (as ++ [q]) (h.length + 1) L ((2, (h.length : Int)) :: st) ls (zmMax mi) := (hF.app a1).push ⟨by omega, by omega⟩
  have := kk (as ++ [q]) (fun k => if k = h.length then cA else ca k) ls H1 locs1 hH' (by simpa using hF') (hp.trans (List.prefix_append _ _))
  simp only [List.length_append, List.length_cons, List.length_nil, List.map_cons] at this
  rw [map_cv_app (fun a ha => by rw [a1]; exact hF.2.2.2 a ha), zSl_app] at this
  have hr : cv b (as ++ [q]) (2, (h.length : Int)) = .ref q := by
    show Value.ref _ = _
    rw [Int.toNat_natCast, ← a1, getD_last]
  rw [hr] at this
  rw [show h.length - n0 + 1 = h.length + (0 + 1) - n0 by omega, show zSl h - s0 + cl.2.1 = zSl h + cl.2.1 - s0 by omega]
  exact this
theorem zAny_new {cls x ci : Nat} (h : zLN.any (fun r => Nat.beq r.1 cls && Nat.beq r.2.1 x && Nat.beq r.2.2.1 ci) = true) : Cond.classLink (zOw cls) x (zOw ci) ∈ zGW ∧ Cond.instantiable (zOw ci) (zNf ci) ∈ zGW ∧ Cond.initialized (zOw ci) ∈ zGW ∧ ci < 13 := by
  obtain ⟨r, hr, h1⟩ := List.any_eq_true.mp h
  simp only [Bool.and_eq_true] at h1
  obtain ⟨⟨a1, a2⟩, a3⟩ := h1
  have e1 := Nat.eq_of_beq_eq_true a1; have e2 := Nat.eq_of_beq_eq_true a2; have e3 := Nat.eq_of_beq_eq_true a3
  have hl := zL_lt
  simp only [Bool.and_eq_true] at hl
  have h2 := Nat.le_of_ble_eq_true (List.all_eq_true.mp hl.1.2 r hr)
  have h5 := zMap zLN_at r hr
  simp only [Prod.mk.injEq] at h5
  rw [e1, e2, e3] at h5
  rw [e3] at h2
  exact ⟨zAt h5.1 rfl, zAt h5.2.1 rfl, zAt h5.2.2 rfl, h2⟩
theorem zNf_le {ci : Nat} (h : ci < 13) : zNf ci ≤ 50 := by
  match ci, h with
  | 0, _ => decide | 1, _ => decide | 2, _ => decide | 3, _ => decide | 4, _ => decide | 5, _ => decide | 6, _ => decide | 7, _ => decide | 8, _ => decide | 9, _ => decide | 10, _ => decide | 11, _ => decide | 12, _ => decide
theorem zDef {as : List Nat} {ci k : Nat} (h : ci < 13) (hk : k < zNf ci) : defaultValue (zTy ci k) = zFv as (zTag ci k) (zIni0 ci k) := by
  have h1 := zTy_ok h hk
  unfold zFv zIni0 zTag
  cases e : zTy ci k <;> rw [e] at h1 <;> first | (cases h1; done) | rfl
theorem z_new {x : Nat} {ax : zAx} (X : zCx p R s m args meth c A H0 b Ls xs mi) (hdec : decode (zmCode mi) pc = .ok (.new x, 3)) (hax : zLN.any (fun r => Nat.beq r.1 (zmC mi) && Nat.beq r.2.1 x && Nat.beq r.2.2.1 ax.1) = true)
    (hE : zHop1 Ls (fun j => (xs j).toInt) (.new x) ax st h = some (gs, st', h')) (hn : n0 ≤ h.length) (hs : s0 ≤ zSl h) (hrc : h'.length - n0 ≤ R.cells) (hrs : zSl h' - s0 ≤ R.slots) (kk : zGoal p l e R s m args below meth c Q D A H0 b mi n0 s0 as0 (pc + 3, L, st', h')) : zGoal p l e R s m args below meth c Q D A H0 b mi n0 s0 as0 (pc, L, st, h) := by
  obtain ⟨hx, hb, hml, hown, hts, hkn, hA, -⟩ := X
  obtain ⟨w1, w2, w3, hci⟩ := zAny_new hax
  cases hE
  intro as ca ls H locs hH hF hp
  dsimp only at hH hF ⊢
  obtain ⟨a1, ⟨tys, a2, a3⟩, a4, a5, a6, a7⟩ := id hH
  have hlen : (h ++ [(ax.1, zNf ax.1, zIni0 ax.1)]).length = h.length + 1 := by simp
  rw [hlen] at hrc
  rw [zSl_app] at hrs
  refine va_new hx hb hts (zCl_in hci) (zTy ax.1) (zCl_ty hci) hown (hts _ w1) (hts _ w2) (hts _ w3) a2 a4 a5 a6 hA (zCl_at hci) (fs := (List.range (zNf ax.1)).map (fun k => zFv as (zTag ax.1 k) (zIni0 ax.1 k))) (fun j hj => ?_) (by omega) (by dsimp only at hrs; omega) hdec ?_
  · rw [zDef (as := as) hci hj]
    simp [vp_V, List.getD_eq_getElem?_getD, hj]
  · intro q H1 b1 b2 b3
    have e1 : (Sum.inr (ax.1, (List.range (zNf ax.1)).map (fun k => zFv as (zTag ax.1 k) (zIni0 ax.1 k))) : va_E) = zEnt (as ++ [q]) 0 (ax.1, zNf ax.1, zIni0 ax.1) := by
      rw [zEnt_o (by omega)]
      refine congrArg (fun z => (Sum.inr (ax.1, z) : va_E)) (List.map_congr_left fun k hk => ?_)
      rw [← zDef (as := as) hci (List.mem_range.mp hk), ← zDef (as := as ++ [q]) hci (List.mem_range.mp hk)]
    rw [show (Sum.inr (ax.1, (List.range (zNf ax.1)).map (fun k => zFv as (zTag ax.1 k) (zIni0 ax.1 k))) : va_E) = zEnt (as ++ [q]) 0 (ax.1, zNf ax.1, zIni0 ax.1) from e1] at b1 b2
    refine z_made (cl := (ax.1, zNf ax.1, zIni0 ax.1)) hn hs hH hF hp (Or.inl ⟨hci, rfl, fun k hk => ?_⟩) ⟨tys, a2, a3, fun q => ?_⟩ b1 b2 b3 kk
    · show wff _ (zTag ax.1 k) (if zTag ax.1 k = 2 then -1 else 0)
      have := zTag_le (ci := ax.1) (k := k)
      have ht : zTag ax.1 k = 0 ∨ zTag ax.1 k = 1 ∨ zTag ax.1 k = 2 := by omega
      rcases ht with q | q | q <;> rw [q]
      · exact ⟨by decide, by decide⟩
      · exact ⟨by decide, by decide⟩
      · show (-1 : Int) < _
        omega
    · have q : 20 ≤ ax.1 := q
      omega
theorem o32_nat (n : Nat) : Int32.ofInt (n : Int) = Int32.ofNat n := Int32.ofInt_eq_ofNat
/-- arrays of numbers -/
theorem z_newa {ty : ArrayType} {ax : zAx} (X : zCx p R s m args meth c A H0 b Ls xs mi) (hdec : decode (zmCode mi) pc = .ok (.newarray ty, 2))
    (hE : zHop1 Ls (fun j => (xs j).toInt) (.newarray ty) ax st h = some (gs, st', h')) (hg : zAll gs) (hn : n0 ≤ h.length) (hs : s0 ≤ zSl h) (hrc : h'.length - n0 ≤ R.cells) (hrs : zSl h' - s0 ≤ R.slots) (kk : zGoal p l e R s m args below meth c Q D A H0 b mi n0 s0 as0 (pc + 2, L, st', h')) : zGoal p l e R s m args below meth c Q D A H0 b mi n0 s0 as0 (pc, L, st, h) := by
  obtain ⟨hx, hb, hml, hown, hts, hkn, hA, -⟩ := X
  simp only [zHop1] at hE
  split at hE
  · rename_i kd hkd
    split at hE
    · rename_i n r
      cases hE
      have hn1 : 0 ≤ n ∧ n ≤ 100000 := hg.1
      intro as ca ls H locs hH hF hp
      dsimp only at hH hF ⊢
      obtain ⟨a1, ⟨tys, a2, a3⟩, a4, a5, a6, a7⟩ := id hH
      have hni : zR32 n := hF.hd
      have hlen : (h ++ [((kd, n.toNat, fun _ => (0 : Int)) : zCe)]).length = h.length + 1 := by simp
      rw [hlen] at hrc
      rw [zSl_app] at hrs
      dsimp only at hrs
      have hneg : ¬ Int32.ofInt n < 0 := by
        rw [← o32_0, o32_lt hni r32_0]; omega
      have go : ∀ (fty : FieldType) (a0 : vp_A), newarray.typeOf ty = fty → zAk kd = fty → (∀ (cA : ClassId) (as : List Nat), (Sum.inl (cA, a0) : va_E) = zEnt as cA (kd, n.toNat, fun _ => 0)) → (∀ cA : ClassId, vp_cell cA a0 = arrV cA n.toNat (fun _ => defaultValue fty)) → componentBytes fty ≤ 8 → Cond.arrayClass fty ∈ zGW → wfc (h.length + 1) (kd, n.toNat, fun _ => 0) →
          W p l e R s m args below meth c H locs (h.length - n0) (zSl h - s0) Q (F0 m pc ls (List.map (cv b as) ((0, n) :: r))) := by
        intro fty a0 hty hak hent hcell hcb hcl hwf
        refine va_newa (a0 := a0) hx hb (by rw [hty]; exact hts _ hcl) hty a2 a4 a5 a6 hA hcell hneg (o32_cl hni hn1.1) ?_ (by omega) (by omega) hdec ?_
        · have : n.toNat * componentBytes fty ≤ 100000 * 8 := Nat.mul_le_mul (by omega) hcb
          omega
        · intro q cA H1 c1 c2 c3 c4
          rw [hent cA (as ++ [q])] at c2 c3
          exact z_made (cl := (kd, n.toNat, fun _ => 0)) hn hs hH hF.tl hp hwf ⟨tys ++ [(cA, fty)], c1, fun k x hk hx => by
            obtain ⟨t0, ht0⟩ := a3 k x hk hx
            exact ⟨t0, by rw [List.getElem?_append_left (List.getElem?_eq_some_iff.mp ht0).1]; exact ht0⟩, fun _ => ⟨tys.length, by rw [hak]; simp⟩⟩ c2 c3 c4 kk
      have hwf : 20 ≤ kd → kd < 25 → kd ≠ 23 → kd ≠ 24 → wfc (h.length + 1) (kd, n.toNat, fun _ => 0) := fun g1 g2 g3 g4 => Or.inr ⟨g1, g2, by show n.toNat ≤ 100000; omega, fun k hk => by
        have : kd = 20 ∨ kd = 21 ∨ kd = 22 := by omega
        rcases this with rfl | rfl | rfl
        · exact r32_0
        · exact (⟨by decide, by decide⟩ : zR64 0)
        · exact r32_0⟩
      cases ty <;> first | (cases hkd; done) | skip
      all_goals cases hkd
      · exact go .boolean (n.toNat, .inl (fun _ => 0)) rfl rfl (fun _ _ => rfl) (fun _ => rfl) (by decide) zp_aZ (hwf (by omega) (by omega) (by omega) (by omega))
      · exact go .int (n.toNat, .inl (fun _ => 0)) rfl rfl (fun _ _ => rfl) (fun _ => rfl) (by decide) zp_aI (hwf (by omega) (by omega) (by omega) (by omega))
      · exact go .long (n.toNat, .inr (.inl (fun _ => 0))) rfl rfl (fun _ _ => rfl) (fun _ => rfl) (by decide) zp_aJ (hwf (by omega) (by omega) (by omega) (by omega))
    · cases hE
  · cases hE
theorem zAny_newq {cls x kd : Nat} (h : zLA.any (fun r => Nat.beq r.1 cls && Nat.beq r.2.1 x && Nat.beq (if r.2.2.1 = 1 then 23 else 24) kd) = true) : (kd = 23 ∧ Cond.classLink (zOw cls) x "EchoVale$Course" ∈ zGW) ∨ (kd = 24 ∧ Cond.classLink (zOw cls) x "EchoVale$Image" ∈ zGW) := by
  obtain ⟨r, hr, h1⟩ := List.any_eq_true.mp h
  simp only [Bool.and_eq_true] at h1
  obtain ⟨⟨a1, a2⟩, a3⟩ := h1
  have e1 := Nat.eq_of_beq_eq_true a1; have e2 := Nat.eq_of_beq_eq_true a2; have e3 := Nat.eq_of_beq_eq_true a3
  have hl := zL_lt
  simp only [Bool.and_eq_true] at hl
  have h2 := List.all_eq_true.mp hl.2 r hr
  rw [Bool.or_eq_true] at h2
  have h5 := zMap zLA_at r hr
  rw [e1, e2] at h5
  rcases h2 with h2 | h2
  · have h2 := Nat.eq_of_beq_eq_true h2
    rw [h2] at e3 h5
    exact Or.inl ⟨e3.symm, zAt h5 rfl⟩
  · have h2 := Nat.eq_of_beq_eq_true h2
    rw [h2] at e3 h5
    exact Or.inr ⟨e3.symm, zAt h5 rfl⟩
theorem z_newq {x : Nat} {ax : zAx} (X : zCx p R s m args meth c A H0 b Ls xs mi) (hdec : decode (zmCode mi) pc = .ok (.anewarray x, 3)) (hax : zLA.any (fun r => Nat.beq r.1 (zmC mi) && Nat.beq r.2.1 x && Nat.beq (if r.2.2.1 = 1 then 23 else 24) ax.1) = true)
    (hE : zHop1 Ls (fun j => (xs j).toInt) (.anewarray x) ax st h = some (gs, st', h')) (hg : zAll gs) (hn : n0 ≤ h.length) (hs : s0 ≤ zSl h) (hrc : h'.length - n0 ≤ R.cells) (hrs : zSl h' - s0 ≤ R.slots) (kk : zGoal p l e R s m args below meth c Q D A H0 b mi n0 s0 as0 (pc + 3, L, st', h')) : zGoal p l e R s m args below meth c Q D A H0 b mi n0 s0 as0 (pc, L, st, h) := by
  obtain ⟨hx, hb, hml, hown, hts, hkn, hA, -⟩ := X
  simp only [zHop1] at hE
  split at hE
  · split at hE
    · rename_i n r
      cases hE
      have hn1 : 0 ≤ n ∧ n ≤ 100000 := hg.1
      intro as ca ls H locs hH hF hp
      dsimp only at hH hF ⊢
      obtain ⟨a1, ⟨tys, a2, a3⟩, a4, a5, a6, a7⟩ := id hH
      have hni : zR32 n := hF.hd
      have hlen : (h ++ [((ax.1, n.toNat, fun _ => (-1 : Int)) : zCe)]).length = h.length + 1 := by simp
      rw [hlen] at hrc
      rw [zSl_app] at hrs
      dsimp only at hrs
      have hneg : ¬ Int32.ofInt n < 0 := by
        rw [← o32_0, o32_lt hni r32_0]; omega
      have go : ∀ C : String, zAk ax.1 = .object C → Cond.classLink (zOw (zmC mi)) x C ∈ zGW → va_AO C s → (∀ (cA : ClassId) (as : List Nat), (Sum.inl (cA, n.toNat, .inr (.inr (.inr (.inr (fun _ => none))))) : va_E) = zEnt as cA (ax.1, n.toNat, fun _ => -1)) → wfc (h.length + 1) (ax.1, n.toNat, fun _ => -1) →
          W p l e R s m args below meth c H locs (h.length - n0) (zSl h - s0) Q (F0 m pc ls (List.map (cv b as) ((0, n) :: r))) := by
        intro C hak hcl hao hent hwf
        refine va_newq hx hb hown (hts _ hcl) hao a2 a4 a5 a6 hA hneg (o32_cl hni hn1.1) (by omega) (by omega) (by omega) hdec ?_
        intro q cA H1 c1 c2 c3 c4
        rw [hent cA (as ++ [q])] at c2 c3
        exact z_made (cl := (ax.1, n.toNat, fun _ => -1)) hn hs hH hF.tl hp hwf ⟨tys ++ [(cA, .object C)], c1, fun k x hk hx => by
            obtain ⟨t0, ht0⟩ := a3 k x hk hx
            exact ⟨t0, by rw [List.getElem?_append_left (List.getElem?_eq_some_iff.mp ht0).1]; exact ht0⟩, fun _ => ⟨tys.length, by rw [hak]; simp⟩⟩ c2 c3 c4 kk
      rcases zAny_newq hax with ⟨q1, q2⟩ | ⟨q1, q2⟩
      · refine go "EchoVale$Course" (by rw [q1]; rfl) q2 hkn.1 (fun cA as => by rw [q1]; rfl) ?_
        rw [q1]
        exact Or.inr ⟨by show 20 ≤ 23; omega, by show 23 < 25; omega, by show n.toNat ≤ 100000; omega, fun k hk => by show (-1 : Int) < _; omega⟩
      · refine go "EchoVale$Image" (by rw [q1]; rfl) q2 hkn.2.1 (fun cA as => by rw [q1]; rfl) ?_
        rw [q1]
        exact Or.inr ⟨by show 20 ≤ 24; omega, by show 24 < 25; omega, by show n.toNat ≤ 100000; omega, fun k hk => by show (-1 : Int) < _; omega⟩
    · cases hE
  · cases hE
theorem z_alen {ax : zAx} (X : zCx p R s m args meth c A H0 b Ls xs mi) (hdec : decode (zmCode mi) pc = .ok (.arraylength, 1)) (hax : (Nat.beq ax.1 0 || Nat.beq (zmC mi) 16) = true)
    (hE : zHop1 Ls (fun j => (xs j).toInt) .arraylength ax st h = some (gs, st', h')) (kk : zGoal p l e R s m args below meth c Q D A H0 b mi n0 s0 as0 (pc + 1, L, st', h')) : zGoal p l e R s m args below meth c Q D A H0 b mi n0 s0 as0 (pc, L, st, h) := by
  obtain ⟨hx, hb, hml, hown, hts, hkn, hA, hnm, hscr, -⟩ := X
  simp only [zHop1] at hE
  split at hE
  · rename_i hb1
    split at hE
    · rename_i z r
      cases hE
      have hb1 := Nat.eq_of_beq_eq_true hb1
      rw [hb1] at hax
      simp only [Bool.or_eq_true] at hax
      obtain ⟨g1, g2, g3, g4⟩ := hscr (Nat.eq_of_beq_eq_true (hax.resolve_left (by decide)))
      intro as ca ls H locs hH hF hp
      dsimp only at hH hF ⊢
      refine va_slen hx hb g1 g2 g3 hH.2.2.2.2.1 hdec ?_
      have := kk as ca ls H locs hH (hF.tl.push (a := (0, (Ls : Int))) ⟨by omega, by omega⟩) hp
      simp only [List.map_cons, cv, o32_nat] at this
      exact this
    · cases hE
  · split at hE
    · rename_i a r
      split at hE
      · rename_i k n f e1
        split at hE
        · rename_i hk
          cases hE
          have hk := Nat.le_of_ble_eq_true hk
          intro as ca ls H locs hH hF hp
          dsimp only at hH hF ⊢
          obtain ⟨a1, ⟨tys, a2, a3⟩, a4, a5, a6, a7⟩ := id hH
          obtain ⟨t0, ht⟩ := a3 _ _ e1 hk
          have hw := wfc_arr (a7 _ _ e1) hk
          have he := zWs_at (as := as) (ca := ca) e1
          have hen : ∃ z, zEnt as (ca a.toNat) (k, n, f) = .inl (ca a.toNat, n, z) := by
            simp only [zEnt, Nat.ble_eq_true_of_le hk]
            exact ⟨_, rfl⟩
          obtain ⟨z, hz⟩ := hen
          rw [hz] at he
          refine va_alen hx hb a2 a4 a.toNat t0 he ht rfl hdec ?_
          have := kk as ca ls H locs hH (hF.tl.push (a := (0, (n : Int))) ⟨by omega, by have := hw.1; dsimp only at this ⊢; omega⟩) hp
          simp only [List.map_cons, cv, o32_nat] at this
          exact this
        · cases hE
      · cases hE
    · cases hE
theorem z_sld {ax : zAx} (X : zCx p R s m args meth c A H0 b Ls xs mi) (hdec : decode (zmCode mi) pc = .ok (.iaload, 1)) (hax : (Nat.beq ax.1 0 || Nat.beq (zmC mi) 16) = true)
    (hE : zHop1 Ls (fun j => (xs j).toInt) .iaload ax st h = some (gs, st', h')) (hg : zAll gs) (kk : zGoal p l e R s m args below meth c Q D A H0 b mi n0 s0 as0 (pc + 1, L, st', h')) : zGoal p l e R s m args below meth c Q D A H0 b mi n0 s0 as0 (pc, L, st, h) := by
  simp only [zHop1] at hE
  split at hE
  · obtain ⟨hx, hb, hml, hown, hts, hkn, hA, hnm, hscr, -⟩ := X
    rename_i hb1
    split at hE
    · rename_i j z r
      cases hE
      have hb1 := Nat.eq_of_beq_eq_true hb1
      rw [hb1] at hax
      simp only [Bool.or_eq_true] at hax
      obtain ⟨g1, g2, g3, g4⟩ := hscr (Nat.eq_of_beq_eq_true (hax.resolve_left (by decide)))
      intro as ca ls H locs hH hF hp
      dsimp only at hH hF ⊢
      have hj : zR32 j := hF.hd
      have h0 : 0 ≤ j ∧ j < (Ls : Int) := hg.1
      refine va_sld hx hb g1 g2 g3 hH.2.2.2.2.1 (i := Int32.ofInt j) (o32_in hj h0) hdec ?_
      rw [o32_cl hj h0.1]
      have := kk as ca ls H locs hH (hF.tl.tl.push (a := (0, (xs j.toNat).toInt)) (r32 _)) hp
      simp only [List.map_cons, cv, Int32.ofInt_toInt] at this
      exact this
    · cases hE
  · exact z_iald X hdec hE hg kk
end ZN
end
section
/-! The library's own methods that ride as one instruction. -/
section ZK
variable {p : Program} {l : Launch} {e : Env} {R : Room} {s : State} {m : MethodId} {args : Array Value} {below : List Frame} {meth : Method} {c : Code} {Q : State → Prop}
variable {D : va_G} {A : Nat → Prop} {H0 : Heap} {b Ls : Nat} {xs : Nat → Int32} {mi n0 s0 : Nat}
variable {pc pc' : Nat} {L : zLo} {st st' : List zAv} {h h' : zH1} {gs : List Prop} {cf : zCf zH1} {as0 : List Nat}
theorem zRm_sum {as : List Nat} {r : List zAv} (h : zRm r = true) : ((r.map (cv b as)).map fun v => v.category).sum ≤ 16 := by
  have h1 : r.length ≤ 8 := Nat.le_of_ble_eq_true h
  have key : ∀ r : List zAv, ((r.map (cv b as)).map fun v => v.category).sum ≤ 2 * r.length := by
    intro r
    induction r with
    | nil => simp
    | cons a r ih =>
      simp only [List.map_cons, List.sum_cons, List.length_cons]
      rcases lv_cat (cv b as a) with q | q <;> omega
  have := key r
  omega
theorem zAny_2 {cls x : Nat} (h : zLY.any (fun r => Nat.beq r.1 cls && Nat.beq r.2.1 x) = true) : Cond.methodLink (zOw cls) x arraycopyName ∈ zGW := by
  obtain ⟨r, hr, h1⟩ := List.any_eq_true.mp h
  simp only [Bool.and_eq_true] at h1
  have e1 := Nat.eq_of_beq_eq_true h1.1; have e2 := Nat.eq_of_beq_eq_true h1.2
  have h5 := zMap zLY_at r hr
  rw [e1, e2] at h5
  exact zAt h5 rfl
theorem zAny_o {cls x : Nat} (h : zLO.any (fun r => Nat.beq r.1 cls && Nat.beq r.2.1 x) = true) : Cond.methodLink (zOw cls) x Lib.objectInit ∈ zGW := by
  obtain ⟨r, hr, h1⟩ := List.any_eq_true.mp h
  simp only [Bool.and_eq_true] at h1
  have e1 := Nat.eq_of_beq_eq_true h1.1; have e2 := Nat.eq_of_beq_eq_true h1.2
  have h5 := zMap zLO_at r hr
  rw [e1, e2] at h5
  exact zAt h5 rfl
theorem zAny_m {cls x k : Nat} (h : zLM.any (fun r => Nat.beq r.1 cls && Nat.beq r.2.1 x && Nat.beq r.2.2.1 k) = true) : Cond.methodLink (zOw cls) x (zMn k) ∈ zGW := by
  obtain ⟨r, hr, h1⟩ := List.any_eq_true.mp h
  simp only [Bool.and_eq_true] at h1
  obtain ⟨⟨a1, a2⟩, a3⟩ := h1
  have e1 := Nat.eq_of_beq_eq_true a1; have e2 := Nat.eq_of_beq_eq_true a2; have e3 := Nat.eq_of_beq_eq_true a3
  have h5 := zMap zLM_at r hr
  rw [e1, e2, e3] at h5
  exact zAt h5 rfl
theorem zCpy_I {f g : Nat → Int} {sp dp n : Nat} : (fun j => Int32.ofInt (zCpy f g sp dp n j)) = va_cpy (fun j => Int32.ofInt (f j)) (fun j => Int32.ofInt (g j)) sp dp n := by
  funext j
  unfold zCpy va_cpy
  split <;> rfl
theorem zCpy_J {f g : Nat → Int} {sp dp n : Nat} : (fun j => Int64.ofInt (zCpy f g sp dp n j)) = va_cpy (fun j => Int64.ofInt (f j)) (fun j => Int64.ofInt (g j)) sp dp n := by
  funext j
  unfold zCpy va_cpy
  split <;> rfl
theorem wfc_cpy {N kd n0 n1 sp dp n : Nat} {f g : Nat → Int} (h20 : 20 ≤ kd) (hf : wfc N (kd, n0, f)) (hg : wfc N (kd, n1, g)) (h1 : sp + n ≤ n0) (h2 : dp + n ≤ n1) : wfc N (kd, n1, zCpy f g sp dp n) := by
  have f1 := wfc_arr hf h20
  rcases hg with ⟨g1, -⟩ | ⟨g1, g2, g3, g4⟩
  · simp only at g1; omega
  · refine Or.inr ⟨g1, g2, g3, fun k hk => ?_⟩
    show wff N (zKt kd) (zCpy f g sp dp n k)
    unfold zCpy
    split
    · exact f1.2 _ (by show sp + (k - dp) < n0; omega)
    · exact g4 k hk
theorem z_copy {x : Nat} {ax : zAx} (hax1 : ax.1 = 5001) (X : zCx p R s m args meth c A H0 b Ls xs mi) (hdec : decode (zmCode mi) pc = .ok (.invokestatic x, 3)) (hax : zLY.any (fun r => Nat.beq r.1 (zmC mi) && Nat.beq r.2.1 x) = true)
    (hE : zHop1 Ls (fun j => (xs j).toInt) (.invokestatic x) ax st h = some (gs, st', h')) (hg : zAll gs) (kk : zGoal p l e R s m args below meth c Q D A H0 b mi n0 s0 as0 (pc + 3, L, st', h')) : zGoal p l e R s m args below meth c Q D A H0 b mi n0 s0 as0 (pc, L, st, h) := by
  obtain ⟨hx, hb, hml, hown, hts, hkn, hA, hnm, -, hrf, hrl⟩ := X
  simp only [zHop1, hax1] at hE
  split at hE
  · rename_i n dp d sp s1 r
    split at hE
    · rename_i k0 m0 f k1 m1 g e0 e1
      split at hE
      · rename_i e2
        simp only [Bool.and_eq_true, Bool.or_eq_true] at e2
        obtain ⟨⟨e3, e4⟩, e5⟩ := e2
        have e3 := Nat.eq_of_beq_eq_true e3
        subst e3
        cases hE
        obtain ⟨g1, g2, g3, g4, g5, -⟩ := hg
        have hnw : nativeFrameWords "java/lang/System" "arraycopy" 5 = 7 := by decide +kernel
        intro as ca ls H locs hH hF hp
        dsimp only at hH hF ⊢
        obtain ⟨a1, ⟨tys, a2, a3⟩, a4, a5, a6, a7⟩ := id hH
        have hn : zR32 n := hF.hd
        have hdp : zR32 dp := hF.tl.hd
        have hsp : zR32 sp := hF.tl.tl.tl.hd
        have hsz : c.maxLocals = ls.size := by rw [hml, hF.1.1]
        have he0 := zWs_at (as := as) (ca := ca) e0
        have he1 := zWs_at (as := as) (ca := ca) e1
        have h20 : 20 ≤ k0 := by
          rcases e4 with q | q
          · rw [Nat.eq_of_beq_eq_true q]; exact Nat.le_refl _
          · rw [Nat.eq_of_beq_eq_true q]; omega
        obtain ⟨t0, ht0⟩ := a3 _ _ e0 h20
        obtain ⟨t1, ht1⟩ := a3 _ _ e1 h20
        have p1 : ¬ Int32.ofInt sp < 0 := by rw [← o32_0, o32_lt hsp r32_0]; omega
        have p2 : ¬ Int32.ofInt dp < 0 := by rw [← o32_0, o32_lt hdp r32_0]; omega
        have p3 : ¬ Int32.ofInt n < 0 := by rw [← o32_0, o32_lt hn r32_0]; omega
        have c1 := o32_cl hsp g1
        have c2 := o32_cl hdp g2
        have c3 := o32_cl hn g3
        have hwn : wfc h.length (k0, m1, zCpy f g sp.toNat dp.toNat n.toNat) := wfc_cpy h20 (a7 _ _ e0) (a7 _ _ e1) (by omega) (by omega)
        have hsum := zRm_sum (b := b) (as := as) e5
        have go : ∀ (H1 : Heap) (locs1 : List Loc), va_P D vwCl (zWs as ca (h.set d.toNat (k0, m1, zCpy f g sp.toNat dp.toNat n.toNat))) H1 → va_D A (zWs as ca (h.set d.toNat (k0, m1, zCpy f g sp.toNat dp.toNat n.toNat))) → va_S A H0 H1 locs1 → W p l e R s m args below meth c H1 locs1 (h.length - n0) (zSl h - s0) Q (F0 m (pc + 3) ls (st'.map (cv b as))) := by
          intro H1 locs1 b1 b2 b3
          have := kk as ca ls H1 locs1 (hH.set (cl' := (k0, m1, zCpy f g sp.toNat dp.toNat n.toNat)) e1 rfl hwn b1 b2 b3) (by rw [List.length_set]; exact hF.tl.tl.tl.tl.tl) hp
          simp only [List.length_set] at this
          rw [zSl_set (c' := (k0, m1, zCpy f g sp.toNat dp.toNat n.toNat)) e1 rfl] at this
          exact this
        rcases e4 with q | q
        · have q := Nat.eq_of_beq_eq_true q
          subst q
          rw [zEnt_I] at he0 he1
          refine va_copyi hx hb hsz hown (hts _ (zAny_2 hax)) (hts _ zp_nat) (hts _ zp_stat) (hts _ zp_isys) a2 a4 a5 a6 s1.toNat d.toNat t0 t1 he0 he1 ht0 ht1 rfl p1 p2 p3 (by rw [c1, c3]; omega) (by rw [c2, c3]; omega) (fun _ _ => rfl) hrf (by rw [hnw]; omega) hdec ?_
          intro H1 locs1 b1 b2 b3
          rw [c1, c2, c3, ← zCpy_I, ← zEnt_I (as := as), zWs_set] at b1 b2
          exact go H1 locs1 b1 b2 b3
        · have q := Nat.eq_of_beq_eq_true q
          subst q
          rw [zEnt_J] at he0 he1
          refine va_copyl hx hb hsz hown (hts _ (zAny_2 hax)) (hts _ zp_nat) (hts _ zp_stat) (hts _ zp_isys) a2 a4 a5 a6 s1.toNat d.toNat t0 t1 he0 he1 ht0 ht1 rfl p1 p2 p3 (by rw [c1, c3]; omega) (by rw [c2, c3]; omega) (fun _ _ => rfl) hrf (by rw [hnw]; omega) hdec ?_
          intro H1 locs1 b1 b2 b3
          rw [c1, c2, c3, ← zCpy_J, ← zEnt_J (as := as), zWs_set] at b1 b2
          exact go H1 locs1 b1 b2 b3
      · cases hE
    · cases hE
  · cases hE
theorem zSl_nil {h : zH1} (hs : zSl h - s0 ≤ R.slots) : zSl h - s0 ≤ R.slots := hs
theorem z_mabs {x : Nat} {ax : zAx} (hax1 : ax.1 = 5002) (X : zCx p R s m args meth c A H0 b Ls xs mi) (hdec : decode (zmCode mi) pc = .ok (.invokestatic x, 3)) (hax : zLM.any (fun r => Nat.beq r.1 (zmC mi) && Nat.beq r.2.1 x && Nat.beq r.2.2.1 2) = true) (hrc : h'.length - n0 ≤ R.cells) (hrs : zSl h' - s0 ≤ R.slots)
    (hE : zHop1 Ls (fun j => (xs j).toInt) (.invokestatic x) ax st h = some (gs, st', h')) (kk : zGoal p l e R s m args below meth c Q D A H0 b mi n0 s0 as0 (pc + 3, L, st', h')) : zGoal p l e R s m args below meth c Q D A H0 b mi n0 s0 as0 (pc, L, st, h) := by
  obtain ⟨hx, hb, hml, hown, hts, hkn, hA, hnm, -, hrf, hrl⟩ := X
  simp only [zHop1, hax1] at hE
  split at hE
  · rename_i v r
    split at hE
    · rename_i e1
      cases hE
      intro as ca ls H locs hH hF hp
      dsimp only at hH hF ⊢
      have hsum := zRm_sum (b := b) (as := as) e1
      have hv : zR32 v := hF.hd
      refine va_mabs hx hb (by rw [hml, hF.1.1]) hown (hts _ (zAny_m hax)) (hts _ zp_mabss) (hts _ zp_mini) (hts _ zp_mabsc) hrf (by omega) hrc hrs hdec ?_
      have e2 : (if 0 ≤ Int32.ofInt v then Int32.ofInt v else 0 - Int32.ofInt v) = Int32.ofInt (if v < 0 then wneg v else v) := by
        have hle : 0 ≤ Int32.ofInt v ↔ 0 ≤ v := o32_le r32_0 hv
        by_cases hv0 : v < 0
        · rw [if_neg (fun q => by have := hle.mp q; omega), if_pos hv0, wneg, Int32.ofInt_toInt, Int32.zero_sub]
        · rw [if_pos (hle.mpr (by omega)), if_neg hv0]
      rw [e2]
      exact kk as ca ls H locs hH (hF.tl.push (a := (0, if v < 0 then wneg v else v)) (by
        show zR32 _
        split
        · exact r32 _
        · exact hv)) hp
    · cases hE
  · cases hE
theorem z_mmin {x : Nat} {ax : zAx} (hax1 : ax.1 = 5003) (X : zCx p R s m args meth c A H0 b Ls xs mi) (hdec : decode (zmCode mi) pc = .ok (.invokestatic x, 3)) (hax : zLM.any (fun r => Nat.beq r.1 (zmC mi) && Nat.beq r.2.1 x && Nat.beq r.2.2.1 3) = true) (hrc : h'.length - n0 ≤ R.cells) (hrs : zSl h' - s0 ≤ R.slots)
    (hE : zHop1 Ls (fun j => (xs j).toInt) (.invokestatic x) ax st h = some (gs, st', h')) (kk : zGoal p l e R s m args below meth c Q D A H0 b mi n0 s0 as0 (pc + 3, L, st', h')) : zGoal p l e R s m args below meth c Q D A H0 b mi n0 s0 as0 (pc, L, st, h) := by
  obtain ⟨hx, hb, hml, hown, hts, hkn, hA, hnm, -, hrf, hrl⟩ := X
  simp only [zHop1, hax1] at hE
  split at hE
  · rename_i w v r
    split at hE
    · rename_i e1
      cases hE
      intro as ca ls H locs hH hF hp
      dsimp only at hH hF ⊢
      have hsum := zRm_sum (b := b) (as := as) e1
      have hw : zR32 w := hF.hd
      have hv : zR32 v := hF.tl.hd
      refine va_mmin hx hb (by rw [hml, hF.1.1]) hown (hts _ (zAny_m hax)) (hts _ zp_mmins) (hts _ zp_mini) (hts _ zp_mminc) hrf (by omega) hrc hrs hdec ?_
      have e2 : (if Int32.ofInt w < Int32.ofInt v then Int32.ofInt w else Int32.ofInt v) = Int32.ofInt (if w < v then w else v) := by
        simp only [o32_lt hw hv]
        split <;> rfl
      have := kk as ca ls H locs hH (hF.tl.tl.push (a := (0, if w < v then w else v)) (by
        show zR32 _
        split
        · exact hw
        · exact hv)) hp
      simp only [List.map_cons, cv, ← e2] at this
      exact this
    · cases hE
  · cases hE
theorem z_mmax {x : Nat} {ax : zAx} (hax1 : ax.1 = 5004) (X : zCx p R s m args meth c A H0 b Ls xs mi) (hdec : decode (zmCode mi) pc = .ok (.invokestatic x, 3)) (hax : zLM.any (fun r => Nat.beq r.1 (zmC mi) && Nat.beq r.2.1 x && Nat.beq r.2.2.1 4) = true) (hrc : h'.length - n0 ≤ R.cells) (hrs : zSl h' - s0 ≤ R.slots)
    (hE : zHop1 Ls (fun j => (xs j).toInt) (.invokestatic x) ax st h = some (gs, st', h')) (kk : zGoal p l e R s m args below meth c Q D A H0 b mi n0 s0 as0 (pc + 3, L, st', h')) : zGoal p l e R s m args below meth c Q D A H0 b mi n0 s0 as0 (pc, L, st, h) := by
  obtain ⟨hx, hb, hml, hown, hts, hkn, hA, hnm, -, hrf, hrl⟩ := X
  simp only [zHop1, hax1] at hE
  split at hE
  · rename_i w v r
    split at hE
    · rename_i e1
      cases hE
      intro as ca ls H locs hH hF hp
      dsimp only at hH hF ⊢
      have hsum := zRm_sum (b := b) (as := as) e1
      have hw : zR32 w := hF.hd
      have hv : zR32 v := hF.tl.hd
      refine va_mmax hx hb (by rw [hml, hF.1.1]) hown (hts _ (zAny_m hax)) (hts _ zp_mmaxs) (hts _ zp_mini) (hts _ zp_mmaxc) hrf (by omega) hrc hrs hdec ?_
      have e2 : (if Int32.ofInt v < Int32.ofInt w then Int32.ofInt w else Int32.ofInt v) = Int32.ofInt (if v < w then w else v) := by
        simp only [o32_lt hv hw]
        split <;> rfl
      have := kk as ca ls H locs hH (hF.tl.tl.push (a := (0, if v < w then w else v)) (by
        show zR32 _
        split
        · exact hw
        · exact hv)) hp
      simp only [List.map_cons, cv, ← e2] at this
      exact this
    · cases hE
  · cases hE
theorem z_obj {x : Nat} {ax : zAx} (X : zCx p R s m args meth c A H0 b Ls xs mi) (hdec : decode (zmCode mi) pc = .ok (.invokespecial x, 3)) (hax : ax.1 = 5000 → zLO.any (fun r => Nat.beq r.1 (zmC mi) && Nat.beq r.2.1 x) = true)
    (hE : zHop1 Ls (fun j => (xs j).toInt) (.invokespecial x) ax st h = some (gs, st', h')) (kk : zGoal p l e R s m args below meth c Q D A H0 b mi n0 s0 as0 (pc + 3, L, st', h')) : zGoal p l e R s m args below meth c Q D A H0 b mi n0 s0 as0 (pc, L, st, h) := by
  obtain ⟨hx, hb, hml, hown, hts, hkn, hA, hnm, -, hrf, hrl⟩ := X
  simp only [zHop1] at hE
  split at hE
  · rename_i e0
    have hax := hax (Nat.eq_of_beq_eq_true e0)
    split at hE
    · rename_i o r
      split at hE
      · rename_i e1
        cases hE
        intro as ca ls H locs hH hF hp
        dsimp only at hH hF ⊢
        have hsum := zRm_sum (b := b) (as := as) e1
        exact W.objInit hx hb hown (hts _ (zAny_o hax)) (hts _ zp_obi) (hts _ zp_obc) rfl (by show ls.size = _; rw [hml, hF.1.1]) rfl hdec hrf (by show 2 * 0 + _ + 12 ≤ _; omega) (kk as ca ls H locs hH hF.tl hp)
      · cases hE
    · cases hE
  · cases hE
end ZK
end
section
/-! Every instruction but calls. -/
theorem zLn_eq {i : Instr} {len n : Nat} (h : zLnOk i len = true) (h0 : zLn i = n + 1) : len = n + 1 := by
  unfold zLnOk at h
  rw [h0, Bool.or_eq_true] at h
  rcases h with h | h
  · exact (Nat.eq_of_beq_eq_true h).symm
  · exact absurd (Nat.eq_of_beq_eq_true h) (by omega)
theorem zAny_c {cls x : Nat} {v : Int} (h : zLC.any (fun r => Nat.beq r.1 cls && Nat.beq r.2.1 x && decide (r.2.2.1 = v)) = true) : Cond.constant (zOw cls) x (Int32.ofInt v) ∈ zGW ∧ zR32 v := by
  obtain ⟨r, hr, h1⟩ := List.any_eq_true.mp h
  simp only [Bool.and_eq_true, decide_eq_true_eq] at h1
  obtain ⟨⟨a1, a2⟩, a3⟩ := h1
  have e1 := Nat.eq_of_beq_eq_true a1; have e2 := Nat.eq_of_beq_eq_true a2
  have h5 := zMap zLC_at r hr
  have h6 := List.all_eq_true.mp zLC_r r hr
  simp only [Bool.and_eq_true, decide_eq_true_eq] at h6
  rw [e1, e2, a3] at h5
  rw [a3] at h6
  exact ⟨zAt h5 rfl, h6⟩
theorem zAny_j {cls x : Nat} {v : Int} (h : zLJ.any (fun r => Nat.beq r.1 cls && Nat.beq r.2.1 x && decide (r.2.2.1 = v)) = true) : Cond.constantLong (zOw cls) x (Int64.ofInt v) ∈ zGW ∧ zR64 v := by
  obtain ⟨r, hr, h1⟩ := List.any_eq_true.mp h
  simp only [Bool.and_eq_true, decide_eq_true_eq] at h1
  obtain ⟨⟨a1, a2⟩, a3⟩ := h1
  have e1 := Nat.eq_of_beq_eq_true a1; have e2 := Nat.eq_of_beq_eq_true a2
  have h5 := zMap zLJ_at r hr
  have h6 := List.all_eq_true.mp zLJ_r r hr
  simp only [Bool.and_eq_true, decide_eq_true_eq] at h6
  rw [e1, e2, a3] at h5
  rw [a3] at h6
  exact ⟨zAt h5 rfl, h6⟩
theorem zHp_spec {hop : zHop zH1} {i : Instr} {len : Nat} {ax : zAx} {pc : Nat} {L : zLo} {st : List zAv} {h : zH1} {gs : List Prop} {cf : zCf zH1} (hE : zHp hop i len ax (pc, L, st, h) = some (gs, cf)) : ∃ st' h', hop i ax st h = some (gs, st', h') ∧ cf = (pc + len, L, st', h') := by
  unfold zHp at hE
  simp only at hE
  split at hE
  · rename_i g st' h' e1
    cases hE
    exact ⟨st', h', e1, rfl⟩
  · cases hE
theorem zCk_spec {σ : Type} {b : Bool} {r : zRs σ} {gs : List Prop} {cf : zCf σ} (h : zCk b r = some (gs, cf)) : b = true ∧ r = some (gs, cf) := by
  unfold zCk at h
  split at h
  · exact ⟨rfl, h⟩
  · cases h
section ZM
variable {p : Program} {l : Launch} {e : Env} {R : Room} {s : State} {m : MethodId} {args : Array Value} {below : List Frame} {meth : Method} {c : Code} {Q : State → Prop}
variable {D : va_G} {A : Nat → Prop} {H0 : Heap} {b Ls : Nat} {xs : Nat → Int32} {mi n0 s0 : Nat}
variable {pc pc' : Nat} {L : zLo} {st st' : List zAv} {h h' : zH1} {gs : List Prop} {cf : zCf zH1} {as0 : List Nat}
set_option maxHeartbeats 4000000 in
theorem z_step {i : Instr} {len : Nat} {ax : zAx} {d : Int} (X : zCx p R s m args meth c A H0 b Ls xs mi) (hdec : decode (zmCode mi) pc = .ok (i, len)) (hln : zLnOk i len = true) (hax : zAxOk (zmC mi) (zIsI mi) i ax = true)
    (hE : zX (zHop1 Ls (fun j => (xs j).toInt)) i len ax d (pc, L, st, h) = some (gs, cf)) (hg : zAll gs) (hn : n0 ≤ h.length) (hs : s0 ≤ zSl h) (hrc : cf.2.2.2.length - n0 ≤ R.cells) (hrs : zSl cf.2.2.2 - s0 ≤ R.slots)
    (kk : zGoal p l e R s m args below meth c Q D A H0 b mi n0 s0 as0 cf) : zGoal p l e R s m args below meth c Q D A H0 b mi n0 s0 as0 (pc, L, st, h) := by
  obtain ⟨hx, hb, hml, hown, hts, hX'⟩ := id X
  cases i
  case aload n =>
    have hl := zLn_eq (n := 1) hln rfl; subst hl
    exact z_ld (row := fun as t x ls H locs rest k1 k2 hok hl k => by
      obtain ⟨r, hr⟩ := cv_ref (b := b) (as := as) (x := x) hok
      rw [hr] at hl k
      exact lv_aload hx hb hdec hl k) hE kk
  case aload_n n =>
    have hl := zLn_eq (n := 0) hln rfl; subst hl
    exact z_ld (row := fun as t x ls H locs rest k1 k2 hok hl k => by
      obtain ⟨r, hr⟩ := cv_ref (b := b) (as := as) (x := x) hok
      rw [hr] at hl k
      exact lv_aload_n hx hb hdec rfl hl k) hE kk
  case iload n =>
    have hl := zLn_eq (n := 1) hln rfl; subst hl
    exact z_ld (row := fun as t x ls H locs rest k1 k2 hok hl k => by
      have ht := Nat.eq_of_beq_eq_true hok
      subst ht
      exact lv_iload hx hb hdec hl k) hE kk
  case iload_n n =>
    have hl := zLn_eq (n := 0) hln rfl; subst hl
    exact z_ld (row := fun as t x ls H locs rest k1 k2 hok hl k => by
      have ht := Nat.eq_of_beq_eq_true hok
      subst ht
      exact lv_iload_n hx hb hdec rfl hl k) hE kk
  case lload n =>
    have hl := zLn_eq (n := 1) hln rfl; subst hl
    exact z_ld (row := fun as t x ls H locs rest k1 k2 hok hl k => by
      have ht := Nat.eq_of_beq_eq_true hok
      subst ht
      exact lv_lload hx hb hdec hl k) hE kk
  case lload_n n =>
    have hl := zLn_eq (n := 0) hln rfl; subst hl
    exact z_ld (row := fun as t x ls H locs rest k1 k2 hok hl k => by
      have ht := Nat.eq_of_beq_eq_true hok
      subst ht
      exact lv_lload_n hx hb hdec rfl hl k) hE kk
  case astore n =>
    have hl := zLn_eq (n := 1) hln rfl; subst hl
    exact z_sto (row := fun as t x ls H locs rest k1 k2 hok hn hl kk => by
      obtain ⟨r, hr⟩ := cv_ref (b := b) (as := as) (x := x) hok
      rw [hr] at kk ⊢
      exact lv_astore hx hb hdec hl hn rfl kk) hE kk
  case astore_n n =>
    have hl := zLn_eq (n := 0) hln rfl; subst hl
    exact z_sto (row := fun as t x ls H locs rest k1 k2 hok hn hl kk => by
      obtain ⟨r, hr⟩ := cv_ref (b := b) (as := as) (x := x) hok
      rw [hr] at kk ⊢
      exact lv_astore_n hx hb hdec rfl hl hn rfl kk) hE kk
  case istore n =>
    have hl := zLn_eq (n := 1) hln rfl; subst hl
    exact z_sto (row := fun as t x ls H locs rest k1 k2 hok hn hl kk => by
      have ht := Nat.eq_of_beq_eq_true hok
      subst ht
      exact lv_istore hx hb hdec hl hn rfl kk) hE kk
  case istore_n n =>
    have hl := zLn_eq (n := 0) hln rfl; subst hl
    exact z_sto (row := fun as t x ls H locs rest k1 k2 hok hn hl kk => by
      have ht := Nat.eq_of_beq_eq_true hok
      subst ht
      exact lv_istore_n hx hb hdec rfl hl hn rfl kk) hE kk
  case lstore n =>
    have hl := zLn_eq (n := 1) hln rfl; subst hl
    exact z_stoL (row := fun as x ls H locs rest k1 k2 hn hl kk => lv_lstore hx hb hdec hl hn rfl kk) hE kk
  case lstore_n n =>
    have hl := zLn_eq (n := 0) hln rfl; subst hl
    exact z_stoL (row := fun as x ls H locs rest k1 k2 hn hl kk => lv_lstore_n hx hb hdec rfl hl hn rfl kk) hE kk
  case iconst n =>
    have hl := zLn_eq (n := 0) hln rfl; subst hl
    obtain ⟨e1, e2⟩ := zCk_spec hE
    simp only [Bool.and_eq_true, decide_eq_true_eq] at e1
    exact z_pu (v := (0, n)) (hv := fun _ => (⟨by omega, by omega⟩ : zR32 n)) (row := fun as ls H locs rest k1 k2 k => lv_iconst hx hb hdec rfl k) e2 kk
  case lconst n =>
    have hl := zLn_eq (n := 0) hln rfl; subst hl
    have hn2 : (n : Nat) < 2 := n.isLt
    exact z_pu (v := (1, ((n : Nat) : Int))) (hv := fun _ => (⟨by omega, by omega⟩ : zR64 ((n : Nat) : Int))) (row := fun as ls H locs rest k1 k2 k => lv_lconst hx hb hdec Int64.ofInt_eq_ofNat.symm k) hE kk
  case bipush n =>
    have hl := zLn_eq (n := 1) hln rfl; subst hl
    obtain ⟨e1, e2⟩ := zCk_spec hE
    simp only [Bool.and_eq_true, decide_eq_true_eq] at e1
    exact z_pu (v := (0, n)) (hv := fun _ => (⟨by omega, by omega⟩ : zR32 n)) (row := fun as ls H locs rest k1 k2 k => lv_bipush hx hb hdec (Int8.toInt32_ofInt (by show -128 ≤ n; omega) (by show n ≤ 127; omega)) k) e2 kk
  case sipush n =>
    have hl := zLn_eq (n := 2) hln rfl; subst hl
    obtain ⟨e1, e2⟩ := zCk_spec hE
    simp only [Bool.and_eq_true, decide_eq_true_eq] at e1
    exact z_pu (v := (0, n)) (hv := fun _ => (⟨by omega, by omega⟩ : zR32 n)) (row := fun as ls H locs rest k1 k2 k => lv_sipush hx hb hdec (Int16.toInt32_ofInt (by show -32768 ≤ n; omega) (by show n ≤ 32767; omega)) k) e2 kk
  case ldc x =>
    have hl := zLn_eq (n := 1) hln rfl; subst hl
    obtain ⟨w1, w2⟩ := zAny_c hax
    exact z_pu (v := (0, ax.2.2)) (hv := fun _ => w2) (row := fun as ls H locs rest k1 k2 k => lv_ldc hx hb hown (hts _ w1) hdec k) hE kk
  case ldc_w x =>
    have hl := zLn_eq (n := 2) hln rfl; subst hl
    obtain ⟨w1, w2⟩ := zAny_c hax
    exact z_pu (v := (0, ax.2.2)) (hv := fun _ => w2) (row := fun as ls H locs rest k1 k2 k => lv_ldcw hx hb hown (hts _ w1) hdec k) hE kk
  case ldc2_w x =>
    have hl := zLn_eq (n := 2) hln rfl; subst hl
    obtain ⟨w1, w2⟩ := zAny_j hax
    exact z_pu (v := (1, ax.2.2)) (hv := fun _ => w2) (row := fun as ls H locs rest k1 k2 k => lv_ldc2 hx hb hown (hts _ w1) hdec k) hE kk
  case iadd =>
    have hl := zLn_eq (n := 0) hln rfl; subst hl
    exact z_b0 (hf := fun _ _ => rfl) (row := fun x y ls H locs rest k1 k2 k => lv_iadd hx hb hdec k) hE kk
  case isub =>
    have hl := zLn_eq (n := 0) hln rfl; subst hl
    exact z_b0 (hf := fun _ _ => rfl) (row := fun x y ls H locs rest k1 k2 k => lv_isub hx hb hdec k) hE kk
  case imul =>
    have hl := zLn_eq (n := 0) hln rfl; subst hl
    exact z_b0 (hf := fun _ _ => rfl) (row := fun x y ls H locs rest k1 k2 k => lv_imul hx hb hdec k) hE kk
  case iand =>
    have hl := zLn_eq (n := 0) hln rfl; subst hl
    exact z_b0 (hf := fun _ _ => rfl) (row := fun x y ls H locs rest k1 k2 k => lv_iand hx hb hdec k) hE kk
  case ior =>
    have hl := zLn_eq (n := 0) hln rfl; subst hl
    exact z_b0 (hf := fun _ _ => rfl) (row := fun x y ls H locs rest k1 k2 k => lv_ior hx hb hdec k) hE kk
  case ixor =>
    have hl := zLn_eq (n := 0) hln rfl; subst hl
    exact z_b0 (hf := fun _ _ => rfl) (row := fun x y ls H locs rest k1 k2 k => lv_ixor hx hb hdec k) hE kk
  case ishl =>
    have hl := zLn_eq (n := 0) hln rfl; subst hl
    exact z_b0 (hf := fun _ _ => rfl) (row := fun x y ls H locs rest k1 k2 k => lv_ishl hx hb hdec k) hE kk
  case ishr =>
    have hl := zLn_eq (n := 0) hln rfl; subst hl
    exact z_b0 (hf := fun _ _ => rfl) (row := fun x y ls H locs rest k1 k2 k => lv_ishr hx hb hdec k) hE kk
  case iushr =>
    have hl := zLn_eq (n := 0) hln rfl; subst hl
    exact z_b0 (F := fun x y => (x.toUInt32 >>> (y.toUInt32 &&& Int32.toUInt32 31)).toInt32) (hf := fun _ _ => rfl) (row := fun x y ls H locs rest k1 k2 k => lv_iushr hx hb hdec rfl k) hE kk
  case idiv =>
    have hl := zLn_eq (n := 0) hln rfl; subst hl
    exact z_b0d (hf := fun _ _ => rfl) (row := fun x y ls H locs rest k1 k2 hy k => lv_idiv hx hb hdec hy k) hE hg kk
  case irem =>
    have hl := zLn_eq (n := 0) hln rfl; subst hl
    exact z_b0d (F := fun x y => x - x / y * y) (hf := fun _ _ => rfl) (row := fun x y ls H locs rest k1 k2 hy k => lv_irem hx hb hdec hy k) hE hg kk
  case ladd =>
    have hl := zLn_eq (n := 0) hln rfl; subst hl
    exact z_b1 (hf := fun _ _ => rfl) (row := fun x y ls H locs rest k1 k2 k => lv_ladd hx hb hdec k) hE kk
  case lsub =>
    have hl := zLn_eq (n := 0) hln rfl; subst hl
    exact z_b1 (hf := fun _ _ => rfl) (row := fun x y ls H locs rest k1 k2 k => lv_lsub hx hb hdec k) hE kk
  case lmul =>
    have hl := zLn_eq (n := 0) hln rfl; subst hl
    exact z_b1 (hf := fun _ _ => rfl) (row := fun x y ls H locs rest k1 k2 k => lv_lmul hx hb hdec k) hE kk
  case lor =>
    have hl := zLn_eq (n := 0) hln rfl; subst hl
    exact z_b1 (hf := fun _ _ => rfl) (row := fun x y ls H locs rest k1 k2 k => lv_lor hx hb hdec k) hE kk
  case ldiv =>
    have hl := zLn_eq (n := 0) hln rfl; subst hl
    exact z_b1d (hf := fun _ _ => rfl) (row := fun x y ls H locs rest k1 k2 hy k => lv_ldiv hx hb hdec hy k) hE hg kk
  case lrem =>
    have hl := zLn_eq (n := 0) hln rfl; subst hl
    exact z_b1d (F := fun x y => x - x / y * y) (hf := fun _ _ => rfl) (row := fun x y ls H locs rest k1 k2 hy k => lv_lrem hx hb hdec hy k) hE hg kk
  case lshl =>
    have hl := zLn_eq (n := 0) hln rfl; subst hl
    exact z_b10 (F := fun x y => x <<< (y.toInt64 &&& 63)) (hf := fun _ _ => rfl) (row := fun x y ls H locs rest k1 k2 k => lv_lshl hx hb hdec rfl k) hE kk
  case lshr =>
    have hl := zLn_eq (n := 0) hln rfl; subst hl
    exact z_b10 (F := fun x y => x >>> (y.toInt64 &&& 63)) (hf := fun _ _ => rfl) (row := fun x y ls H locs rest k1 k2 k => lv_lshr hx hb hdec rfl k) hE kk
  case lcmp =>
    have hl := zLn_eq (n := 0) hln rfl; subst hl
    exact z_cp (row := fun x y ls H locs rest k1 k2 k => W.lcmp hx hb hdec k) hE kk
  case ineg =>
    have hl := zLn_eq (n := 0) hln rfl; subst hl
    exact z_u (u := 0) (t := 0) (f := wneg) (hf := fun _ x _ => r32 _) (row := fun n as x ls H locs rest k1 k2 hv k => lv_ineg hx hb hdec (by
      simp only [cv, wneg, Int32.ofInt_toInt] at k
      exact k)) hE kk
  case i2l =>
    have hl := zLn_eq (n := 0) hln rfl; subst hl
    exact z_u (u := 0) (t := 1) (f := fun x => x) (hf := fun _ x hv => (⟨by have := hv.1; omega, by have := hv.2; omega⟩ : zR64 x)) (row := fun n as x ls H locs rest k1 k2 hv k => lv_i2l hx hb hdec (Int32.toInt64_ofInt (by show -2147483648 ≤ x; exact hv.1) (by show x ≤ 2147483647; have := hv.2; omega)) k) hE kk
  case l2i =>
    have hl := zLn_eq (n := 0) hln rfl; subst hl
    exact z_u (u := 1) (t := 0) (f := wl2i) (hf := fun _ x _ => r32 _) (row := fun n as x ls H locs rest k1 k2 hv k => lv_l2i hx hb hdec rfl (by
      simp only [cv, wl2i, Int32.ofInt_toInt] at k
      exact k)) hE kk
  case dup =>
    have hl := zLn_eq (n := 0) hln rfl; subst hl
    exact z_dup (row := fun va ls H locs rest k1 k2 hv k => lv_dup hx hb hdec hv k) hE kk
  case pop =>
    have hl := zLn_eq (n := 0) hln rfl; subst hl
    exact z_pop (row := fun va ls H locs rest k1 k2 hv k => lv_pop hx hb hdec hv k) hE kk
  case dup2 =>
    have hl := zLn_eq (n := 0) hln rfl; subst hl
    exact z_dup2 (row := fun va vb ls H locs rest k1 k2 hv hw k => lv_dup2_11 hx hb hdec hv hw k) hE kk
  case iinc n k =>
    have hl := zLn_eq (n := 2) hln rfl; subst hl
    exact z_ii (n := n) (k := k) (row := fun as x j ls H locs rest k1 k2 hn hl hj kk => lv_iinc hx hb hdec hl hj (v := Int32.ofInt (wadd x k)) (by
      rw [wadd, Int32.ofInt_toInt]) hn rfl kk) hE kk
  case ifCond k off =>
    have hl := zLn_eq (n := 2) hln rfl; subst hl
    cases k
    case eq => exact z_if (k := .eq) (off := off) (P := fun x : Int32 => x = 0) (hP := fun x hx2 => o32_eq hx2 r32_0) (row := fun tgt x ls H locs rest k1 k2 ht kt kf => lv_if_eq hx hb hdec ht kt kf) hE hg kk
    case ne => exact z_if (k := .ne) (off := off) (P := fun x : Int32 => ¬ x = 0) (hP := fun x hx2 => not_congr (o32_eq hx2 r32_0)) (row := fun tgt x ls H locs rest k1 k2 ht kt kf => lv_if_ne hx hb hdec ht kt (fun q => kf (fun z => z q))) hE hg kk
    case lt => exact z_if (k := .lt) (off := off) (P := fun x : Int32 => x < 0) (hP := fun x hx2 => o32_lt hx2 r32_0) (row := fun tgt x ls H locs rest k1 k2 ht kt kf => lv_if_lt hx hb hdec ht kt kf) hE hg kk
    case ge => exact z_if (k := .ge) (off := off) (P := fun x : Int32 => 0 ≤ x) (hP := fun x hx2 => o32_le r32_0 hx2) (row := fun tgt x ls H locs rest k1 k2 ht kt kf => lv_if_ge hx hb hdec ht kt kf) hE hg kk
    case gt => exact z_if (k := .gt) (off := off) (P := fun x : Int32 => 0 < x) (hP := fun x hx2 => o32_lt r32_0 hx2) (row := fun tgt x ls H locs rest k1 k2 ht kt kf => lv_if_gt hx hb hdec ht kt kf) hE hg kk
    case le => exact z_if (k := .le) (off := off) (P := fun x : Int32 => x ≤ 0) (hP := fun x hx2 => o32_le hx2 r32_0) (row := fun tgt x ls H locs rest k1 k2 ht kt kf => lv_if_le hx hb hdec ht kt kf) hE hg kk
  case if_icmp k off =>
    have hl := zLn_eq (n := 2) hln rfl; subst hl
    cases k
    case eq => exact z_ic (k := .eq) (off := off) (P := fun x y : Int32 => x = y) (hP := fun x y hx2 hy2 => o32_eq hx2 hy2) (row := fun tgt x y ls H locs rest k1 k2 ht kt kf => lv_icmp_eq hx hb hdec ht kt kf) hE hg kk
    case ne => exact z_ic (k := .ne) (off := off) (P := fun x y : Int32 => ¬ x = y) (hP := fun x y hx2 hy2 => not_congr (o32_eq hx2 hy2)) (row := fun tgt x y ls H locs rest k1 k2 ht kt kf => lv_icmp_ne hx hb hdec ht kt (fun q => kf (fun z => z q))) hE hg kk
    case lt => exact z_ic (k := .lt) (off := off) (P := fun x y : Int32 => x < y) (hP := fun x y hx2 hy2 => o32_lt hx2 hy2) (row := fun tgt x y ls H locs rest k1 k2 ht kt kf => lv_icmp_lt hx hb hdec ht kt kf) hE hg kk
    case ge => exact z_ic (k := .ge) (off := off) (P := fun x y : Int32 => y ≤ x) (hP := fun x y hx2 hy2 => o32_le hy2 hx2) (row := fun tgt x y ls H locs rest k1 k2 ht kt kf => lv_icmp_ge hx hb hdec ht kt kf) hE hg kk
    case gt => exact z_ic (k := .gt) (off := off) (P := fun x y : Int32 => y < x) (hP := fun x y hx2 hy2 => o32_lt hy2 hx2) (row := fun tgt x y ls H locs rest k1 k2 ht kt kf => lv_icmp_gt hx hb hdec ht kt kf) hE hg kk
    case le => exact z_ic (k := .le) (off := off) (P := fun x y : Int32 => x ≤ y) (hP := fun x y hx2 hy2 => o32_le hx2 hy2) (row := fun tgt x y ls H locs rest k1 k2 ht kt kf => lv_icmp_le hx hb hdec ht kt kf) hE hg kk
  case goto off =>
    have hl := zLn_eq (n := 2) hln rfl; subst hl
    exact z_go (row := fun tgt ls H locs rest k1 k2 ht k => lv_goto hx hb hdec ht k) hE kk
  case tableswitch dflt lo hi offs =>
    exact z_ts (len := len) (rowO := fun tgt x ls H locs rest k1 k2 h1 ht k => lv_tableOut hx hb hdec h1 ht k) (rowI := fun tgt off x ls H locs rest k1 k2 h1 h2 ho ht k => lv_tableIn hx hb hdec h1 h2 ho ht k) hE hg kk
  case lookupswitch dflt ps =>
    exact z_ls (row := fun tgt off x ls H locs rest k1 k2 hp ho ht k => lv_lookup hx hb hdec hp ho ht k) hE hg kk
  case getfield x =>
    have hl := zLn_eq (n := 2) hln rfl; subst hl
    obtain ⟨st', h', e1, rfl⟩ := zHp_spec hE
    exact z_getf (len := 3) X hdec hax e1 hg kk
  case putfield x =>
    have hl := zLn_eq (n := 2) hln rfl; subst hl
    obtain ⟨st', h', e1, rfl⟩ := zHp_spec hE
    exact z_putf X hdec hax e1 hg kk
  case iaload =>
    have hl := zLn_eq (n := 0) hln rfl; subst hl
    obtain ⟨st', h', e1, rfl⟩ := zHp_spec hE
    exact z_sld X hdec hax e1 hg kk
  case laload =>
    have hl := zLn_eq (n := 0) hln rfl; subst hl
    obtain ⟨st', h', e1, rfl⟩ := zHp_spec hE
    exact z_lald X hdec e1 hg kk
  case baload =>
    have hl := zLn_eq (n := 0) hln rfl; subst hl
    obtain ⟨st', h', e1, rfl⟩ := zHp_spec hE
    exact z_zald X hdec e1 hg kk
  case aaload =>
    have hl := zLn_eq (n := 0) hln rfl; subst hl
    obtain ⟨st', h', e1, rfl⟩ := zHp_spec hE
    simp only [zHop1] at e1
    split at e1
    · rename_i e2
      rw [Bool.or_eq_true] at e2
      exact z_aald (e2.imp (fun z => Nat.eq_of_beq_eq_true z) (fun z => Nat.eq_of_beq_eq_true z)) X hdec e1 hg kk
    · cases e1
  case iastore =>
    have hl := zLn_eq (n := 0) hln rfl; subst hl
    obtain ⟨st', h', e1, rfl⟩ := zHp_spec hE
    exact z_iast X hdec e1 hg kk
  case lastore =>
    have hl := zLn_eq (n := 0) hln rfl; subst hl
    obtain ⟨st', h', e1, rfl⟩ := zHp_spec hE
    exact z_last X hdec e1 hg kk
  case bastore =>
    have hl := zLn_eq (n := 0) hln rfl; subst hl
    obtain ⟨st', h', e1, rfl⟩ := zHp_spec hE
    exact z_zast X hdec e1 hg kk
  case aastore =>
    have hl := zLn_eq (n := 0) hln rfl; subst hl
    obtain ⟨st', h', e1, rfl⟩ := zHp_spec hE
    exact z_aast X hdec e1 hg kk
  case arraylength =>
    have hl := zLn_eq (n := 0) hln rfl; subst hl
    obtain ⟨st', h', e1, rfl⟩ := zHp_spec hE
    exact z_alen X hdec hax e1 kk
  case new x =>
    have hl := zLn_eq (n := 2) hln rfl; subst hl
    obtain ⟨st', h', e1, rfl⟩ := zHp_spec (hop := zHop1 Ls (fun j => (xs j).toInt)) (i := .new x) (len := 3) (ax := ax) (pc := pc) (L := L) (st := st) (h := h) hE
    exact z_new X hdec hax e1 hn hs hrc hrs kk
  case newarray ty =>
    have hl := zLn_eq (n := 1) hln rfl; subst hl
    obtain ⟨st', h', e1, rfl⟩ := zHp_spec hE
    exact z_newa X hdec e1 hg hn hs hrc hrs kk
  case anewarray x =>
    have hl := zLn_eq (n := 2) hln rfl; subst hl
    obtain ⟨st', h', e1, rfl⟩ := zHp_spec hE
    exact z_newq X hdec hax e1 hg hn hs hrc hrs kk
  case invokestatic x =>
    have hl := zLn_eq (n := 2) hln rfl; subst hl
    obtain ⟨st', h', e1, rfl⟩ := zHp_spec hE
    by_cases h1 : ax.1 = 5001
    · have hax : zLY.any (fun r => Nat.beq r.1 (zmC mi) && Nat.beq r.2.1 x) = true := by
        simp only [zAxOk, h1] at hax
        exact hax
      exact z_copy h1 X hdec hax e1 hg kk
    by_cases h2 : ax.1 = 5002
    · have hax : zLM.any (fun r => Nat.beq r.1 (zmC mi) && Nat.beq r.2.1 x && Nat.beq r.2.2.1 2) = true := by
        simp only [zAxOk, h2] at hax
        exact hax
      exact z_mabs h2 X hdec hax hrc hrs e1 kk
    by_cases h3 : ax.1 = 5003
    · have hax : zLM.any (fun r => Nat.beq r.1 (zmC mi) && Nat.beq r.2.1 x && Nat.beq r.2.2.1 3) = true := by
        simp only [zAxOk, h3] at hax
        exact hax
      exact z_mmin h3 X hdec hax hrc hrs e1 kk
    by_cases h4 : ax.1 = 5004
    · have hax : zLM.any (fun r => Nat.beq r.1 (zmC mi) && Nat.beq r.2.1 x && Nat.beq r.2.2.1 4) = true := by
        simp only [zAxOk, h4] at hax
        exact hax
      exact z_mmax h4 X hdec hax hrc hrs e1 kk
    exfalso
    simp only [zHop1] at e1
    cases e1
  case invokespecial x =>
    have hl := zLn_eq (n := 2) hln rfl; subst hl
    obtain ⟨st', h', e1, rfl⟩ := zHp_spec hE
    exact z_obj X hdec (fun q => by
      simp only [zAxOk, q] at hax
      exact hax) e1 kk
  all_goals (have q : (none : zRs zH1) = some (gs, cf) := hE; cases q)
end ZM
end
section
/-! Runs of the abstract machine: places of one method, calls by depth. -/
def zFl : List zAv → zLo
  | [] => []
  | (t, x) :: r => match Nat.beq t 1 with
    | true => some (t, x) :: none :: zFl r
    | false => some (t, x) :: zFl r
def zEntry (args : List zAv) (n : Nat) : zLo := zFl args ++ List.replicate (n - (zFl args).length) none
def zNa (i : Instr) (k : Nat) : Nat := match i with
  | .invokestatic _ => zmN k
  | _ => zmN k + 1
def zIsCall (i : Instr) (k : Nat) : Bool := match i with
  | .invokestatic _ => true
  | .invokevirtual _ => true
  | .invokespecial _ => true
  | _ => false
def zSub (L L' : zLo) : Prop := L.length = L'.length ∧ ∀ (i : Nat) (a : zAv), zGl L i = some a → zGl L' i = some a
section ZR
variable {σ : Type}
abbrev zRn (σ : Type) : Type := Nat → List zAv → σ → Option zAv → σ → Prop
abbrev zRc (σ : Type) : Type := σ → zAv → Nat → Prop
def zStepX (hop : zHop σ) (mi : Nat) (c c' : zCf σ) : Prop := ∃ (i : Instr) (len : Nat) (ax : zAx) (d : Int) (gs : List Prop), decode (zmCode mi) c.1 = .ok (i, len) ∧ zLnOk i len = true ∧ zAxOk (zmC mi) (zIsI mi) i ax = true ∧ zX hop i len ax d c = some (gs, c') ∧ zAll gs
def zStepC (rc : zRc σ) (run : zRn σ) (mi : Nat) (c c' : zCf σ) : Prop := ∃ (i : Instr) (ax : zAx) (args rest : List zAv) (r : Option zAv) (h1 : σ), decode (zmCode mi) c.1 = .ok (i, 3) ∧ zIsCall i ax.1 = true ∧ zAxOk (zmC mi) (zIsI mi) i ax = true ∧ ax.1 < 295 ∧ ¬ zmC ax.1 = 14 ∧ c.2.2.1 = args.reverse ++ rest ∧ args.length = zNa i ax.1 ∧ (∀ x, i = .invokevirtual x → ∃ a, args[0]? = some a ∧ rc c.2.2.2 a (zmC ax.1)) ∧ (∀ x, i = .invokespecial x → ∃ a, args[0]? = some a ∧ zGe2 a.1 = true) ∧ Nat.ble rest.length 4 = true ∧ args.all (fun a => !Nat.beq a.1 5) = true ∧ run ax.1 args c.2.2.2 r h1 ∧ c' = (c.1 + 3, c.2.1, r.toList ++ rest, h1)
def zStepF (c c' : zCf σ) : Prop := c'.1 = c.1 ∧ c'.2.2 = c.2.2 ∧ zSub c'.2.1 c.2.1
def zStep (hop : zHop σ) (rc : zRc σ) (run : zRn σ) (mi : Nat) (c c' : zCf σ) : Prop := zStepX hop mi c c' ∨ zStepC rc run mi c c' ∨ zStepF c c'
def zReach (hop : zHop σ) (rc : zRc σ) (run : zRn σ) (mi : Nat) : Nat → zCf σ → zCf σ → Prop
  | 0, c, c' => c = c'
  | n + 1, c, c' => ∃ c1, zStep hop rc run mi c c1 ∧ zReach hop rc run mi n c1 c'
def zRet (mi : Nat) (c : zCf σ) (r : Option zAv) : Prop :=
  (decode (zmCode mi) c.1 = .ok (.ireturn, 1) ∧ ∃ v, c.2.2.1 = [(0, v)] ∧ r = some (0, v) ∧ (zmRet mi = some .int ∨ (zmRet mi = some .boolean ∧ (v = 0 ∨ v = 1)))) ∨
  (decode (zmCode mi) c.1 = .ok (.lreturn, 1) ∧ ∃ v, c.2.2.1 = [(1, v)] ∧ r = some (1, v) ∧ zmRet mi = some .long) ∨
  (decode (zmCode mi) c.1 = .ok (.return_, 1) ∧ c.2.2.1 = [] ∧ r = none ∧ zmRet mi = none)
/-- spec: methods that are told, not run -/
def zRun (hop : zHop σ) (rc : zRc σ) (spec : zRn σ) : Nat → zRn σ
  | 0 => fun _ _ _ _ _ => False
  | d + 1 => fun mi args h r h' => (7 ≤ d ∧ spec mi args h r h') ∨ (mi < 295 ∧ ¬ zmC mi = 14 ∧ (zFl args).length ≤ zmMax mi ∧ ∃ (n pc : Nat) (L : zLo) (st : List zAv), zReach hop rc (zRun hop rc spec d) mi n (0, zEntry args (zmMax mi), [], h) (pc, L, st, h') ∧ zRet mi (pc, L, st, h') r)
end ZR
theorem zl_set {h : zH1} {k : Nat} {c' : zCe} : (h.set k c').length = h.length := List.length_set
theorem zX_mono {Ls : Nat} {xs : Nat → Int} {i : Instr} {ax : zAx} {st st' : List zAv} {h h' : zH1} {gs : List Prop} (hE : zHop1 Ls xs i ax st h = some (gs, st', h')) : h.length ≤ h'.length ∧ zSl h ≤ zSl h' := by
  have sA : ∀ {kd t : Nat} {g : Int → List Prop}, zStA kd t g st h = some (gs, st', h') → h.length ≤ h'.length ∧ zSl h ≤ zSl h' := by
    intro kd t g hE
    unfold zStA at hE
    split at hE
    · split at hE
      · rename_i e1
        split at hE
        · cases hE
          refine ⟨by rw [zl_set]; exact Nat.le_refl _, ?_⟩
          exact Nat.le_of_eq (Eq.symm (zSl_set e1 rfl))
        · cases hE
      · cases hE
    · cases hE
  have lA : ∀ {kd t : Nat} {b : Bool}, zLdA kd t b st h = some (gs, st', h') → h.length ≤ h'.length ∧ zSl h ≤ zSl h' := by
    intro kd t b hE
    unfold zLdA at hE
    split at hE
    · split at hE
      · split at hE
        · cases hE
          exact ⟨Nat.le_refl _, Nat.le_refl _⟩
        · cases hE
      · cases hE
    · cases hE
  cases i
  case getfield x =>
    simp only [zHop1] at hE
    repeat' split at hE
    all_goals first | (cases hE; exact ⟨Nat.le_refl _, Nat.le_refl _⟩) | cases hE
  case putfield x =>
    simp only [zHop1] at hE
    split at hE
    · split at hE
      · rename_i e1
        split at hE
        · cases hE
          refine ⟨by rw [zl_set]; exact Nat.le_refl _, ?_⟩
          exact Nat.le_of_eq (Eq.symm (zSl_set e1 rfl))
        · cases hE
      · cases hE
    · cases hE
  case iaload =>
    simp only [zHop1] at hE
    split at hE
    · split at hE
      · cases hE; exact ⟨Nat.le_refl _, Nat.le_refl _⟩
      · cases hE
    · exact lA hE
  case laload => exact lA (kd := 21) (t := 1) (b := false) hE
  case baload => exact lA (kd := 22) (t := 0) (b := false) hE
  case aaload =>
    simp only [zHop1] at hE
    split at hE
    · exact lA hE
    · cases hE
  case iastore => exact sA hE
  case lastore => exact sA hE
  case bastore => exact sA hE
  case aastore =>
    simp only [zHop1] at hE
    split at hE
    · split at hE
      · split at hE
        · exact sA hE
        · cases hE
      · cases hE
    · cases hE
  case arraylength =>
    simp only [zHop1] at hE
    repeat' split at hE
    all_goals first | (cases hE; exact ⟨Nat.le_refl _, Nat.le_refl _⟩) | cases hE
  case new x =>
    cases hE
    rw [zSl_app]
    simp
  case newarray ty =>
    simp only [zHop1] at hE
    split at hE
    · split at hE
      · cases hE
        rw [zSl_app]
        simp
      · cases hE
    · cases hE
  case anewarray x =>
    simp only [zHop1] at hE
    split at hE
    · split at hE
      · cases hE
        rw [zSl_app]
        simp
      · cases hE
    · cases hE
  case invokestatic x =>
    simp only [zHop1] at hE
    split at hE
    · split at hE
      · split at hE
        · rename_i e0 e1
          split at hE
          · cases hE
            refine ⟨by rw [zl_set]; exact Nat.le_refl _, ?_⟩
            exact Nat.le_of_eq (Eq.symm (zSl_set e1 rfl))
          · cases hE
        · cases hE
      · cases hE
    all_goals (repeat' split at hE)
    all_goals first | (cases hE; exact ⟨Nat.le_refl _, Nat.le_refl _⟩) | cases hE
  case invokespecial x =>
    simp only [zHop1] at hE
    repeat' split at hE
    all_goals first | (cases hE; exact ⟨Nat.le_refl _, Nat.le_refl _⟩) | cases hE
  all_goals (have q : (none : Option (List Prop × List zAv × zH1)) = some (gs, st', h') := hE; cases q)
/-- all but the heap's instructions leave the heap -/
theorem zX_heap {σ : Type} {hop : zHop σ} {i : Instr} {len : Nat} {ax : zAx} {d : Int} {c c' : zCf σ} {gs : List Prop} (hE : zX hop i len ax d c = some (gs, c')) : c'.2.2.2 = c.2.2.2 ∨ ∃ (n : Nat) (st' : List zAv), hop i ax c.2.2.1 c.2.2.2 = some (gs, st', c'.2.2.2) ∧ c' = (c.1 + n, c.2.1, st', c'.2.2.2) := by
  obtain ⟨pc, L, st, h⟩ := c
  have hp : ∀ {n : Nat}, zHp hop i n ax (pc, L, st, h) = some (gs, c') → ∃ (n : Nat) (st' : List zAv), hop i ax st h = some (gs, st', c'.2.2.2) ∧ c' = (pc + n, L, st', c'.2.2.2) := by
    intro n hE
    unfold zHp at hE
    simp only at hE
    split at hE
    · rename_i e1
      cases hE
      exact ⟨n, _, e1, rfl⟩
    · cases hE
  have br : ∀ {g : Prop} {off d : Int} {r : List zAv}, zBr g off d r (pc, L, st, h) = some (gs, c') → c'.2.2.2 = h := by
    intro g off d r hE
    unfold zBr at hE
    repeat' split at hE
    all_goals first | (cases hE; rfl) | cases hE
  cases i
  case getfield x => exact Or.inr (hp hE)
  case putfield x => exact Or.inr (hp hE)
  case iaload => exact Or.inr (hp hE)
  case iastore => exact Or.inr (hp hE)
  case laload => exact Or.inr (hp hE)
  case lastore => exact Or.inr (hp hE)
  case baload => exact Or.inr (hp hE)
  case bastore => exact Or.inr (hp hE)
  case aaload => exact Or.inr (hp hE)
  case aastore => exact Or.inr (hp hE)
  case arraylength => exact Or.inr (hp hE)
  case new x => exact Or.inr (hp hE)
  case newarray x => exact Or.inr (hp hE)
  case anewarray x => exact Or.inr (hp hE)
  case invokestatic x => exact Or.inr (hp hE)
  case invokespecial x => exact Or.inr (hp hE)
  case ifCond k off =>
    left
    simp only [zX, zIf] at hE
    split at hE
    · exact br hE
    · cases hE
  case if_icmp k off =>
    left
    simp only [zX, zIc] at hE
    split at hE
    · exact br hE
    · cases hE
  all_goals left
  all_goals simp only [zX, zLd, zSto, zStoL, zCk, zPu, zB0, zB0d, zB1, zB1d, zB10, zCp, zU, zDup, zPop, zDup2, zIi, zGo, zTs, zLs] at hE
  all_goals (repeat' split at hE)
  all_goals first | (cases hE; rfl) | cases hE
end
section
/-! What the abstract machine runs the real one runs: a contract a method. -/
def zKnH (D : va_G) (U : State) (ca : Nat → ClassId) (h : zH1) : Prop := (∃ tys, va_K D vwCl tys U ∧ ∀ (k : Nat) (c : zCe), h[k]? = some c → 20 ≤ c.1 → ∃ t0 : Nat, tys[t0]? = some (ca k, zAk c.1))
def zPre (D : va_G) (as : List Nat) (ca : Nat → ClassId) (h : zH1) (U : State) : Prop :=
  as.length = h.length ∧ zKnH D U ca h ∧ va_P D vwCl (zWs as ca h) U.heap ∧ va_D (fun _ => True) (zWs as ca h) ∧ (∀ (k : Nat) (c : zCe), h[k]? = some c → wfc h.length c) ∧ zKnS U
def zQc (D : va_G) (b : Nat) (as : List Nat) (ca : Nat → ClassId) (h : zH1) (sz : Nat) (r : Option zAv) (h' : zH1) : Array Value → State → Outcome → State → Prop := fun _ st o t =>
  (∃ (as' : List Nat) (ca' : Nat → ClassId), o = .returned (r.map (cv b as')) ∧ as <+: as' ∧ as'.length = h'.length ∧ zKnH D t ca' h' ∧ va_P D vwCl (zWs as' ca' h') t.heap ∧ va_D (va_A (zWs as ca h) sz) (zWs as' ca' h') ∧ (∀ (k : Nat) (c : zCe), h'[k]? = some c → wfc h'.length c) ∧ ∀ a, r = some a → wfv h'.length False a) ∧ va_F (va_A (zWs as ca h) sz) st t
def zWd (mi : Nat) : List Cond := Cond.code (zmY mi) (zmCode mi) (zmMax mi) (zmRet mi) :: zGW
def zRm1 (d mc ms : Nat) : Room := { frames := d, cells := mc, slots := ms, locals := 60 * d }
/-- the contract of a run of method mi, at depth d -/
def zMet (l : Launch) (d mi : Nat) (args : List zAv) (h : zH1) (r : Option zAv) (h' : zH1) : Prop :=
  h.length ≤ h'.length ∧ zSl h ≤ zSl h' ∧ ∀ (D : va_G) (b : Nat) (as : List Nat) (ca : Nat → ClassId) (sz : Nat), (∀ a ∈ args, wfv h.length False a) →
    Met l (zmY mi) (zWd mi) (zRm1 d (h'.length - h.length) (zSl h' - zSl h)) (va_Pc (args.map (cv b as)) (fun U => U.heap.size = sz ∧ zPre D as ca h U)) (zQc D b as ca h sz r h') (h'.length - h.length) (zSl h' - zSl h) (va_A (zWs as ca h) sz)
theorem zKnS_warm {s U : State} (hW : s.WarmedH U.vm) (h : zKnS s) : zKnS U :=
  ⟨va_AO.moved hW.alike h.1, va_AO.moved hW.alike h.2.1, fun r hr => va_Nw.warmM hW (h.2.2.1 r hr), fun r hr => va_Nw.warmM hW (h.2.2.2 r hr)⟩
theorem zKnS_same {u U : State} (hv : u.vm = U.vm) (h : zKnS u) : zKnS U :=
  ⟨va_AO.moved (by rw [← hv]; exact Vm.Alike.refl _) h.1, va_AO.moved (by rw [← hv]; exact Vm.Alike.refl _) h.2.1, fun r hr => va_Nw.same rfl hv (h.2.2.1 r hr), fun r hr => va_Nw.same rfl hv (h.2.2.2 r hr)⟩
theorem zKnH.moved {D : va_G} {u U : State} {ca : Nat → ClassId} {h : zH1} (hv : u.vm.Alike U.vm) (hk : zKnH D u ca h) : zKnH D U ca h := by
  obtain ⟨tys, h1, h2⟩ := hk
  exact ⟨tys, va_K.moved hv h1, h2⟩
theorem zBlind {D : va_G} {av : List Value} {as : List Nat} {ca : Nat → ClassId} {h : zH1} {sz : Nat} : FrameBlind (va_Pc av (fun U => U.heap.size = sz ∧ zPre D as ca h U)) := fun a U g mk q =>
  ⟨q.1, q.2.1, q.2.2.1, zKnH.moved (u := U) (U := U.calling g mk a) (Vm.Alike.refl U.vm) q.2.2.2.1, q.2.2.2.2.1, q.2.2.2.2.2.1, q.2.2.2.2.2.2.1, zKnS_same (u := U) (U := U.calling g mk a) rfl q.2.2.2.2.2.2.2⟩
theorem cv_pre {b : Nat} {as as' : List Nat} {sc : Prop} {a : zAv} (hp : as <+: as') (h : wfv as.length sc a) : cv b as' a = cv b as a := by
  obtain ⟨tl, rfl⟩ := hp
  obtain ⟨t, x⟩ := a
  unfold cv wfv at *
  simp only at *
  split
  · rfl
  · rfl
  · obtain ⟨h1, h2⟩ := h
    rw [List.getD_eq_getElem?_getD, List.getElem?_append_left (by omega), ← List.getD_eq_getElem?_getD]
  · rfl
theorem wfv_sc {n : Nat} {sc : Prop} {a : zAv} (h : wfv n False a) : wfv n sc a := by
  obtain ⟨t, x⟩ := a
  unfold wfv at *
  simp only at *
  split at h
  · exact h
  · exact h
  · exact h
  · exact h.elim
  · exact h.elim
section ZC
variable {p : Program} {l : Launch} {e : Env} {R : Room} {s : State} {m : MethodId} {args : Array Value} {below : List Frame} {meth : Method} {c : Code} {Q : State → Prop}
variable {D : va_G} {A : Nat → Prop} {H0 : Heap} {b Ls : Nat} {xs : Nat → Int32} {mi n0 s0 : Nat}
theorem zA_of {as : List Nat} {ca : Nat → ClassId} {h : zH1} {H : Heap} {locs : List Loc} (hD : va_D A (zWs as ca h)) (hS : va_S A H0 H locs) (hA : ∀ q, H0.size ≤ q → A q) : ∀ q, va_A (zWs as ca h) H.size q → A q := by
  intro q hq
  rcases hq with ⟨k, ee, hk⟩ | hq
  · exact hD.2 k (q, ee) hk
  · exact hA q (Nat.le_trans hS.1 hq)
/-- behind a call -/
theorem z_back {as : List Nat} {ca : Nat → ClassId} {h h1 : zH1} {H : Heap} {locs : List Loc} {ls : Array Slot} {L : zLo} {pc mc ms k1 k2 : Nat} {st0 : List Value} {rest : List zAv} {r : Option zAv} {as0 : List Nat} {a : Array Value}
    (hA : ∀ q, H0.size ≤ q → A q) (hH : zHR s D A H0 as ca h H locs) (hF : zFR b (zmC mi = 16) as h.length L rest ls (zmMax mi)) (hp : as0 <+: as) (hle : h.length ≤ h1.length) (ek1 : k1 + mc = h1.length - n0) (ek2 : k2 + ms = zSl h1 - s0)
    (hr : va_Run p l e R s m args below meth c H locs k1 k2 mc ms (F0 m pc ls st0) (rest.map (cv b as)) (zQc D b as ca h H.size r h1 a) (va_A (zWs as ca h) H.size))
    (kk : zGoal p l e R s m args below meth c Q D A H0 b mi n0 s0 as0 (pc + 3, L, r.toList ++ rest, h1)) : W p l e R s m args below meth c H locs k1 k2 Q (F0 m pc ls st0) := by
  obtain ⟨a1, -, -, hD, hS, -⟩ := id hH
  have hfr := zA_of hD hS hA
  intro T hT X
  obtain ⟨v, st₀, t, T', LL, h0, X', hL, e1, e2, ⟨⟨as', ca', hv, hpf, b1, b2, b3, b4, b5, b6⟩, hz, hk⟩, st⟩ := hr T hT X
  cases hv
  rw [h0] at hz hk
  have hS' : va_S A H0 T'.heap (locs ++ LL) := ⟨Nat.le_trans hS.1 (by rw [e1]; exact hz), fun q h1 h2 => by rw [e1, hk q (Nat.lt_of_lt_of_le h1 hS.1) (fun z => h2 (hfr q z))]; exact hS.2.1 q h1 h2, fun q hq => by
      rcases List.mem_append.mp hq with h | h
      · exact hS.2.2 q h
      · exact hfr _ (hL q h)⟩
  have hal : s.vm.Alike t.vm := by rw [← e2]; exact X'.warmed.alike
  have hH' : zHR s D A H0 as' ca' h1 T'.heap (locs ++ LL) := by
    obtain ⟨tys, c1, c2⟩ := b2
    exact ⟨b1, ⟨tys, va_K.moved hal.symm c1, c2⟩, by rw [e1]; exact b3, ⟨b4.1, fun k q hq => hfr _ (b4.2 k q hq)⟩, hS', b5⟩
  have hcv : ∀ x, wfv h.length (zmC mi = 16) x → cv b as' x = cv b as x := by
    intro x hx
    exact cv_pre hpf (by rw [a1]; exact hx)
  have hF' : zFR b (zmC mi = 16) as' h1.length L (r.toList ++ rest) ls (zmMax mi) := by
    refine ⟨⟨hF.1.1, hF.1.2.1, fun i x hx => by rw [hcv x (hF.2.2.1 i x hx)]; exact hF.1.2.2 i x hx⟩, hF.2.1, fun i x hx => wfv_up hle (hF.2.2.1 i x hx), fun x hx => ?_⟩
    rcases List.mem_append.mp hx with hx | hx
    · cases r with
      | none => cases hx
      | some y =>
        have : x = y := by simpa using hx
        subst this
        exact wfv_sc (b6 x rfl)
    · exact wfv_up hle (hF.2.2.2 x hx)
  have := kk as' ca' ls T'.heap (locs ++ LL) hH' hF' (hp.trans hpf)
  rw [← ek1, ← ek2] at this
  have hst : (r.map (cv b as')).toList ++ rest.map (cv b as) = (r.toList ++ rest).map (cv b as') := by
    rw [List.map_append]
    congr 1
    · cases r <;> rfl
    · exact List.map_congr_left fun x hx => (hcv x (hF.2.2.2 x hx)).symm
  obtain ⟨t2, a2, b2⟩ := this T' rfl X'
  refine ⟨t2, st t2 ?_, b2⟩
  show Steps p.tables e below (T'.setTop { (F0 m pc ls st0) with pc := pc + 3, stack := (r.map (cv b as')).toList ++ rest.map (cv b as) }) t2
  rw [hst]
  exact a2
end ZC
section ZD
variable {p : Program} {l : Launch} {e : Env} {R : Room} {s : State} {m : MethodId} {args : Array Value} {below : List Frame} {meth : Method} {c : Code} {Q : State → Prop}
variable {D : va_G} {A : Nat → Prop} {H0 : Heap} {b Ls : Nat} {xs : Nat → Int32} {mi n0 s0 : Nat}
def zRc1 : zRc zH1 := fun h a ci => ci < 13 ∧ a.1 = 2 ∧ ∃ (n : Nat) (f : Nat → Int), h[a.2.toNat]? = some (ci, n, f)
theorem zAny_v {cls x k : Nat} (h : zLV.any (fun r => Nat.beq r.1 cls && Nat.beq r.2.1 x && Nat.beq r.2.2.1 k) = true) : Cond.methodLink (zOw cls) x (zmY k) ∈ zGW ∧ Cond.instanceMethod (zmY k) ∈ zGW ∧ Cond.selects (zmY k).cls (zmY k) (zmY k) ∈ zGW := by
  obtain ⟨r, hr, h1⟩ := List.any_eq_true.mp h
  simp only [Bool.and_eq_true] at h1
  obtain ⟨⟨a1, a2⟩, a3⟩ := h1
  have e1 := Nat.eq_of_beq_eq_true a1; have e2 := Nat.eq_of_beq_eq_true a2; have e3 := Nat.eq_of_beq_eq_true a3
  have h5 := zMap zLV_at r hr
  simp only [Prod.mk.injEq] at h5
  rw [e1, e2, e3] at h5
  exact ⟨zAt h5.1 rfl, zAt h5.2.1 rfl, zAt h5.2.2 rfl⟩
theorem zAny_s {cls x k : Nat} (h : zLS.any (fun r => Nat.beq r.1 cls && Nat.beq r.2.1 x && Nat.beq r.2.2.1 k) = true) : Cond.methodLink (zOw cls) x (zmY k) ∈ zGW ∧ Cond.static (zmY k) ∈ zGW := by
  obtain ⟨r, hr, h1⟩ := List.any_eq_true.mp h
  simp only [Bool.and_eq_true] at h1
  obtain ⟨⟨a1, a2⟩, a3⟩ := h1
  have e1 := Nat.eq_of_beq_eq_true a1; have e2 := Nat.eq_of_beq_eq_true a2; have e3 := Nat.eq_of_beq_eq_true a3
  have h5 := zMap zLS_at r hr
  simp only [Prod.mk.injEq] at h5
  rw [e1, e2, e3] at h5
  exact ⟨zAt h5.1 rfl, zAt h5.2 rfl⟩
theorem zAny_sn {cls x k : Nat} {s : State} (hk : zKnS s) (h : zLSN.any (fun r => Nat.beq r.1 cls && Nat.beq r.2.1 x && Nat.beq r.2.2.1 k) = true) : va_Nw (.methodLinkNest (zOw cls) x (zmY k) "EchoVale") s ∧ Cond.static (zmY k) ∈ zGW := by
  obtain ⟨r, hr, h1⟩ := List.any_eq_true.mp h
  simp only [Bool.and_eq_true] at h1
  obtain ⟨⟨a1, a2⟩, a3⟩ := h1
  have e1 := Nat.eq_of_beq_eq_true a1; have e2 := Nat.eq_of_beq_eq_true a2; have e3 := Nat.eq_of_beq_eq_true a3
  have h5 := zMap zLSN_at r hr
  simp only [Prod.mk.injEq] at h5
  have h6 := hk.2.2.1 r hr
  rw [e1, e2, e3] at h5 h6
  exact ⟨h6, zAt h5.2 rfl⟩
theorem zAny_p {cls x k : Nat} (h : zLP.any (fun r => Nat.beq r.1 cls && Nat.beq r.2.1 x && Nat.beq r.2.2.1 k) = true) : Cond.methodLink (zOw cls) x (zmY k) ∈ zGW ∧ Cond.instanceMethod (zmY k) ∈ zGW ∧ (zmY k).name = "<init>" ∧ zmRet k = none := by
  obtain ⟨r, hr, h1⟩ := List.any_eq_true.mp h
  simp only [Bool.and_eq_true] at h1
  obtain ⟨⟨a1, a2⟩, a3⟩ := h1
  have e1 := Nat.eq_of_beq_eq_true a1; have e2 := Nat.eq_of_beq_eq_true a2; have e3 := Nat.eq_of_beq_eq_true a3
  have h5 := zMap zLP_at r hr
  simp only [Prod.mk.injEq] at h5
  rw [e1, e2, e3] at h5
  exact ⟨zAt h5.1 rfl, zAt h5.2.1 rfl, h5.2.2.1, h5.2.2.2⟩
theorem zAny_pn {cls x k : Nat} {s : State} (hk : zKnS s) (h : zLPN.any (fun r => Nat.beq r.1 cls && Nat.beq r.2.1 x && Nat.beq r.2.2.1 k) = true) : va_Nw (.methodLinkNest (zOw cls) x (zmY k) "EchoVale") s ∧ Cond.instanceMethod (zmY k) ∈ zGW ∧ (zmY k).name = "<init>" ∧ zmRet k = none := by
  obtain ⟨r, hr, h1⟩ := List.any_eq_true.mp h
  simp only [Bool.and_eq_true] at h1
  obtain ⟨⟨a1, a2⟩, a3⟩ := h1
  have e1 := Nat.eq_of_beq_eq_true a1; have e2 := Nat.eq_of_beq_eq_true a2; have e3 := Nat.eq_of_beq_eq_true a3
  have h5 := zMap zLPN_at r hr
  simp only [Prod.mk.injEq] at h5
  have h6 := hk.2.2.2 r hr
  rw [e1, e2, e3] at h5 h6
  exact ⟨h6, zAt h5.2.1 rfl, h5.2.2.1, h5.2.2.2⟩
theorem zWd_good {k : Nat} (h : k < 295) : ∀ w ∈ zWd k, w ∈ zGW := by
  intro w hw
  rcases List.mem_cons.mp hw with rfl | hw
  · exact zm_code (by rw [zMs_len]; exact h)
  · exact hw
theorem zWd_pay {k : Nat} {s : State} {args : Array Value} (h : k < 295) (hts : ∀ w ∈ zGW, w.before args s = true) : ∀ w ∈ zWd k, ∀ (a' : Array Value) (U : State), s.WarmedH U.vm → w.before a' U = true :=
  pay_in hts (zGW_good (zWd_good h))
theorem z_call {d : Nat} {as0 : List Nat} {cf cf' : zCf zH1} {run : zRn zH1} (hRf : d + 1 ≤ R.frames) (hRl : 60 * d + 40 ≤ R.locals) (X : zCx p R s m args meth c A H0 b Ls xs mi) (hC : zStepC zRc1 run mi cf cf') (hm : ∀ k args h r h', run k args h r h' → zMet l d k args h r h')
    (hn : n0 ≤ cf.2.2.2.length) (hs : s0 ≤ zSl cf.2.2.2) (hrc : cf'.2.2.2.length - n0 ≤ R.cells) (hrs : zSl cf'.2.2.2 - s0 ≤ R.slots) (kk : zGoal p l e R s m args below meth c Q D A H0 b mi n0 s0 as0 cf') : zGoal p l e R s m args below meth c Q D A H0 b mi n0 s0 as0 cf := by
  obtain ⟨i, ax, as1, rest, r, h1, hdec, hic, hax, hk, h14, hst, hlen, hrcv, hrcs, hrl, h5, hrun, rfl⟩ := hC
  obtain ⟨hx, hb, hml, hown, hts, hkn, hA, hnm, -⟩ := X
  obtain ⟨pc, L, st, h⟩ := cf
  dsimp only at *
  subst hst
  obtain ⟨hle1, hle2, hmet⟩ := hm _ _ _ _ _ hrun
  have hkl : ax.1 < zMs.length := by rw [zMs_len]; exact hk
  obtain ⟨hpl, hc1, hc2⟩ := zm_plain hkl h14
  obtain ⟨hpar, hmx, -⟩ := zm_par hkl
  intro as ca ls H locs hH hF hp
  dsimp only at hH hF ⊢
  have hpre : ∀ U : State, U.heap = H → s.WarmedH U.vm → U.heap.size = H.size ∧ zPre D as ca h U := by
    intro U hU hW
    obtain ⟨a1, a2, a3, a4, a5, a6⟩ := id hH
    exact ⟨by rw [hU], a1, zKnH.moved hW.alike a2, by rw [hU]; exact a3, ⟨a4.1, fun _ _ _ => trivial⟩, a6, zKnS_warm hW hkn⟩
  have hwa : ∀ a ∈ as1, wfv h.length False a := by
    intro a ha
    have h1 := hF.2.2.2 a (List.mem_append_left _ (List.mem_reverse.mpr ha))
    have h2 := List.all_eq_true.mp h5 a ha
    obtain ⟨t, z⟩ := a
    unfold wfv at *
    simp only at *
    split at h1
    · exact h1
    · exact h1
    · exact h1
    · simp at h2
    · exact h1
  have hM := hmet D b as ca H.size hwa
  have hFr : zFR b (zmC mi = 16) as h.length L rest ls (zmMax mi) := ⟨hF.1, hF.2.1, hF.2.2.1, fun x hx => hF.2.2.2 x (List.mem_append_right _ hx)⟩
  have hroom : 2 * (F0 m pc ls ((as1.reverse ++ rest).map (cv b as))).monitorRoom + ((rest.map (cv b as)).map fun v => v.category).sum ≤ 8 := by
    have hl : rest.length ≤ 4 := Nat.le_of_ble_eq_true hrl
    have key : ∀ r : List zAv, ((r.map (cv b as)).map fun v => v.category).sum ≤ 2 * r.length := by
      intro r
      induction r with
      | nil => simp
      | cons a r ih =>
        simp only [List.map_cons, List.sum_cons, List.length_cons]
        rcases lv_cat (cv b as a) with q | q <;> omega
    have := key rest
    show 2 * 0 + _ ≤ 8
    omega
  have hfit : h.length - n0 + (h1.length - h.length) ≤ R.cells ∧ zSl h - s0 + (zSl h1 - zSl h) ≤ R.slots := ⟨by omega, by omega⟩
  have hpp : ∀ sig, parseMethodDescriptor (zmY ax.1).desc = some sig → zmN ax.1 = sig.parameters.length := by
    intro sig q
    rw [q] at hpar
    exact (Option.some.inj hpar).symm
  have hRl2 : 8 + (zmMax ax.1 + 11) + (zRm1 d (h1.length - h.length) (zSl h1 - zSl h)).locals ≤ R.locals := by
    show 8 + (zmMax ax.1 + 11) + 60 * d ≤ R.locals
    omega
  have hcal : CallFix p m c (zmCode mi) (zmMax mi) s args zGW (zOw (zmC mi)) := ⟨hx, hb, hml, hown, hts⟩
  have hB : ∀ x ret, zmRet ax.1 = ret → (Cond.methodLink (zOw (zmC mi)) x (zmY ax.1)).before args s = true → CallB R s args (zOw (zmC mi)) x (zmY ax.1) (zmCode ax.1) (zmMax ax.1) ret (zWd ax.1) (zRm1 d (h1.length - h.length) (zSl h1 - zSl h)) (h1.length - h.length) (zSl h1 - zSl h) (zmN ax.1) := by
    intro x ret hret hl
    subst hret
    exact ⟨rfl, rfl, hRf, hRl2, zWd_pay hk hts, List.mem_cons_self, hts _ (zm_code hkl), hts _ (zm_ini hkl), ⟨hc1, hc2⟩, hpp, hl⟩
  have hN : ∀ x ret, zmRet ax.1 = ret → va_Nw (.methodLinkNest (zOw (zmC mi)) x (zmY ax.1) "EchoVale") s → va_CN R s args (zOw (zmC mi)) x (zmY ax.1) "EchoVale" (zmCode ax.1) (zmMax ax.1) ret (zWd ax.1) (zRm1 d (h1.length - h.length) (zSl h1 - zSl h)) (h1.length - h.length) (zSl h1 - zSl h) (zmN ax.1) := by
    intro x ret hret hl
    subst hret
    exact ⟨⟨rfl, rfl, hRf, hRl2, zWd_pay hk hts, List.mem_cons_self⟩, hts _ (zm_code hkl), hts _ (zm_ini hkl), ⟨hc1, hc2⟩, hpp, va_Nw.use rfl hl⟩
  have fin : ∀ {a : Array Value}, va_Run p l e R s m args below meth c H locs (h.length - n0) (zSl h - s0) (h1.length - h.length) (zSl h1 - zSl h) (F0 m pc ls ((as1.reverse ++ rest).map (cv b as))) (rest.map (cv b as)) (zQc D b as ca h H.size r h1 a) (va_A (zWs as ca h) H.size) → W p l e R s m args below meth c H locs (h.length - n0) (zSl h - s0) Q (F0 m pc ls ((as1.reverse ++ rest).map (cv b as))) :=
    fun hr => z_back hA hH hFr hp hle1 (by omega) (by omega) hr kk
  have hrev : (as1.reverse ++ rest).map (cv b as) = (as1.map (cv b as)).reverse ++ rest.map (cv b as) := by rw [List.map_append, List.map_reverse]
  cases i
  case invokestatic x =>
    have hS : PreS s H (va_Pc (as1.map (cv b as)) (fun U => U.heap.size = H.size ∧ zPre D as ca h U)) (as1.map (cv b as)) := ⟨zBlind, fun U hU hW => ⟨rfl, hpre U hU hW⟩⟩
    have hax2 : zLS.any (fun r => Nat.beq r.1 (zmC mi) && Nat.beq r.2.1 x && Nat.beq r.2.2.1 ax.1) = true ∨ zLSN.any (fun r => Nat.beq r.1 (zmC mi) && Nat.beq r.2.1 x && Nat.beq r.2.2.1 ax.1) = true := by
      simp only [zAxOk] at hax
      split at hax
      · omega
      · omega
      · omega
      · omega
      · exact Bool.or_eq_true _ _ ▸ hax
    rcases hax2 with hax2 | hax2
    · obtain ⟨w1, w2⟩ := zAny_s hax2
      exact fin (va_runS (g := F0 m pc ls ((as1.reverse ++ rest).map (cv b as))) hcal hM ⟨hB x _ rfl (hts _ w1), hts _ w2⟩ hS rfl (by rw [List.length_map]; exact hlen) hF.1.1 hrev hroom hdec hfit)
    · obtain ⟨w1, w2⟩ := zAny_sn hkn hax2
      exact fin (va_runSN (g := F0 m pc ls ((as1.reverse ++ rest).map (cv b as))) hcal hM ⟨hN x _ rfl w1, hts _ w2, trivial⟩ hS rfl (by rw [List.length_map]; exact hlen) hF.1.1 hrev hroom hdec hfit)
  case invokevirtual x =>
    obtain ⟨w1, w2, w3⟩ := zAny_v hax
    obtain ⟨a0, ha0, hci, ht, nn, ff, hcell⟩ := hrcv x rfl
    cases as1 with
    | nil => cases ha0
    | cons a As =>
      cases ha0
      obtain ⟨t, o⟩ := a0
      simp only at ht
      subst ht
      obtain ⟨a1, ⟨tys, a2, a3⟩, a4, a5, a6, a7⟩ := id hH
      have he := zWs_at (as := as) (ca := ca) hcell
      rw [zEnt_o (by omega)] at he
      have hrec := va_recv a2 a4 (zCl_at hci) he
      have hV : PreV s H (zmY ax.1).cls (as.getD o.toNat 0) (va_Pc (((2, o) :: As).map (cv b as)) (fun U => U.heap.size = H.size ∧ zPre D as ca h U)) (As.map (cv b as)) := ⟨zBlind, by rw [zm_cls hkl]; exact hrec, fun U hU hW => ⟨rfl, hpre U hU hW⟩⟩
      have hlen2 : (As.map (cv b as)).length = zmN ax.1 := by
        rw [List.length_map]
        have : As.length + 1 = zmN ax.1 + 1 := hlen
        omega
      have hrev2 : (((2, o) :: As).reverse ++ rest).map (cv b as) = (As.map (cv b as)).reverse ++ .ref (as.getD o.toNat 0) :: rest.map (cv b as) := by
        rw [hrev]
        simp [cv]
      exact fin (va_runV (g := F0 m pc ls ((((2, o) :: As).reverse ++ rest).map (cv b as))) hcal hM ⟨hB x _ rfl (hts _ w1), hts _ w2, hts _ w3⟩ hV rfl hlen2 hF.1.1 hrev2 hroom hdec hfit)
  case invokespecial x =>
    have hax2 : zLP.any (fun r => Nat.beq r.1 (zmC mi) && Nat.beq r.2.1 x && Nat.beq r.2.2.1 ax.1) = true ∨ zLPN.any (fun r => Nat.beq r.1 (zmC mi) && Nat.beq r.2.1 x && Nat.beq r.2.2.1 ax.1) = true := by
      simp only [zAxOk] at hax
      split at hax
      · omega
      · exact Bool.or_eq_true _ _ ▸ hax
    cases as1 with
    | nil => simp [zNa] at hlen
    | cons a As =>
      obtain ⟨v0, hv0⟩ : ∃ v0 : Nat, cv b as a = .ref v0 := by
        obtain ⟨a9, q1, q2⟩ := hrcs x rfl
        cases q1
        obtain ⟨t9, z9⟩ := a
        exact cv_ref q2
      have hS : PreS s H (va_Pc ((a :: As).map (cv b as)) (fun U => U.heap.size = H.size ∧ zPre D as ca h U)) (.ref v0 :: As.map (cv b as)) := ⟨zBlind, fun U hU hW => ⟨by rw [List.map_cons, hv0], hpre U hU hW⟩⟩
      have hlen2 : (As.map (cv b as)).length = zmN ax.1 := by
        rw [List.length_map]
        have : As.length + 1 = zmN ax.1 + 1 := hlen
        omega
      have hrev2 : ((a :: As).reverse ++ rest).map (cv b as) = (As.map (cv b as)).reverse ++ .ref v0 :: rest.map (cv b as) := by
        rw [hrev]
        simp [hv0]
      rcases hax2 with hax2 | hax2
      · obtain ⟨w1, w2, w3, w4⟩ := zAny_p hax2
        exact fin (va_runI (g := F0 m pc ls (((a :: As).reverse ++ rest).map (cv b as))) hcal hM ⟨hB x none w4 (hts _ w1), w3, hts _ w2⟩ hS rfl hlen2 hF.1.1 hrev2 hroom hdec hfit)
      · obtain ⟨w1, w2, w3, w4⟩ := zAny_pn hkn hax2
        exact fin (va_runIN (g := F0 m pc ls (((a :: As).reverse ++ rest).map (cv b as))) hcal hM ⟨hN x none w4 w1, w3, hts _ w2⟩ hS rfl hlen2 hF.1.1 hrev2 hroom hdec hfit)
  all_goals cases hic
theorem z_forget {as0 : List Nat} {cf cf' : zCf zH1} (hC : zStepF cf cf') (kk : zGoal p l e R s m args below meth c Q D A H0 b mi n0 s0 as0 cf') : zGoal p l e R s m args below meth c Q D A H0 b mi n0 s0 as0 cf := by
  obtain ⟨pc, L, st, h⟩ := cf
  obtain ⟨pc', L', st', h'⟩ := cf'
  obtain ⟨h1, h2, h3⟩ := hC
  dsimp only at h1 h2 h3
  cases h2
  subst h1
  intro as ca ls H locs hH hF hp
  exact kk as ca ls H locs hH ⟨⟨hF.1.1, hF.1.2.1, fun i a ha => hF.1.2.2 i a (h3.2 i a ha)⟩, h3.1.trans hF.2.1, fun i a ha => hF.2.2.1 i a (h3.2 i a ha), hF.2.2.2⟩ hp
theorem zStep_mono {Ls : Nat} {xs : Nat → Int} {d : Nat} {cf cf' : zCf zH1} {run : zRn zH1} (hm : ∀ k args h r h', run k args h r h' → zMet l d k args h r h') (hS : zStep (zHop1 Ls xs) zRc1 run mi cf cf') : cf.2.2.2.length ≤ cf'.2.2.2.length ∧ zSl cf.2.2.2 ≤ zSl cf'.2.2.2 := by
  rcases hS with ⟨i, len, ax, d, gs, -, -, -, hE, -⟩ | ⟨i, ax, as1, rest, r, h1, -, -, -, -, -, -, -, -, -, -, -, hrun, rfl⟩ | ⟨-, h2, -⟩
  · rcases zX_heap hE with h | ⟨n, st', h, -⟩
    · rw [h]; exact ⟨Nat.le_refl _, Nat.le_refl _⟩
    · exact zX_mono h
  · obtain ⟨h1, h2, -⟩ := hm _ _ _ _ _ hrun
    exact ⟨h1, h2⟩
  · rw [h2]; exact ⟨Nat.le_refl _, Nat.le_refl _⟩
theorem zReach_mono {Ls : Nat} {xs : Nat → Int} {d n : Nat} {cf cf' : zCf zH1} {run : zRn zH1} (hm : ∀ k args h r h', run k args h r h' → zMet l d k args h r h') (hS : zReach (zHop1 Ls xs) zRc1 run mi n cf cf') : cf.2.2.2.length ≤ cf'.2.2.2.length ∧ zSl cf.2.2.2 ≤ zSl cf'.2.2.2 := by
  induction n generalizing cf with
  | zero => cases hS; exact ⟨Nat.le_refl _, Nat.le_refl _⟩
  | succ n ih =>
    obtain ⟨c1, h1, h2⟩ := hS
    have q1 := zStep_mono hm h1
    have q2 := ih h2
    omega
theorem z_reach {d n : Nat} {as0 : List Nat} {cf cf' : zCf zH1} {run : zRn zH1} (hRf : d + 1 ≤ R.frames) (hRl : 60 * d + 40 ≤ R.locals) (X : zCx p R s m args meth c A H0 b Ls xs mi) (hm : ∀ k args h r h', run k args h r h' → zMet l d k args h r h')
    (hS : zReach (zHop1 Ls (fun j => (xs j).toInt)) zRc1 run mi n cf cf') (hn : n0 ≤ cf.2.2.2.length) (hs : s0 ≤ zSl cf.2.2.2) (hrc : cf'.2.2.2.length - n0 ≤ R.cells) (hrs : zSl cf'.2.2.2 - s0 ≤ R.slots)
    (kk : zGoal p l e R s m args below meth c Q D A H0 b mi n0 s0 as0 cf') : zGoal p l e R s m args below meth c Q D A H0 b mi n0 s0 as0 cf := by
  induction n generalizing cf with
  | zero => cases hS; exact kk
  | succ n ih =>
    obtain ⟨c1, h1, h2⟩ := hS
    have q1 := zStep_mono hm h1
    have q2 := zReach_mono hm h2
    have k1 := ih h2 (by omega) (by omega)
    rcases h1 with ⟨i, len, ax, d, gs, g1, g2, g3, g4, g5⟩ | h1 | h1
    · obtain ⟨pc, L, st, h⟩ := cf
      exact z_step X g1 g2 g3 g4 g5 hn hs (by omega) (by omega) k1
    · exact z_call hRf hRl X h1 hm hn hs (by omega) (by omega) k1
    · exact z_forget h1 k1
end ZD
theorem zFl_len {b : Nat} {as : List Nat} {args : List zAv} : (lg_sl (args.map (cv b as))).length = (zFl args).length := by
  induction args with
  | nil => rfl
  | cons a r ih =>
    obtain ⟨t, x⟩ := a
    unfold zFl
    split
    · rename_i h1
      have h1 := Nat.eq_of_beq_eq_true h1
      subst h1
      simp only [List.map_cons, lg_sl, List.flatMap_cons, List.length_append, List.length_cons]
      have : (cv b as (1, x)).category = 2 := rfl
      rw [if_pos this]
      simp only [lg_sl] at ih
      simp [ih]
      omega
    · rename_i h1
      have h1 := Nat.ne_of_beq_eq_false h1
      simp only [List.map_cons, lg_sl, List.flatMap_cons, List.length_append, List.length_cons]
      have : ¬ (cv b as (t, x)).category = 2 := fun q => h1 (cv_cat2 q)
      rw [if_neg this]
      simp only [lg_sl] at ih
      simp [ih]
      omega
theorem zGl_cons {x : Option zAv} {L : zLo} {i : Nat} : zGl (x :: L) (i + 1) = zGl L i := rfl
theorem zEntry_in {b : Nat} {as : List Nat} {n : Nat} : ∀ (args : List zAv) (k i : Nat) (a : zAv), zGl (zFl args ++ List.replicate n none) i = some a → (k + i, cv b as a) ∈ lv_args k (args.map (cv b as)) := by
  intro args
  induction args with
  | nil =>
    intro k i a h
    exfalso
    simp only [zFl, List.nil_append] at h
    unfold zGl at h
    split at h
    · rename_i e
      have := List.mem_of_getElem? e
      have := List.eq_of_mem_replicate this
      cases this
    · cases h
  | cons y r ih =>
    intro k i a h
    obtain ⟨t, x⟩ := y
    unfold zFl at h
    split at h
    · rename_i h1
      have h1 := Nat.eq_of_beq_eq_true h1
      subst h1
      have hc : (cv b as (1, x)).category = 2 := rfl
      rw [List.map_cons]
      unfold lv_args
      rw [if_pos hc]
      match i, h with
      | 0, h =>
        cases h
        exact List.mem_cons_self
      | 1, h => cases h
      | i + 2, h =>
        have := ih (k + 2) i a h
        rw [show k + 2 + i = k + (i + 2) by omega] at this
        exact List.mem_cons_of_mem _ this
    · rename_i h1
      have h1 := Nat.ne_of_beq_eq_false h1
      have hc : ¬ (cv b as (t, x)).category = 2 := fun q => h1 (cv_cat2 q)
      rw [List.map_cons]
      unfold lv_args
      rw [if_neg hc]
      match i, h with
      | 0, h =>
        cases h
        exact List.mem_cons_self
      | i + 1, h =>
        have := ih (k + 1) i a h
        rw [show k + 1 + i = k + (i + 1) by omega] at this
        exact List.mem_cons_of_mem _ this
theorem zEntry_mem {n : Nat} : ∀ (args : List zAv) (i : Nat) (a : zAv), zGl (zFl args ++ List.replicate n none) i = some a → a ∈ args := by
  intro args
  induction args with
  | nil =>
    intro i a h
    exfalso
    simp only [zFl, List.nil_append] at h
    unfold zGl at h
    split at h
    · rename_i e
      have := List.eq_of_mem_replicate (List.mem_of_getElem? e)
      cases this
    · cases h
  | cons y r ih =>
    intro i a h
    obtain ⟨t, x⟩ := y
    unfold zFl at h
    split at h
    · match i, h with
      | 0, h => cases h; exact List.mem_cons_self
      | 1, h => cases h
      | i + 2, h => exact List.mem_cons_of_mem _ (ih i a h)
    · match i, h with
      | 0, h => cases h; exact List.mem_cons_self
      | i + 1, h => exact List.mem_cons_of_mem _ (ih i a h)
set_option maxHeartbeats 2000000 in
theorem z_met {l : Launch} {spec : zRn zH1} (hsp : ∀ d k args h r h', 7 ≤ d → spec k args h r h' → zMet l (d + 1) k args h r h') : ∀ (d mi : Nat) (args : List zAv) (h : zH1) (r : Option zAv) (h' : zH1), zRun (zHop1 0 (fun _ => 0)) zRc1 spec d mi args h r h' → zMet l d mi args h r h' := by
  intro d
  induction d with
  | zero => intro mi args h r h' q; exact q.elim
  | succ d ih =>
    intro mi args h r h' q
    rcases q with ⟨q1, q2⟩ | ⟨hk, h14, hfl, n, pc, L, st, hS, hret⟩
    · exact hsp d _ _ _ _ _ q1 q2
    have hmono := zReach_mono ih hS
    dsimp only at hmono
    refine ⟨hmono.1, hmono.2, fun D b as ca sz hwa => ?_⟩
    have hkl : mi < zMs.length := by rw [zMs_len]; exact hk
    obtain ⟨hpl, -, -⟩ := zm_plain hkl h14
    refine Met.ofW (cc := zmCode mi) (maxL := zmMax mi) (ret := zmRet mi) hpl rfl ?_
    intro p e s m args1 below meth c s₁ B hml hv
    obtain ⟨rfl, hsz, hpre⟩ := hv
    obtain ⟨a1, a2, a3, a4, a5, a6⟩ := hpre
    have hx := B.exec
    have hb := B.bytes
    have hr := B.returns
    have hts0 := atoms_spec (ws := zWd mi) B.pre
    have hts : ∀ w ∈ zGW, w.before ((args.map (cv b as)).toArray) s = true := fun w hw => hts0 w (List.mem_cons_of_mem _ hw)
    have hown : s.vm.findClass (zmY mi).cls = some m.cls := findClass_of_methodNamed B.named
    rw [zm_cls hkl] at hown
    have hlocks := B.notSynchronized
    have hin : meth.name = (zmY mi).name := (name_of_methodNamed B.named B.method).1
    subst hsz
    generalize hAe : va_A (zWs as ca h) s.heap.size = A
    have hA : ∀ q : Nat, s.heap.size ≤ q → A q := fun q h => by rw [← hAe]; exact Or.inr h
    have hD : va_D A (zWs as ca h) := by rw [← hAe]; exact a4.self
    have X : zCx p (headSpec (zWd mi) (zRm1 (d + 1) (h'.length - h.length) (zSl h' - zSl h))).room s m ((args.map (cv b as)).toArray) meth c A s.heap b 0 (fun _ => 0) mi :=
      ⟨hx, hb, hml, hown, hts, a6, hA, hin, fun q => absurd q (zm_notlaw hkl), by show 1 ≤ d + 1; omega, by show 40 ≤ 60 * (d + 1); omega⟩
    have hl := lv_entry (args.map (cv b as)) (n := zmMax mi) (by rw [zFl_len]; exact hfl)
    rw [lg_entry_eq]
    generalize (lg_sl (args.map (cv b as)) ++ List.replicate (zmMax mi - (lg_sl (args.map (cv b as))).length) Slot.unset).toArray = ls at hl ⊢
    have hF : zFR b (zmC mi = 16) as h.length (zEntry args (zmMax mi)) [] ls (zmMax mi) := by
      refine ⟨⟨hl.1, hl.2.1, fun i a ha => ?_⟩, by unfold zEntry; rw [List.length_append, List.length_replicate]; omega, fun i a ha => wfv_sc (hwa a (zEntry_mem _ _ _ ha)), fun a ha => by cases ha⟩
      have := zEntry_in (b := b) (as := as) args 0 i a ha
      rw [Nat.zero_add] at this
      exact hl.2.2 _ this
    have hH : zHR s D A s.heap as ca h s.heap [] := ⟨a1, a2, a3, hD, va_S.rf, a5⟩
    have key : zGoal p l e (headSpec (zWd mi) (zRm1 (d + 1) (h'.length - h.length) (zSl h' - zSl h))).room s m ((args.map (cv b as)).toArray) below meth c (MQ below (zQc D b as ca h s.heap.size r h') ((args.map (cv b as)).toArray) s (h'.length - h.length) (zSl h' - zSl h) A) D A s.heap b mi h.length (zSl h) as (0, zEntry args (zmMax mi), [], h) := by
      refine z_reach (d := d) (n := n) (Nat.le_refl _) (by show 60 * d + 40 ≤ 60 * (d + 1); omega) X ih (by simpa using hS) (Nat.le_refl _) (Nat.le_refl _) (Nat.le_refl _) (Nat.le_refl _) ?_
      intro as' ca' ls' H' locs' hH' hF' hp'
      dsimp only at hH' hF' hret ⊢
      obtain ⟨b1, b2, b3, b4, b5, b6⟩ := hH'
      have hq : ∀ rr : Option zAv, rr = r → (∀ a, rr = some a → wfv h'.length False a) → ∀ t : State, t.heap = H' → s.WarmedH t.vm → zQc D b as ca h s.heap.size r h' ((args.map (cv b as)).toArray) s (.returned (rr.map (cv b as'))) t := by
        intro rr hrr hwr t ht hW
        subst hrr
        refine ⟨⟨as', ca', rfl, hp', b1, zKnH.moved hW.alike b2, by rw [ht]; exact b3, by rw [hAe]; exact b4, b6, hwr⟩, ?_⟩
        rw [hAe]
        exact b5.F ht
      rcases hret with ⟨g1, v, g2, g3, g4⟩ | ⟨g1, v, g2, g3, g4⟩ | ⟨g1, g2, g3, g4⟩
      · subst g2
        subst g3
        have hwv : wfv h'.length False (0, v) := hF'.hd
        have hn : ∃ ty, zmRet mi = some ty ∧ narrow ty (.int (Int32.ofInt v)) = .int (Int32.ofInt v) := by
          rcases g4 with g4 | ⟨g4, rfl | rfl⟩
          · exact ⟨.int, g4, rfl⟩
          · exact ⟨.boolean, g4, by decide⟩
          · exact ⟨.boolean, g4, by decide⟩
        obtain ⟨ty, hty, hnn⟩ := hn
        exact W.zret hx hb (hr.trans hty) hnn (hq (some (0, v)) rfl (fun a ha => by cases ha; exact hwv)) b5.2.2 g1 hlocks
      · subst g2
        subst g3
        have hwv : wfv h'.length False (1, v) := hF'.hd
        exact W.lret hx hb (hr.trans g4) (hq (some (1, v)) rfl (fun a ha => by cases ha; exact hwv)) b5.2.2 g1 hlocks
      · subst g2
        subst g3
        exact W.vret hx hb (hr.trans g4) (hq none rfl (fun a ha => by cases ha)) b5.2.2 g1 hlocks
    have := key as ca ls s.heap [] hH hF (List.prefix_refl _)
    simp only [Nat.sub_self] at this
    exact this
end
section
/-! The second heap: a region is a field (class * 64 + place), or the row that a field holds; instance; index. The class's, the model's, the answer's row apart. -/
abbrev zHC : Type := Nat → Int → Int → Int
abbrev zHM : Type := Nat → Int → Int
abbrev zH2 : Type := zHC × zHM × (Int → Int)
def hset (h : zHC) (r : Nat) (n i v : Int) : zHC := fun r' n' i' => if r' = r ∧ n' = n ∧ i' = i then v else h r' n' i'
def mset (h : zHM) (k : Nat) (i v : Int) : zHM := fun k' i' => if k' = k ∧ i' = i then v else h k' i'
def hcpy (h : zHC) (rd : Nat) (nd : Int) (rs : Nat) (ns sp dp n : Int) : zHC := fun r' n' i' => if r' = rd ∧ n' = nd ∧ dp ≤ i' ∧ i' < dp + n then h rs ns (sp + (i' - dp)) else h r' n' i'
def zGt (g : zH2) (r : Nat) (n i : Int) : Int := match Nat.ble 768 r with
  | false => g.1 r n i
  | true => g.2.1 (r - 768) i
def zPt (g : zH2) (r : Nat) (n i v : Int) : zH2 := match Nat.ble 768 r with
  | false => (hset g.1 r n i v, g.2)
  | true => (g.1, mset g.2.1 (r - 768) i v, g.2.2)
/-- of a row's tag: its region, its kind, its length -/
def zTr (t : Nat) : Nat := (t - 1000) % 1024
def zTk (t : Nat) : Nat := (t - 1000) / 1024 / 65536
def zTl (t : Nat) : Nat := (t - 1000) / 1024 % 65536
def zTg2 (r x : Nat) : Nat := 1000 + r + 1024 * x
def zLd2 (kd t : Nat) (st : List zAv) (g : zH2) : Option (List Prop × List zAv × zH2) := match st with
  | (0, i) :: (a, n) :: r => match Nat.ble 1000 a && Nat.beq (zTk a) kd with
    | true => some ([0 ≤ i ∧ i < (zTl a : Int)], (t, zGt g (zTr a) n i) :: r, g)
    | false => none
  | _ => none
def zSt2 (kd t : Nat) (b : Bool) (st : List zAv) (g : zH2) : Option (List Prop × List zAv × zH2) := match st with
  | (u, v) :: (0, i) :: (a, n) :: r => match (Nat.ble 1000 a && Nat.beq (zTk a) kd) && Nat.beq u t with
    | true => some ((match b with
      | true => [0 ≤ i ∧ i < (zTl a : Int), v = 0 ∨ v = 1]
      | false => [0 ≤ i ∧ i < (zTl a : Int)]), r, zPt g (zTr a) n i v)
    | false => none
  | _ => none
def zHop2 (L : Nat) (xs : Nat → Int) : zHop zH2 := fun i ax st g => match i with
  | .getfield _ => match st with
    | (t, n) :: r => match Nat.beq t (10 + ax.1) with
      | true => match ax.2.2.toNat % 4 with
        | 0 => some ([], (0, zGt g (ax.1 * 64 + ax.2.1) n 0) :: r, g)
        | 1 => some ([], (1, zGt g (ax.1 * 64 + ax.2.1) n 0) :: r, g)
        | 2 => some ([], (zTg2 (ax.1 * 64 + ax.2.1) (ax.2.2.toNat / 4), n) :: r, g)
        | _ => match ax.2.2.toNat / 64 % 2 with
          | 0 => some ([], (10 + ax.2.2.toNat / 4 % 16, ((ax.2.2.toNat / 128 : Nat) : Int)) :: r, g)
          | _ => some ([], (10 + ax.2.2.toNat / 4 % 16, n + ((ax.2.2.toNat / 128 : Nat) : Int)) :: r, g)
      | false => none
    | _ => none
  | .putfield _ => match st with
    | (u, v) :: (t, n) :: r => match Nat.beq t (10 + ax.1) && (Nat.ble ax.2.2.toNat 1 && Nat.beq u ax.2.2.toNat) with
      | true => some ((match zIsB ax.1 ax.2.1 with
        | true => [v = 0 ∨ v = 1]
        | false => []), r, zPt g (ax.1 * 64 + ax.2.1) n 0 v)
      | false => none
    | _ => none
  | .iaload => match Nat.beq ax.1 1 with
    | true => match st with
      | (0, j) :: (5, _) :: r => some ([0 ≤ j ∧ j < (L : Int)], (0, xs j.toNat) :: r, g)
      | _ => none
    | false => zLd2 20 0 st g
  | .laload => match st with
    | (0, i) :: (6, _) :: r => some ([i = 0], (1, g.2.2 0) :: r, g)
    | _ => zLd2 21 1 st g
  | .baload => zLd2 22 0 st g
  | .aaload => match st with
    | (0, i) :: (a, _) :: r => match Nat.ble 1000 a && Nat.beq (zTk a) ax.1 with
      | true => match ax.1 with
        | 23 => some ([0 ≤ i ∧ i < (zTl a : Int)], (11, 2 + i) :: r, g)
        | 24 => some ([0 ≤ i ∧ i < (zTl a : Int)], (13, i) :: r, g)
        | _ => none
      | false => none
    | _ => none
  | .iastore => zSt2 20 0 false st g
  | .lastore => zSt2 21 1 false st g
  | .bastore => zSt2 22 0 true st g
  | .arraylength => match Nat.beq ax.1 1 with
    | true => match st with
      | (5, _) :: r => some ([], (0, (L : Int)) :: r, g)
      | _ => none
    | false => match st with
      | (a, _) :: r => match Nat.ble 1000 a with
        | true => some ([], (0, (zTl a : Int)) :: r, g)
        | false => none
      | _ => none
  | .invokestatic _ => match ax.1 with
    | 5001 => match st with
      | (0, n) :: (0, dp) :: (a, d) :: (0, sp) :: (a1, s) :: r => match (((Nat.ble 1000 a && Nat.ble 1000 a1) && (Nat.beq (zTk a) (zTk a1) && (Nat.beq (zTk a) 20 || Nat.beq (zTk a) 21))) && (Nat.blt (zTr a) 768 && Nat.blt (zTr a1) 768)) && zRm r with
        | true => some ([0 ≤ sp, 0 ≤ dp, 0 ≤ n, sp + n ≤ (zTl a1 : Int), dp + n ≤ (zTl a : Int)], r, (hcpy g.1 (zTr a) d (zTr a1) s sp dp n, g.2))
        | false => none
      | _ => none
    | 5002 => match st with
      | (0, x) :: r => match zRm r with
        | true => some ([], (0, if x < 0 then wneg x else x) :: r, g)
        | false => none
      | _ => none
    | 5003 => match st with
      | (0, y) :: (0, x) :: r => match zRm r with
        | true => some ([], (0, if y < x then y else x) :: r, g)
        | false => none
      | _ => none
    | 5004 => match st with
      | (0, y) :: (0, x) :: r => match zRm r with
        | true => some ([], (0, if x < y then y else x) :: r, g)
        | false => none
      | _ => none
    | _ => none
  | _ => none
def zFws : List (List Nat) := [[0, 23],
  [0, 0, 0, 5242906, 5243602, 5243602, 5243842, 5246482, 5243002],
  [0, 0, 0],
  [0, 359, 1351, 347],
  [0, 5243082, 0, 5242906, 5242906, 5242906],
  [5246642, 0, 0, 0, 0, 0, 0, 1, 0, 0, 5505110],
  [0, 0, 5243362, 5767330],
  [155, 23],
  [0, 0, 6029346],
  [0, 0, 0, 0, 0, 0, 0, 5505050, 5242906, 5242906, 5242906, 5505050, 5242906, 5242906, 5242962, 5242962, 5242962, 5242914, 5242906, 5242906],
  [167, 0, 23],
  [23, 39, 43, 3, 27, 31, 7, 135, 35, 6291466, 19, 11, 5244418, 5243266, 0, 0, 0],
  [0, 5246642, 0, 0, 0, 0, 0, 0, 0, 0, 0, 0, 1, 0, 5251442, 5243718, 5260002, 5296930, 5249638, 5505074, 5505074, 5505122, 5767178, 0, 0, 5244418, 5242906, 5242906, 5242906, 5243082, 5242906, 5242906, 5242906, 5242906, 0, 0, 0, 0, 0, 0, 0, 5242890, 5243682, 5242910, 0, 5243842, 0, 0, 0, 0]]
def zW (ci k : Nat) : Nat := (zFws.getD ci []).getD k 0
def zCnt (ci : Nat) : Nat := ([1, 14, 1, 2, 1, 1, 4, 1, 1, 4, 1, 1, 1] : List Nat).getD ci 0
/-- are the second heap's codes as the table has them? -/
def zAx2 (i : Instr) (ax : zAx) : Bool := match i with
  | .getfield _ => decide (ax.2.2 = (zW ax.1 ax.2.1 : Int)) && Nat.blt ax.2.1 (zNf ax.1) && Nat.blt ax.1 13
  | .putfield _ => decide (ax.2.2 = (zW ax.1 ax.2.1 : Int)) && Nat.blt ax.2.1 (zNf ax.1) && Nat.blt ax.1 13
  | _ => true
/-- where things lie: lO an object of a class, by instance; lA the row of a region -/
def zVR (lO lA : Nat → Int → Nat) (sc : Prop) (a2 a1 : zAv) : Prop :=
  (a2.1 = 0 ∧ a1 = a2) ∨ (a2.1 = 1 ∧ a1 = a2) ∨ (a2.1 = 5 ∧ a1 = a2 ∧ sc) ∨ (a2.1 = 6 ∧ a1 = (2, (lO 20 0 : Int))) ∨
  (∃ ci, ci < 13 ∧ a2.1 = 10 + ci ∧ 0 ≤ a2.2 ∧ a2.2 < (zCnt ci : Int) ∧ a1 = (2, (lO ci a2.2 : Int))) ∨
  (∃ ci k x, ci < 13 ∧ k < zNf ci ∧ zW ci k = 2 + 4 * x ∧ a2.1 = zTg2 (ci * 64 + k) x ∧ 0 ≤ a2.2 ∧ a2.2 < (zCnt ci : Int) ∧ a1 = (2, (lA (ci * 64 + k) a2.2 : Int)))
/-- what a field of an object holds -/
def zFl2 (lO lA : Nat → Int → Nat) (g : zH2) (ci k : Nat) (n v : Int) : Prop :=
  match zW ci k % 4 with
  | 0 => v = zGt g (ci * 64 + k) n 0
  | 1 => v = zGt g (ci * 64 + k) n 0
  | 2 => v = (lA (ci * 64 + k) n : Int)
  | _ => match zW ci k / 64 % 2 with
    | 0 => v = (lO (zW ci k / 4 % 16) ((zW ci k / 128 : Nat) : Int) : Int)
    | _ => v = (lO (zW ci k / 4 % 16) (n + ((zW ci k / 128 : Nat) : Int)) : Int)
/-- what a row holds -/
def zRw2 (lO : Nat → Int → Nat) (g : zH2) (kd r : Nat) (n : Int) (i : Nat) (v : Int) : Prop :=
  match kd with
  | 23 => v = (lO 1 (2 + (i : Int)) : Int)
  | 24 => v = (lO 3 (i : Int) : Int)
  | _ => v = zGt g r n i
def zR2 (lO lA : Nat → Int → Nat) (g : zH2) (h : zH1) : Prop :=
  (∀ (ci : Nat) (n : Int), ci < 13 → 0 ≤ n → n < (zCnt ci : Int) → ∃ f, h[lO ci n]? = some (ci, zNf ci, f) ∧ ∀ k, k < zNf ci → zFl2 lO lA g ci k n (f k)) ∧
  (∀ (ci k x : Nat) (n : Int), ci < 13 → k < zNf ci → zW ci k = 2 + 4 * x → 0 ≤ n → n < (zCnt ci : Int) → ∃ f, h[lA (ci * 64 + k) n]? = some (x / 65536, x % 65536, f) ∧ ∀ i, i < x % 65536 → zRw2 lO g (x / 65536) (ci * 64 + k) n i (f i)) ∧
  ∃ f, h[lO 20 0]? = some (21, 1, f) ∧ f 0 = g.2.2 0
/-- apart -/
def zAp (lO lA : Nat → Int → Nat) : Prop :=
  (∀ (ci k x : Nat) (n : Int), ci < 13 → k < zNf ci → zW ci k = 2 + 4 * x → 0 ≤ n → n < (zCnt ci : Int) → ¬ lA (ci * 64 + k) n = lO 20 0) ∧
  (∀ (ci cj : Nat) (n n' : Int), ci < 13 → cj < 13 → 0 ≤ n → n < (zCnt ci : Int) → 0 ≤ n' → n' < (zCnt cj : Int) → lO ci n = lO cj n' → ci = cj ∧ n = n') ∧
  (∀ (ci k x cj k' x' : Nat) (n n' : Int), ci < 13 → k < zNf ci → zW ci k = 2 + 4 * x → 0 ≤ n → n < (zCnt ci : Int) → cj < 13 → k' < zNf cj → zW cj k' = 2 + 4 * x' → 0 ≤ n' → n' < (zCnt cj : Int) → lA (ci * 64 + k) n = lA (cj * 64 + k') n' → ci = cj ∧ k = k' ∧ n = n')
theorem zTg2_r {r x : Nat} (h : r < 1024) : zTr (zTg2 r x) = r ∧ zTk (zTg2 r x) = x / 65536 ∧ zTl (zTg2 r x) = x % 65536 ∧ 1000 ≤ zTg2 r x := by
  unfold zTr zTk zTl zTg2
  have h1 : 1000 + r + 1024 * x - 1000 = r + 1024 * x := by omega
  rw [h1]
  have h2 : (r + 1024 * x) / 1024 = x := by omega
  rw [h2]
  refine ⟨by omega, rfl, rfl, by omega⟩
theorem zNf_le2 {ci k : Nat} (h : ci < 13) (hk : k < zNf ci) : ci * 64 + k < 1024 ∧ k < 64 := by
  have := zNf_le h
  omega
theorem zW_all : ((List.range 13).all (fun ci => (List.range (zNf ci)).all (fun k => (match zW ci k % 4 with
  | 0 => Nat.beq (zTag ci k) 0 && Nat.beq (zW ci k) 0
  | 1 => Nat.beq (zTag ci k) 1 && Nat.beq (zW ci k) 1
  | 2 => Nat.beq (zTag ci k) 2 && ((Nat.ble 20 (zW ci k / 4 / 65536) && Nat.ble (zW ci k / 4 / 65536) 24) && (Nat.beq (zW ci k / 4 / 65536) 23 == (Nat.beq ci 8 && Nat.beq k 2)) && (Nat.beq (zW ci k / 4 / 65536) 24 == (Nat.beq ci 11 && Nat.beq k 9)))
  | _ => Nat.beq (zTag ci k) 2 && (Nat.blt (zW ci k / 4 % 16) 13 && (match zW ci k / 64 % 2 with
    | 0 => Nat.blt (zW ci k / 128) (zCnt (zW ci k / 4 % 16))
    | _ => Nat.ble (zCnt ci + zW ci k / 128) (zCnt (zW ci k / 4 % 16)))))))) = true := by decide +kernel
end
section
/-! What runs on the second heap runs on the first. -/
section ZP
variable {lO lA : Nat → Int → Nat} {sc : Prop}
def zLR (lO lA : Nat → Int → Nat) (sc : Prop) (L2 L1 : zLo) : Prop := L2.length = L1.length ∧ ∀ (i : Nat) (a2 : zAv), zGl L2 i = some a2 → ∃ a1, zGl L1 i = some a1 ∧ zVR lO lA sc a2 a1
def zSR (lO lA : Nat → Int → Nat) (sc : Prop) : List zAv → List zAv → Prop
  | [], [] => True
  | a :: r, b :: s => zVR lO lA sc a b ∧ zSR lO lA sc r s
  | _, _ => False
def zCR (lO lA : Nat → Int → Nat) (sc : Prop) (c2 : zCf zH2) (c1 : zCf zH1) : Prop := c1.1 = c2.1 ∧ zLR lO lA sc c2.2.1 c1.2.1 ∧ zSR lO lA sc c2.2.2.1 c1.2.2.1 ∧ zR2 lO lA c2.2.2.2 c1.2.2.2
theorem zSR_cons {a : zAv} {r st1 : List zAv} (h : zSR lO lA sc (a :: r) st1) : ∃ b s, st1 = b :: s ∧ zVR lO lA sc a b ∧ zSR lO lA sc r s := by
  cases st1 with
  | nil => exact h.elim
  | cons b s => exact ⟨b, s, rfl, h.1, h.2⟩
theorem zSR_nil {st1 : List zAv} (h : zSR lO lA sc [] st1) : st1 = [] := by
  cases st1 with
  | nil => rfl
  | cons b s => exact h.elim
theorem zVR0 {x : Int} {a1 : zAv} (h : zVR lO lA sc (0, x) a1) : a1 = (0, x) := by
  rcases h with ⟨-, h⟩ | ⟨h, -⟩ | ⟨h, -⟩ | ⟨h, -⟩ | ⟨ci, -, h, -⟩ | ⟨ci, k, y, -, -, -, h, -⟩
  · exact h
  · cases h
  · cases h
  · cases h
  · simp only at h; omega
  · unfold zTg2 at h; simp only at h; omega
theorem zVR1 {x : Int} {a1 : zAv} (h : zVR lO lA sc (1, x) a1) : a1 = (1, x) := by
  rcases h with ⟨h, -⟩ | ⟨-, h⟩ | ⟨h, -⟩ | ⟨h, -⟩ | ⟨ci, -, h, -⟩ | ⟨ci, k, y, -, -, -, h, -⟩
  · cases h
  · exact h
  · cases h
  · cases h
  · simp only at h; omega
  · unfold zTg2 at h; simp only at h; omega
theorem zVR_i {x : Int} : zVR lO lA sc (0, x) (0, x) := Or.inl ⟨rfl, rfl⟩
theorem zVR_l {x : Int} : zVR lO lA sc (1, x) (1, x) := Or.inr (Or.inl ⟨rfl, rfl⟩)
theorem zVR_tag {a2 a1 : zAv} (h : zVR lO lA sc a2 a1) : zEq0 a1.1 = zEq0 a2.1 ∧ zEq1 a1.1 = zEq1 a2.1 ∧ zGe2 a1.1 = zGe2 a2.1 := by
  have big : ∀ t, 2 ≤ t → zEq0 t = false ∧ zEq1 t = false ∧ zGe2 t = true := by
    intro t ht
    refine ⟨?_, ?_, Nat.ble_eq_true_of_le ht⟩
    · cases e : zEq0 t with
      | false => rfl
      | true => have := Nat.eq_of_beq_eq_true e; omega
    · cases e : zEq1 t with
      | false => rfl
      | true => have := Nat.eq_of_beq_eq_true e; omega
  have go : 2 ≤ a2.1 → 2 ≤ a1.1 → zEq0 a1.1 = zEq0 a2.1 ∧ zEq1 a1.1 = zEq1 a2.1 ∧ zGe2 a1.1 = zGe2 a2.1 := by
    intro h2 h1
    obtain ⟨p1, p2, p3⟩ := big _ h2
    obtain ⟨q1, q2, q3⟩ := big _ h1
    rw [p1, p2, p3, q1, q2, q3]
    exact ⟨rfl, rfl, rfl⟩
  rcases h with ⟨-, h⟩ | ⟨-, h⟩ | ⟨-, h, -⟩ | ⟨h1, h⟩ | ⟨ci, -, h1, -, -, h⟩ | ⟨ci, k, y, -, -, -, h1, -, -, h⟩
  · rw [h]; exact ⟨rfl, rfl, rfl⟩
  · rw [h]; exact ⟨rfl, rfl, rfl⟩
  · rw [h]; exact ⟨rfl, rfl, rfl⟩
  · exact go (by omega) (by rw [h]; exact Nat.le_refl 2)
  · exact go (by omega) (by rw [h]; exact Nat.le_refl 2)
  · exact go (by unfold zTg2 at h1; omega) (by rw [h]; exact Nat.le_refl 2)
theorem zGl_kl' {L : zLo} {i j : Nat} {a : zAv} (h : zGl L j = some a) (h2 : ¬ (j + 1 = i ∧ a.1 = 1)) : zGl (zKl L i) j = some a := by
  cases i with
  | zero => exact h
  | succ i =>
    unfold zKl
    simp only
    split
    · rename_i x hx
      by_cases e : i = j
      · subst e
        rw [h] at hx
        cases hx
        exact absurd ⟨rfl, rfl⟩ h2
      · unfold zGl at *
        rw [List.getElem?_set_ne e]
        exact h
    · exact h
theorem zGl_set' {L : zLo} {i j : Nat} {x : Option zAv} (h : i ≠ j) : zGl (L.set i x) j = zGl L j := by
  unfold zGl
  rw [List.getElem?_set_ne h]
theorem zGl_self {L : zLo} {i : Nat} {a : zAv} (h : i < L.length) : zGl (L.set i (some a)) i = some a := by
  unfold zGl
  rw [List.getElem?_set_self h]
theorem zLR.sto {L2 L1 : zLo} {n : Nat} {a2 a1 : zAv} (h : zLR lO lA sc L2 L1) (hn : n < L2.length) (ha : zVR lO lA sc a2 a1) : zLR lO lA sc (zSt L2 n a2) (zSt L1 n a1) := by
  refine ⟨by rw [zSt_len, zSt_len]; exact h.1, fun i c hc => ?_⟩
  rcases zGl_set hc with ⟨h1, h2⟩ | ⟨h1, h2⟩
  · cases h2
    subst h1
    exact ⟨a1, zGl_self (by rw [zKl_len, ← h.1]; exact hn), ha⟩
  · obtain ⟨h3, h4⟩ := zGl_kl h2
    obtain ⟨c1, h5, h6⟩ := h.2 i c h3
    refine ⟨c1, ?_, h6⟩
    unfold zSt
    rw [zGl_set' h1]
    refine zGl_kl' h5 (fun q => h4 ⟨q.1, ?_⟩)
    have := (zVR_tag h6).2.1
    unfold zEq1 at this
    rw [q.2] at this
    exact Nat.eq_of_beq_eq_true this.symm
theorem zLR.stoL {L2 L1 : zLo} {n : Nat} {a2 a1 : zAv} (h : zLR lO lA sc L2 L1) (hn : n + 1 < L2.length) (ha : zVR lO lA sc a2 a1) : zLR lO lA sc (zStL L2 n a2) (zStL L1 n a1) := by
  refine ⟨by rw [zStL_len, zStL_len]; exact h.1, fun i c hc => ?_⟩
  rcases zGl_set hc with ⟨h1, h2⟩ | ⟨h0, h2⟩
  · cases h2
  · unfold zStL
    rw [zGl_set' h0]
    rcases zGl_set h2 with ⟨h1, h2⟩ | ⟨h1, h2⟩
    · cases h2
      subst h1
      exact ⟨a1, zGl_self (by rw [zKl_len, ← h.1]; omega), ha⟩
    · obtain ⟨h3, h4⟩ := zGl_kl h2
      obtain ⟨c1, h5, h6⟩ := h.2 i c h3
      refine ⟨c1, ?_, h6⟩
      rw [zGl_set' h1]
      refine zGl_kl' h5 (fun q => h4 ⟨q.1, ?_⟩)
      have := (zVR_tag h6).2.1
      unfold zEq1 at this
      rw [q.2] at this
      exact Nat.eq_of_beq_eq_true this.symm
/-- one step of each -/
def zSm (lO lA : Nat → Int → Nat) (sc : Prop) (r2 : zRs zH2) (r1 : zRs zH1) : Prop := ∀ gs c2', r2 = some (gs, c2') → zAll gs → ∃ gs1 c1', r1 = some (gs1, c1') ∧ zAll gs1 ∧ zCR lO lA sc c2' c1'
variable {c2 : zCf zH2} {c1 : zCf zH1}
theorem p_ld {ok : Nat → Bool} {n len : Nat} (hok : ok = zEq0 ∨ ok = zEq1 ∨ ok = zGe2) (h : zCR lO lA sc c2 c1) : zSm lO lA sc (zLd ok n len c2) (zLd ok n len c1) := by
  obtain ⟨h1, h2, h3, h4⟩ := h
  intro gs c2' hE hg
  unfold zLd at hE
  split at hE
  · rename_i t x e1
    split at hE
    · rename_i e2
      cases hE
      obtain ⟨a1, q1, q2⟩ := h2.2 _ _ e1
      obtain ⟨t1, x1⟩ := a1
      have ht : ok t1 = true := by
        obtain ⟨w1, w2, w3⟩ := zVR_tag q2
        rcases hok with rfl | rfl | rfl
        · rw [w1]; exact e2
        · rw [w2]; exact e2
        · rw [w3]; exact e2
      refine ⟨[], (c1.1 + len, c1.2.1, (t1, x1) :: c1.2.2.1, c1.2.2.2), ?_, trivial, ⟨by rw [h1], h2, ⟨q2, h3⟩, h4⟩⟩
      unfold zLd
      rw [q1]
      simp only [ht]
    · cases hE
  · cases hE
theorem p_pu {v : zAv} {len : Nat} (hv : zVR lO lA sc v v) (h : zCR lO lA sc c2 c1) : zSm lO lA sc (zPu v len c2) (zPu v len c1) := by
  obtain ⟨h1, h2, h3, h4⟩ := h
  intro gs c2' hE hg
  cases hE
  exact ⟨[], _, rfl, trivial, ⟨by show c1.1 + len = c2.1 + len; rw [h1], h2, ⟨hv, h3⟩, h4⟩⟩
theorem p_ck {b : Bool} {r2 : zRs zH2} {r1 : zRs zH1} (h : zSm lO lA sc r2 r1) : zSm lO lA sc (zCk b r2) (zCk b r1) := by
  intro gs c2' hE hg
  cases b with
  | true => exact h gs c2' hE hg
  | false => cases hE
theorem p_sto {ok : Nat → Bool} {n len : Nat} (hok : ok = zEq0 ∨ ok = zEq1 ∨ ok = zGe2) (h : zCR lO lA sc c2 c1) : zSm lO lA sc (zSto ok n len c2) (zSto ok n len c1) := by
  obtain ⟨h1, h2, h3, h4⟩ := h
  intro gs c2' hE hg
  unfold zSto at hE
  split at hE
  · rename_i t x r e1
    split at hE
    · rename_i e2
      cases hE
      rw [Bool.and_eq_true] at e2
      rw [e1] at h3
      obtain ⟨a1, s, q0, q2, q3⟩ := zSR_cons h3
      obtain ⟨t1, x1⟩ := a1
      have ht : ok t1 = true := by
        obtain ⟨w1, w2, w3⟩ := zVR_tag q2
        rcases hok with rfl | rfl | rfl
        · rw [w1]; exact e2.1
        · rw [w2]; exact e2.1
        · rw [w3]; exact e2.1
      have hn : n < c2.2.1.length := Nat.le_of_ble_eq_true e2.2
      have hb : Nat.blt n c1.2.1.length = true := by rw [← h2.1]; exact e2.2
      refine ⟨[], (c1.1 + len, zSt c1.2.1 n (t1, x1), s, c1.2.2.2), ?_, trivial, ⟨by rw [h1], h2.sto hn q2, q3, h4⟩⟩
      unfold zSto
      rw [q0]
      simp only [ht, hb, Bool.and_self]
    · cases hE
  · cases hE
theorem p_stoL {n len : Nat} (h : zCR lO lA sc c2 c1) : zSm lO lA sc (zStoL n len c2) (zStoL n len c1) := by
  obtain ⟨h1, h2, h3, h4⟩ := h
  intro gs c2' hE hg
  unfold zStoL at hE
  split at hE
  · rename_i x r e1
    split at hE
    · rename_i e2
      cases hE
      rw [e1] at h3
      obtain ⟨a1, s, q0, q2, q3⟩ := zSR_cons h3
      have := zVR1 q2
      subst this
      have hn : n + 1 < c2.2.1.length := Nat.le_of_ble_eq_true e2
      have hb : Nat.blt (n + 1) c1.2.1.length = true := by rw [← h2.1]; exact e2
      refine ⟨[], (c1.1 + len, zStL c1.2.1 n (1, x), s, c1.2.2.2), ?_, trivial, ⟨by rw [h1], h2.stoL hn q2, q3, h4⟩⟩
      unfold zStoL
      rw [q0]
      simp only [hb]
    · cases hE
  · cases hE
theorem p_b0 {f : Int → Int → Int} (h : zCR lO lA sc c2 c1) : zSm lO lA sc (zB0 f c2) (zB0 f c1) := by
  obtain ⟨h1, h2, h3, h4⟩ := h
  intro gs c2' hE hg
  unfold zB0 at hE
  split at hE
  · rename_i y x r e1
    cases hE
    rw [e1] at h3
    obtain ⟨a1, s, q0, q2, q3⟩ := zSR_cons h3
    obtain ⟨a2, s2, q4, q5, q6⟩ := zSR_cons q3
    have := zVR0 q2; subst this
    have := zVR0 q5; subst this
    subst q4
    refine ⟨[], (c1.1 + 1, c1.2.1, (0, f x y) :: s2, c1.2.2.2), ?_, trivial, ⟨by rw [h1], h2, ⟨zVR_i, q6⟩, h4⟩⟩
    unfold zB0
    rw [q0]
    rfl
  · cases hE
theorem p_b0d {f : Int → Int → Int} (h : zCR lO lA sc c2 c1) : zSm lO lA sc (zB0d f c2) (zB0d f c1) := by
  obtain ⟨h1, h2, h3, h4⟩ := h
  intro gs c2' hE hg
  unfold zB0d at hE
  split at hE
  · rename_i y x r e1
    cases hE
    rw [e1] at h3
    obtain ⟨a1, s, q0, q2, q3⟩ := zSR_cons h3
    obtain ⟨a2, s2, q4, q5, q6⟩ := zSR_cons q3
    have := zVR0 q2; subst this
    have := zVR0 q5; subst this
    subst q4
    refine ⟨[¬ y = 0], (c1.1 + 1, c1.2.1, (0, f x y) :: s2, c1.2.2.2), ?_, hg, ⟨by rw [h1], h2, ⟨zVR_i, q6⟩, h4⟩⟩
    unfold zB0d
    rw [q0]
    rfl
  · cases hE
theorem p_b1 {f : Int → Int → Int} (h : zCR lO lA sc c2 c1) : zSm lO lA sc (zB1 f c2) (zB1 f c1) := by
  obtain ⟨h1, h2, h3, h4⟩ := h
  intro gs c2' hE hg
  unfold zB1 at hE
  split at hE
  · rename_i y x r e1
    cases hE
    rw [e1] at h3
    obtain ⟨a1, s, q0, q2, q3⟩ := zSR_cons h3
    obtain ⟨a2, s2, q4, q5, q6⟩ := zSR_cons q3
    have := zVR1 q2; subst this
    have := zVR1 q5; subst this
    subst q4
    refine ⟨[], (c1.1 + 1, c1.2.1, (1, f x y) :: s2, c1.2.2.2), ?_, trivial, ⟨by rw [h1], h2, ⟨zVR_l, q6⟩, h4⟩⟩
    unfold zB1
    rw [q0]
    rfl
  · cases hE
theorem p_b1d {f : Int → Int → Int} (h : zCR lO lA sc c2 c1) : zSm lO lA sc (zB1d f c2) (zB1d f c1) := by
  obtain ⟨h1, h2, h3, h4⟩ := h
  intro gs c2' hE hg
  unfold zB1d at hE
  split at hE
  · rename_i y x r e1
    cases hE
    rw [e1] at h3
    obtain ⟨a1, s, q0, q2, q3⟩ := zSR_cons h3
    obtain ⟨a2, s2, q4, q5, q6⟩ := zSR_cons q3
    have := zVR1 q2; subst this
    have := zVR1 q5; subst this
    subst q4
    refine ⟨[¬ y = 0], (c1.1 + 1, c1.2.1, (1, f x y) :: s2, c1.2.2.2), ?_, hg, ⟨by rw [h1], h2, ⟨zVR_l, q6⟩, h4⟩⟩
    unfold zB1d
    rw [q0]
    rfl
  · cases hE
theorem p_b10 {f : Int → Int → Int} (h : zCR lO lA sc c2 c1) : zSm lO lA sc (zB10 f c2) (zB10 f c1) := by
  obtain ⟨h1, h2, h3, h4⟩ := h
  intro gs c2' hE hg
  unfold zB10 at hE
  split at hE
  · rename_i y x r e1
    cases hE
    rw [e1] at h3
    obtain ⟨a1, s, q0, q2, q3⟩ := zSR_cons h3
    obtain ⟨a2, s2, q4, q5, q6⟩ := zSR_cons q3
    have := zVR0 q2; subst this
    have := zVR1 q5; subst this
    subst q4
    refine ⟨[], (c1.1 + 1, c1.2.1, (1, f x y) :: s2, c1.2.2.2), ?_, trivial, ⟨by rw [h1], h2, ⟨zVR_l, q6⟩, h4⟩⟩
    unfold zB10
    rw [q0]
    rfl
  · cases hE
theorem p_cp (h : zCR lO lA sc c2 c1) : zSm lO lA sc (zCp c2) (zCp c1) := by
  obtain ⟨h1, h2, h3, h4⟩ := h
  intro gs c2' hE hg
  unfold zCp at hE
  split at hE
  · rename_i y x r e1
    cases hE
    rw [e1] at h3
    obtain ⟨a1, s, q0, q2, q3⟩ := zSR_cons h3
    obtain ⟨a2, s2, q4, q5, q6⟩ := zSR_cons q3
    have := zVR1 q2; subst this
    have := zVR1 q5; subst this
    subst q4
    refine ⟨[], (c1.1 + 1, c1.2.1, (0, qcmp x y) :: s2, c1.2.2.2), ?_, trivial, ⟨by rw [h1], h2, ⟨zVR_i, q6⟩, h4⟩⟩
    unfold zCp
    rw [q0]
    rfl
  · cases hE
theorem p_u {u t : Nat} {f : Int → Int} (hu : u = 0 ∨ u = 1) (ht : t = 0 ∨ t = 1) (h : zCR lO lA sc c2 c1) : zSm lO lA sc (zU u t f c2) (zU u t f c1) := by
  obtain ⟨h1, h2, h3, h4⟩ := h
  intro gs c2' hE hg
  unfold zU at hE
  split at hE
  · rename_i u' x r e1
    split at hE
    · rename_i e2
      cases hE
      have e2 := Nat.eq_of_beq_eq_true e2
      subst e2
      rw [e1] at h3
      obtain ⟨a1, s, q0, q2, q3⟩ := zSR_cons h3
      have ha : a1 = (u', x) := by
        rcases hu with rfl | rfl
        · exact zVR0 q2
        · exact zVR1 q2
      subst ha
      have hv : zVR lO lA sc (t, f x) (t, f x) := by
        rcases ht with rfl | rfl
        · exact zVR_i
        · exact zVR_l
      refine ⟨[], (c1.1 + 1, c1.2.1, (t, f x) :: s, c1.2.2.2), ?_, trivial, ⟨by rw [h1], h2, ⟨hv, q3⟩, h4⟩⟩
      unfold zU
      rw [q0]
      simp only [Nat.beq_refl]
    · cases hE
  · cases hE
theorem p_dup (h : zCR lO lA sc c2 c1) : zSm lO lA sc (zDup c2) (zDup c1) := by
  obtain ⟨h1, h2, h3, h4⟩ := h
  intro gs c2' hE hg
  unfold zDup at hE
  split at hE
  · rename_i t x r e1
    split at hE
    · cases hE
    · rename_i e2
      cases hE
      rw [e1] at h3
      obtain ⟨a1, s, q0, q2, q3⟩ := zSR_cons h3
      obtain ⟨t1, x1⟩ := a1
      have hb : Nat.beq t1 1 = false := by
        have := (zVR_tag q2).2.1
        exact this.trans e2
      refine ⟨[], (c1.1 + 1, c1.2.1, (t1, x1) :: (t1, x1) :: s, c1.2.2.2), ?_, trivial, ⟨by rw [h1], h2, ⟨q2, q2, q3⟩, h4⟩⟩
      unfold zDup
      rw [q0]
      simp only [hb]
  · cases hE
theorem p_pop (h : zCR lO lA sc c2 c1) : zSm lO lA sc (zPop c2) (zPop c1) := by
  obtain ⟨h1, h2, h3, h4⟩ := h
  intro gs c2' hE hg
  unfold zPop at hE
  split at hE
  · rename_i t x r e1
    split at hE
    · cases hE
    · rename_i e2
      cases hE
      rw [e1] at h3
      obtain ⟨a1, s, q0, q2, q3⟩ := zSR_cons h3
      obtain ⟨t1, x1⟩ := a1
      have hb : Nat.beq t1 1 = false := by
        have := (zVR_tag q2).2.1
        exact this.trans e2
      refine ⟨[], (c1.1 + 1, c1.2.1, s, c1.2.2.2), ?_, trivial, ⟨by rw [h1], h2, q3, h4⟩⟩
      unfold zPop
      rw [q0]
      simp only [hb]
  · cases hE
theorem p_dup2 (h : zCR lO lA sc c2 c1) : zSm lO lA sc (zDup2 c2) (zDup2 c1) := by
  obtain ⟨h1, h2, h3, h4⟩ := h
  intro gs c2' hE hg
  unfold zDup2 at hE
  split at hE
  · rename_i t x u y r e1
    split at hE
    · cases hE
    · rename_i e2
      cases hE
      rw [Bool.or_eq_false_iff] at e2
      rw [e1] at h3
      obtain ⟨a1, s, q0, q2, q3⟩ := zSR_cons h3
      obtain ⟨a2, s2, q4, q5, q6⟩ := zSR_cons q3
      obtain ⟨t1, x1⟩ := a1
      obtain ⟨u1, y1⟩ := a2
      subst q4
      have hb : Nat.beq t1 1 = false := ((zVR_tag q2).2.1).trans e2.1
      have hb2 : Nat.beq u1 1 = false := ((zVR_tag q5).2.1).trans e2.2
      refine ⟨[], (c1.1 + 1, c1.2.1, (t1, x1) :: (u1, y1) :: (t1, x1) :: (u1, y1) :: s2, c1.2.2.2), ?_, trivial, ⟨by rw [h1], h2, ⟨q2, q5, q2, q5, q6⟩, h4⟩⟩
      unfold zDup2
      rw [q0]
      simp only [hb, hb2, Bool.or_self]
  · cases hE
theorem p_br {g : Prop} {off d : Int} {r s : List zAv} (h : zCR lO lA sc c2 c1) (hr : zSR lO lA sc r s) : zSm lO lA sc (zBr g off d r c2) (zBr g off d s c1) := by
  obtain ⟨h1, h2, h3, h4⟩ := h
  intro gs c2' hE hg
  unfold zBr at hE
  split at hE
  · rename_i t e1
    split at hE
    · rename_i e2
      cases hE
      refine ⟨[g], (t, c1.2.1, s, c1.2.2.2), ?_, hg, ⟨rfl, h2, hr, h4⟩⟩
      unfold zBr
      rw [h1, e1]
      simp only [e2]
    · rename_i e2
      cases hE
      refine ⟨[¬ g], (c1.1 + 3, c1.2.1, s, c1.2.2.2), ?_, hg, ⟨by rw [h1], h2, hr, h4⟩⟩
      unfold zBr
      rw [h1, e1]
      simp only [e2]
  · cases hE
theorem p_if {k : ClassFile.Cond} {off d : Int} (h : zCR lO lA sc c2 c1) : zSm lO lA sc (zIf k off d c2) (zIf k off d c1) := by
  intro gs c2' hE hg
  unfold zIf at hE
  split at hE
  · rename_i x r e1
    obtain ⟨h1, h2, h3, h4⟩ := id h
    rw [e1] at h3
    obtain ⟨a1, s, q0, q2, q3⟩ := zSR_cons h3
    have := zVR0 q2; subst this
    obtain ⟨gs1, c1', k1, k2⟩ := p_br h q3 gs c2' hE hg
    refine ⟨gs1, c1', ?_, k2⟩
    unfold zIf
    rw [q0]
    exact k1
  · cases hE
theorem p_ic {k : ClassFile.Cond} {off d : Int} (h : zCR lO lA sc c2 c1) : zSm lO lA sc (zIc k off d c2) (zIc k off d c1) := by
  intro gs c2' hE hg
  unfold zIc at hE
  split at hE
  · rename_i y x r e1
    obtain ⟨h1, h2, h3, h4⟩ := id h
    rw [e1] at h3
    obtain ⟨a1, s, q0, q2, q3⟩ := zSR_cons h3
    obtain ⟨a2, s2, q4, q5, q6⟩ := zSR_cons q3
    have := zVR0 q2; subst this
    have := zVR0 q5; subst this
    subst q4
    obtain ⟨gs1, c1', k1, k2⟩ := p_br h q6 gs c2' hE hg
    refine ⟨gs1, c1', ?_, k2⟩
    unfold zIc
    rw [q0]
    exact k1
  · cases hE
theorem p_go {off : Int} (h : zCR lO lA sc c2 c1) : zSm lO lA sc (zGo off c2) (zGo off c1) := by
  obtain ⟨h1, h2, h3, h4⟩ := h
  intro gs c2' hE hg
  unfold zGo at hE
  split at hE
  · rename_i t e1
    cases hE
    refine ⟨[], (t, c1.2.1, c1.2.2.1, c1.2.2.2), ?_, trivial, ⟨rfl, h2, h3, h4⟩⟩
    unfold zGo
    rw [h1, e1]
  · cases hE
theorem p_ts {dflt lo hi d : Int} {offs : Array Int} (h : zCR lO lA sc c2 c1) : zSm lO lA sc (zTs dflt lo hi offs d c2) (zTs dflt lo hi offs d c1) := by
  obtain ⟨h1, h2, h3, h4⟩ := h
  intro gs c2' hE hg
  unfold zTs at hE
  split at hE
  · rename_i x r e1
    rw [e1] at h3
    obtain ⟨a1, s, q0, q2, q3⟩ := zSR_cons h3
    have := zVR0 q2; subst this
    split at hE
    · rename_i e2
      split at hE
      · rename_i off e3
        split at hE
        · rename_i t e4
          cases hE
          refine ⟨[x = d], (t, c1.2.1, s, c1.2.2.2), ?_, hg, ⟨rfl, h2, q3, h4⟩⟩
          unfold zTs
          rw [q0]
          simp only [e2, e3, h1, e4]
        · cases hE
      · cases hE
    · rename_i e2
      split at hE
      · rename_i t e4
        cases hE
        refine ⟨[x < lo ∨ hi < x], (t, c1.2.1, s, c1.2.2.2), ?_, hg, ⟨rfl, h2, q3, h4⟩⟩
        unfold zTs
        rw [q0]
        simp only [e2, h1, e4]
      · cases hE
  · cases hE
theorem p_ls {dflt d : Int} {ps : Array (Int × Int)} (h : zCR lO lA sc c2 c1) : zSm lO lA sc (zLs dflt ps d c2) (zLs dflt ps d c1) := by
  obtain ⟨h1, h2, h3, h4⟩ := h
  intro gs c2' hE hg
  unfold zLs at hE
  split at hE
  · rename_i x r e1
    rw [e1] at h3
    obtain ⟨a1, s, q0, q2, q3⟩ := zSR_cons h3
    have := zVR0 q2; subst this
    split at hE
    · rename_i e2
      split at hE
      · rename_i off e3
        split at hE
        · rename_i t e4
          cases hE
          refine ⟨[x = d], (t, c1.2.1, s, c1.2.2.2), ?_, hg, ⟨rfl, h2, q3, h4⟩⟩
          unfold zLs
          rw [q0]
          simp only [e2, e3, h1, e4]
        · cases hE
      · rename_i e3
        split at hE
        · rename_i t e4
          cases hE
          refine ⟨_, (t, c1.2.1, s, c1.2.2.2), ?_, hg, ⟨rfl, h2, q3, h4⟩⟩
          unfold zLs
          rw [q0]
          simp only [e2, e3, h1, e4]
        · cases hE
    · cases hE
  · cases hE
theorem p_ii {n : Nat} {k : Int} (h : zCR lO lA sc c2 c1) : zSm lO lA sc (zIi n k c2) (zIi n k c1) := by
  obtain ⟨h1, h2, h3, h4⟩ := h
  intro gs c2' hE hg
  unfold zIi at hE
  split at hE
  · rename_i x e1
    cases hE
    obtain ⟨a1, q1, q2⟩ := h2.2 _ _ e1
    have := zVR0 q2; subst this
    refine ⟨[], (c1.1 + 3, zSt c1.2.1 n (0, wadd x k), c1.2.2.1, c1.2.2.2), ?_, trivial, ⟨by rw [h1], h2.sto (zGl_lt e1) zVR_i, h3, h4⟩⟩
    unfold zIi
    rw [q1]
    rfl
  · cases hE
end ZP
end
section
section ZQ
variable {lO lA : Nat → Int → Nat} {sc : Prop}
theorem zW_sp {ci k : Nat} (h : ci < 13) (hk : k < zNf ci) :
    (zW ci k % 4 = 0 ∧ zTag ci k = 0 ∧ zW ci k = 0) ∨ (zW ci k % 4 = 1 ∧ zTag ci k = 1 ∧ zW ci k = 1) ∨
    (zW ci k % 4 = 2 ∧ zTag ci k = 2 ∧ 20 ≤ zW ci k / 4 / 65536 ∧ zW ci k / 4 / 65536 ≤ 24 ∧ (zW ci k / 4 / 65536 = 23 ↔ ci = 8 ∧ k = 2) ∧ (zW ci k / 4 / 65536 = 24 ↔ ci = 11 ∧ k = 9)) ∨
    (zW ci k % 4 = 3 ∧ zTag ci k = 2 ∧ zW ci k / 4 % 16 < 13 ∧ ((zW ci k / 64 % 2 = 0 ∧ zW ci k / 128 < zCnt (zW ci k / 4 % 16)) ∨ (zW ci k / 64 % 2 = 1 ∧ zCnt ci + zW ci k / 128 ≤ zCnt (zW ci k / 4 % 16)))) := by
  have h1 := List.all_eq_true.mp (List.all_eq_true.mp zW_all ci (List.mem_range.mpr h)) k (List.mem_range.mpr hk)
  have h4 : zW ci k % 4 < 4 := Nat.mod_lt _ (by omega)
  have hm : zW ci k % 4 = 0 ∨ zW ci k % 4 = 1 ∨ zW ci k % 4 = 2 ∨ zW ci k % 4 = 3 := by omega
  rcases hm with hm | hm | hm | hm
  · simp only [hm, Bool.and_eq_true] at h1
    exact Or.inl ⟨hm, Nat.eq_of_beq_eq_true h1.1, Nat.eq_of_beq_eq_true h1.2⟩
  · simp only [hm, Bool.and_eq_true] at h1
    exact Or.inr (Or.inl ⟨hm, Nat.eq_of_beq_eq_true h1.1, Nat.eq_of_beq_eq_true h1.2⟩)
  · simp only [hm, Bool.and_eq_true, beq_iff_eq] at h1
    obtain ⟨q1, ⟨⟨q2, q3⟩, q4⟩, q5⟩ := h1
    refine Or.inr (Or.inr (Or.inl ⟨hm, Nat.eq_of_beq_eq_true q1, Nat.le_of_ble_eq_true q2, Nat.le_of_ble_eq_true q3, ?_, ?_⟩))
    · constructor
      · intro e
        rw [e] at q4
        have q4 : (Nat.beq ci 8 && Nat.beq k 2) = true := q4.symm
        rw [Bool.and_eq_true] at q4
        exact ⟨Nat.eq_of_beq_eq_true q4.1, Nat.eq_of_beq_eq_true q4.2⟩
      · rintro ⟨rfl, rfl⟩
        exact Nat.eq_of_beq_eq_true (q4.trans rfl)
    · constructor
      · intro e
        rw [e] at q5
        have q5 : (Nat.beq ci 11 && Nat.beq k 9) = true := q5.symm
        rw [Bool.and_eq_true] at q5
        exact ⟨Nat.eq_of_beq_eq_true q5.1, Nat.eq_of_beq_eq_true q5.2⟩
      · rintro ⟨rfl, rfl⟩
        exact Nat.eq_of_beq_eq_true (q5.trans rfl)
  · simp only [hm, Bool.and_eq_true] at h1
    obtain ⟨q1, q2, q3⟩ := h1
    refine Or.inr (Or.inr (Or.inr ⟨hm, Nat.eq_of_beq_eq_true q1, Nat.le_of_ble_eq_true q2, ?_⟩))
    have hb : zW ci k / 64 % 2 = 0 ∨ zW ci k / 64 % 2 = 1 := by omega
    rcases hb with hb | hb
    · simp only [hb] at q3
      exact Or.inl ⟨hb, Nat.le_of_ble_eq_true q3⟩
    · simp only [hb] at q3
      exact Or.inr ⟨hb, Nat.le_of_ble_eq_true q3⟩
theorem zVR_obj {ci : Nat} {n : Int} {a1 : zAv} (hc : ci < 13) (h : zVR lO lA sc (10 + ci, n) a1) : 0 ≤ n ∧ n < (zCnt ci : Int) ∧ a1 = (2, (lO ci n : Int)) := by
  rcases h with ⟨h, -⟩ | ⟨h, -⟩ | ⟨h, -⟩ | ⟨h, -⟩ | ⟨cj, -, h, h2, h3, h4⟩ | ⟨cj, k, y, -, -, -, h, -⟩
  · simp only at h; omega
  · simp only at h; omega
  · simp only at h; omega
  · simp only at h; omega
  · have : cj = ci := by simp only at h; omega
    subst this
    exact ⟨h2, h3, h4⟩
  · unfold zTg2 at h; simp only at h; omega
theorem zVR_row {t : Nat} {n : Int} {a1 : zAv} (ht : 1000 ≤ t) (h : zVR lO lA sc (t, n) a1) : ∃ ci k x, ci < 13 ∧ k < zNf ci ∧ zW ci k = 2 + 4 * x ∧ t = zTg2 (ci * 64 + k) x ∧ 0 ≤ n ∧ n < (zCnt ci : Int) ∧ a1 = (2, (lA (ci * 64 + k) n : Int)) := by
  rcases h with ⟨h, -⟩ | ⟨h, -⟩ | ⟨h, -⟩ | ⟨h, -⟩ | ⟨cj, hc, h, h2, h3, h4⟩ | ⟨cj, k, y, h1, h2, h3, h4, h5, h6, h7⟩
  · simp only at h; omega
  · simp only at h; omega
  · simp only at h; omega
  · simp only at h; omega
  · simp only at h; omega
  · exact ⟨cj, k, y, h1, h2, h3, h4, h5, h6, h7⟩
theorem zVR_o {ci : Nat} {n : Int} (hc : ci < 13) (h0 : 0 ≤ n) (h1 : n < (zCnt ci : Int)) : zVR lO lA sc (10 + ci, n) (2, (lO ci n : Int)) := Or.inr (Or.inr (Or.inr (Or.inr (Or.inl ⟨ci, hc, rfl, h0, h1, rfl⟩))))
theorem zVR_a {ci k x : Nat} {n : Int} (hc : ci < 13) (hk : k < zNf ci) (hw : zW ci k = 2 + 4 * x) (h0 : 0 ≤ n) (h1 : n < (zCnt ci : Int)) : zVR lO lA sc (zTg2 (ci * 64 + k) x, n) (2, (lA (ci * 64 + k) n : Int)) := Or.inr (Or.inr (Or.inr (Or.inr (Or.inr ⟨ci, k, x, hc, hk, hw, rfl, h0, h1, rfl⟩))))
theorem zGt_eq {g : zH2} {r : Nat} {n i v : Int} : zGt (zPt g r n i v) r n i = v := by
  unfold zGt zPt
  cases e : Nat.ble 768 r with
  | false => simp [hset]
  | true => simp [mset]
theorem zGt_ne {g : zH2} {r r' : Nat} {n n' i i' v : Int} (h : r' ≠ r ∨ (r < 768 ∧ n' ≠ n) ∨ i' ≠ i) : zGt (zPt g r n i v) r' n' i' = zGt g r' n' i' := by
  unfold zGt zPt
  cases e : Nat.ble 768 r with
  | false =>
    cases e2 : Nat.ble 768 r' with
    | false =>
      simp only [hset]
      rw [if_neg]
      rintro ⟨q1, q2, q3⟩
      rcases h with h | ⟨-, h⟩ | h
      · exact h q1
      · exact h q2
      · exact h q3
    | true => rfl
  | true =>
    have hr := Nat.le_of_ble_eq_true e
    cases e2 : Nat.ble 768 r' with
    | false => rfl
    | true =>
      have hr' := Nat.le_of_ble_eq_true e2
      simp only [mset]
      rw [if_neg]
      rintro ⟨q1, q3⟩
      rcases h with h | ⟨h, -⟩ | h
      · exact h (by omega)
      · omega
      · exact h q3
theorem zPt_out {g : zH2} {r : Nat} {n i v : Int} : (zPt g r n i v).2.2 = g.2.2 := by
  unfold zPt
  cases Nat.ble 768 r <;> rfl
theorem zCnt12 : zCnt 12 = 1 := rfl
theorem reg_inj {ci k cj k' : Nat} (h1 : ci < 13) (h2 : k < zNf ci) (h3 : cj < 13) (h4 : k' < zNf cj) (h : ci * 64 + k = cj * 64 + k') : ci = cj ∧ k = k' := by
  have a := (zNf_le2 h1 h2).2
  have b := (zNf_le2 h3 h4).2
  omega
/-- the second heap's place is another one -/
theorem zGt_other {g : zH2} {ci k cj k' : Nat} {n n' i i' v : Int} (h1 : ci < 13) (h2 : k < zNf ci) (h3 : cj < 13) (h4 : k' < zNf cj) (hn : 0 ≤ n) (hn2 : n < (zCnt ci : Int)) (hm : 0 ≤ n') (hm2 : n' < (zCnt cj : Int)) (h : ¬ (cj = ci ∧ k' = k ∧ n' = n ∧ i' = i)) : zGt (zPt g (ci * 64 + k) n i v) (cj * 64 + k') n' i' = zGt g (cj * 64 + k') n' i' := by
  apply zGt_ne
  by_cases hr : cj * 64 + k' = ci * 64 + k
  · obtain ⟨e1, e2⟩ := reg_inj h3 h4 h1 h2 hr
    subst e1
    subst e2
    by_cases hi : i' = i
    · right; left
      have hnn : n' ≠ n := fun q => h ⟨rfl, rfl, q, hi⟩
      refine ⟨?_, hnn⟩
      by_cases h12 : cj = 12
      · subst h12
        rw [zCnt12] at hn2 hm2
        omega
      · have := (zNf_le2 h1 h2).2
        omega
    · exact Or.inr (Or.inr hi)
  · exact Or.inl hr
theorem zFl2_keep {g g' : zH2} {ci k : Nat} {n v : Int} (h : zFl2 lO lA g ci k n v) (hg : zW ci k % 4 ≤ 1 → zGt g' (ci * 64 + k) n 0 = zGt g (ci * 64 + k) n 0) : zFl2 lO lA g' ci k n v := by
  unfold zFl2 at *
  split at h
  · rename_i e; rw [hg (by omega)]; exact h
  · rename_i e; rw [hg (by omega)]; exact h
  · exact h
  · exact h
theorem zRw2_keep {g g' : zH2} {kd r i : Nat} {n v : Int} (h : zRw2 lO g kd r n i v) (e : zGt g' r n i = zGt g r n i) : zRw2 lO g' kd r n i v := by
  unfold zRw2 at *
  split at h
  · exact h
  · exact h
  · rw [e]; exact h
/-- a field of numbers is written -/
theorem zR2_putf {g : zH2} {h : zH1} {ci k : Nat} {n v : Int} {f : Nat → Int} (ap : zAp lO lA) (hR : zR2 lO lA g h) (hc : ci < 13) (hk : k < zNf ci) (hw : zW ci k ≤ 1) (h0 : 0 ≤ n) (h1 : n < (zCnt ci : Int)) (hcell : h[lO ci n]? = some (ci, zNf ci, f)) :
    zR2 lO lA (zPt g (ci * 64 + k) n 0 v) (h.set (lO ci n) (ci, zNf ci, zUp f k v)) := by
  obtain ⟨r1, r2, r3⟩ := hR
  obtain ⟨ap0, ap1, ap2⟩ := ap
  have hlt := (List.getElem?_eq_some_iff.mp hcell).1
  refine ⟨fun cj n' hcj hn0 hn1 => ?_, fun cj k' x n' hcj hk' hx hn0 hn1 => ?_, ?_⟩
  · obtain ⟨f', e1, e2⟩ := r1 cj n' hcj hn0 hn1
    by_cases hid : lO ci n = lO cj n'
    · obtain ⟨q1, q2⟩ := ap1 ci cj n n' hc hcj h0 h1 hn0 hn1 hid
      subst q1
      subst q2
      rw [hcell] at e1
      cases e1
      refine ⟨zUp f k v, by rw [List.getElem?_set_self hlt], fun k' hk' => ?_⟩
      by_cases hkk : k' = k
      · subst hkk
        have hz : zUp f k' v k' = v := by simp [zUp]
        rw [hz]
        unfold zFl2
        have hww : zW ci k' = 0 ∨ zW ci k' = 1 := by omega
        rcases hww with hww | hww
        · rw [hww]; exact zGt_eq.symm
        · rw [hww]; exact zGt_eq.symm
      · have hz : zUp f k v k' = f k' := by simp [zUp, hkk]
        rw [hz]
        exact zFl2_keep (e2 k' hk') (fun _ => zGt_other hc hk hc hk' h0 h1 h0 h1 (fun q => hkk q.2.1))
    · refine ⟨f', by rw [List.getElem?_set_ne hid]; exact e1, fun k' hk' => ?_⟩
      refine zFl2_keep (e2 k' hk') (fun _ => zGt_other hc hk hcj hk' h0 h1 hn0 hn1 (fun q => hid ?_))
      rw [q.1, q.2.2.1]
  · obtain ⟨f', e1, e2⟩ := r2 cj k' x n' hcj hk' hx hn0 hn1
    have hid : ¬ lO ci n = lA (cj * 64 + k') n' := by
      intro q
      rw [← q, hcell] at e1
      have e1 := congrArg Prod.fst (Option.some.inj e1)
      simp only at e1
      rcases zW_sp hcj hk' with w | w | w | w <;> omega
    exact ⟨f', by rw [List.getElem?_set_ne hid]; exact e1, fun i hi => zRw2_keep (e2 i hi) (zGt_other hc hk hcj hk' h0 h1 hn0 hn1 (fun q => by
        obtain ⟨q1, q2, -⟩ := q
        subst q1
        subst q2
        omega))⟩
  · obtain ⟨f', e1, e2⟩ := r3
    have hid : ¬ lO ci n = lO 20 0 := by
      intro q
      rw [← q, hcell] at e1
      have e1 := congrArg Prod.fst (Option.some.inj e1)
      simp only at e1
      omega
    exact ⟨f', by rw [List.getElem?_set_ne hid]; exact e1, by rw [zPt_out]; exact e2⟩
/-- a row of numbers is written, at any places -/
theorem zR2_row {g g' : zH2} {h : zH1} {ci k x : Nat} {n : Int} {f f' : Nat → Int} (ap : zAp lO lA) (hR : zR2 lO lA g h) (hc : ci < 13) (hk : k < zNf ci) (hx : zW ci k = 2 + 4 * x) (hkd : x / 65536 ≤ 22) (h0 : 0 ≤ n) (h1 : n < (zCnt ci : Int)) (hcell : h[lA (ci * 64 + k) n]? = some (x / 65536, x % 65536, f))
    (hout : g'.2.2 = g.2.2) (hoth : ∀ (cj k' : Nat) (n' i' : Int), cj < 13 → k' < zNf cj → 0 ≤ n' → n' < (zCnt cj : Int) → ¬ (cj = ci ∧ k' = k ∧ n' = n) → zGt g' (cj * 64 + k') n' i' = zGt g (cj * 64 + k') n' i') (hself : ∀ i : Nat, i < x % 65536 → f' i = zGt g' (ci * 64 + k) n i) :
    zR2 lO lA g' (h.set (lA (ci * 64 + k) n) (x / 65536, x % 65536, f')) := by
  obtain ⟨r1, r2, r3⟩ := hR
  obtain ⟨ap0, ap1, ap2⟩ := ap
  have hlt := (List.getElem?_eq_some_iff.mp hcell).1
  have h20 : 20 ≤ x / 65536 := by rcases zW_sp hc hk with w | w | w | w <;> omega
  refine ⟨fun cj n' hcj hn0 hn1 => ?_, fun cj k' x' n' hcj hk' hx' hn0 hn1 => ?_, ?_⟩
  · obtain ⟨f2, e1, e2⟩ := r1 cj n' hcj hn0 hn1
    have hid : ¬ lA (ci * 64 + k) n = lO cj n' := by
      intro q
      rw [← q, hcell] at e1
      have e1 := congrArg Prod.fst (Option.some.inj e1)
      simp only at e1
      omega
    refine ⟨f2, by rw [List.getElem?_set_ne hid]; exact e1, fun k' hk' => zFl2_keep (e2 k' hk') (fun w => hoth cj k' n' 0 hcj hk' hn0 hn1 (fun q => ?_))⟩
    obtain ⟨q1, q2, -⟩ := q
    subst q1
    subst q2
    omega
  · obtain ⟨f2, e1, e2⟩ := r2 cj k' x' n' hcj hk' hx' hn0 hn1
    by_cases hid : lA (ci * 64 + k) n = lA (cj * 64 + k') n'
    · obtain ⟨q1, q2, q3⟩ := ap2 ci k x cj k' x' n n' hc hk hx h0 h1 hcj hk' hx' hn0 hn1 hid
      subst q1
      subst q2
      subst q3
      have : x' = x := by omega
      subst this
      refine ⟨f', by rw [List.getElem?_set_self hlt], fun i hi => ?_⟩
      unfold zRw2
      split
      · omega
      · omega
      · exact hself i hi
    · exact ⟨f2, by rw [List.getElem?_set_ne hid]; exact e1, fun i hi => zRw2_keep (e2 i hi) (hoth cj k' n' i hcj hk' hn0 hn1 (fun q => hid (by rw [q.1, q.2.1, q.2.2])))⟩
  · obtain ⟨f2, e1, e2⟩ := r3
    exact ⟨f2, by rw [List.getElem?_set_ne (ap0 ci k x n hc hk hx h0 h1)]; exact e1, by rw [hout]; exact e2⟩
end ZQ
end
section
section ZT
variable {lO lA : Nat → Int → Nat} {sc : Prop} {Ls : Nat} {xs : Nat → Int}
/-- what the heap's instructions owe -/
def zHm (lO lA : Nat → Int → Nat) (sc : Prop) (r2 : Option (List Prop × List zAv × zH2)) (r1 : Option (List Prop × List zAv × zH1)) : Prop := ∀ gs st' g', r2 = some (gs, st', g') → zAll gs → ∃ gs1 st1' h', r1 = some (gs1, st1', h') ∧ zAll gs1 ∧ zSR lO lA sc st' st1' ∧ zR2 lO lA g' h'
theorem p_hp {hop2 : zHop zH2} {hop1 : zHop zH1} {i : Instr} {len : Nat} {ax : zAx} {c2 : zCf zH2} {c1 : zCf zH1} (h : zCR lO lA sc c2 c1) (hm : zHm lO lA sc (hop2 i ax c2.2.2.1 c2.2.2.2) (hop1 i ax c1.2.2.1 c1.2.2.2)) : zSm lO lA sc (zHp hop2 i len ax c2) (zHp hop1 i len ax c1) := by
  obtain ⟨h1, h2, h3, h4⟩ := h
  intro gs c2' hE hg
  unfold zHp at hE
  split at hE
  · rename_i gs' st' g' e1
    cases hE
    obtain ⟨gs1, st1', h', k1, k2, k3, k4⟩ := hm _ _ _ e1 hg
    refine ⟨gs1, (c1.1 + len, c1.2.1, st1', h'), ?_, k2, ⟨by rw [h1], h2, k3, k4⟩⟩
    unfold zHp
    rw [k1]
  · cases hE
variable {st st1 : List zAv} {g : zH2} {h : zH1} {ax : zAx}
theorem p_lda {kd t : Nat} (hkd : (kd = 20 ∧ t = 0) ∨ (kd = 21 ∧ t = 1) ∨ (kd = 22 ∧ t = 0)) (hS : zSR lO lA sc st st1) (hR : zR2 lO lA g h) : zHm lO lA sc (zLd2 kd t st g) (zLdA kd t false st1 h) := by
  intro gs st' g' hE hg
  unfold zLd2 at hE
  split at hE
  · rename_i i a n r
    split at hE
    · rename_i e1
      cases hE
      rw [Bool.and_eq_true] at e1
      have ha := Nat.le_of_ble_eq_true e1.1
      have hk2 := Nat.eq_of_beq_eq_true e1.2
      obtain ⟨b1, s1, q0, q2, q3⟩ := zSR_cons hS
      obtain ⟨b2, s2, q4, q5, q6⟩ := zSR_cons q3
      have := zVR0 q2; subst this
      obtain ⟨ci, k, x, hc, hk, hx, ht, h0, h1, hb⟩ := zVR_row ha q5
      obtain ⟨t1, t2, t3, -⟩ := zTg2_r (r := ci * 64 + k) (x := x) (zNf_le2 hc hk).1
      rw [ht] at hk2 hg
      rw [t2] at hk2
      rw [t3] at hg
      obtain ⟨f, f1, f2⟩ := hR.2.1 ci k x n hc hk hx h0 h1
      subst q4
      subst hb
      have hi : 0 ≤ i ∧ i < ((x % 65536 : Nat) : Int) := hg.1
      have hv : f i.toNat = zGt g (ci * 64 + k) n i := by
        have := f2 i.toNat (by omega)
        unfold zRw2 at this
        have hne : x / 65536 ≠ 23 ∧ x / 65536 ≠ 24 := by omega
        have hi2 : ((i.toNat : Nat) : Int) = i := by omega
        split at this
        · omega
        · omega
        · rw [hi2] at this
          exact this
      have hvr : zVR lO lA sc (t, zGt g (zTr a) n i) (t, f i.toNat) := by
        rw [ht, t1, hv]
        rcases hkd with ⟨-, rfl⟩ | ⟨-, rfl⟩ | ⟨-, rfl⟩
        · exact zVR_i
        · exact zVR_l
        · exact zVR_i
      refine ⟨[0 ≤ i ∧ i < ((x % 65536 : Nat) : Int)], (t, f i.toNat) :: s2, h, ?_, hg, ⟨hvr, q6⟩, hR⟩
      unfold zLdA
      rw [q0]
      simp only [Int.toNat_natCast, f1, hk2, Nat.beq_refl]
    · cases hE
  · cases hE
theorem p_sta {kd t : Nat} {b : Bool} {gf : Int → List Prop} (hgf : ∀ v : Int, (b = true → v = 0 ∨ v = 1) → zAll (gf v)) (hkd : (kd = 20 ∧ t = 0) ∨ (kd = 21 ∧ t = 1) ∨ (kd = 22 ∧ t = 0)) (ap : zAp lO lA) (hS : zSR lO lA sc st st1) (hR : zR2 lO lA g h) : zHm lO lA sc (zSt2 kd t b st g) (zStA kd t gf st1 h) := by
  intro gs st' g' hE hg
  unfold zSt2 at hE
  split at hE
  · rename_i u v i a n r
    split at hE
    · rename_i e1
      simp only [Bool.and_eq_true] at e1
      have ha := Nat.le_of_ble_eq_true e1.1.1
      have hk2 := Nat.eq_of_beq_eq_true e1.1.2
      have hu := Nat.eq_of_beq_eq_true e1.2
      subst hu
      obtain ⟨b0, s0, p0, p2, p3⟩ := zSR_cons hS
      obtain ⟨b1, s1, q0, q2, q3⟩ := zSR_cons p3
      obtain ⟨b2, s2, q4, q5, q6⟩ := zSR_cons q3
      have := zVR0 q2; subst this
      have hb0 : b0 = (u, v) := by
        rcases hkd with ⟨-, rfl⟩ | ⟨-, rfl⟩ | ⟨-, rfl⟩
        · exact zVR0 p2
        · exact zVR1 p2
        · exact zVR0 p2
      subst hb0
      obtain ⟨ci, k, x, hc, hk, hx, ht, h0, h1, hb⟩ := zVR_row ha q5
      obtain ⟨t1, t2, t3, -⟩ := zTg2_r (r := ci * 64 + k) (x := x) (zNf_le2 hc hk).1
      rw [ht] at hk2
      rw [t2] at hk2
      obtain ⟨f, f1, f2⟩ := hR.2.1 ci k x n hc hk hx h0 h1
      subst q4
      subst q0
      subst hb
      have hgg : (0 ≤ i ∧ i < ((x % 65536 : Nat) : Int)) ∧ (b = true → v = 0 ∨ v = 1) ∧ r = st' ∧ zPt g (zTr a) n i v = g' := by
        rw [ht, t3] at hE
        cases b with
        | true => cases hE; exact ⟨hg.1, fun _ => hg.2.1, rfl, by rw [ht]⟩
        | false => cases hE; exact ⟨hg.1, fun q => absurd q (by decide), rfl, by rw [ht]⟩
      obtain ⟨hi, hb, rfl, rfl⟩ := hgg
      rw [ht, t1]
      refine ⟨(0 ≤ i ∧ i < ((x % 65536 : Nat) : Int)) :: gf v, s2, h.set (lA (ci * 64 + k) n) (x / 65536, x % 65536, zUp f i.toNat v), ?_, ⟨hi, hgf v hb⟩, q6, ?_⟩
      · unfold zStA
        rw [p0]
        simp only [Int.toNat_natCast, f1, hk2, Nat.beq_refl, Bool.and_self]
      · refine zR2_row ap hR hc hk hx (by omega) h0 h1 f1 zPt_out (fun cj k' n' i' hcj hk' hn0 hn1 hne => zGt_other hc hk hcj hk' h0 h1 hn0 hn1 (fun q => hne ⟨q.1, q.2.1, q.2.2.1⟩)) (fun j hj => ?_)
        unfold zUp
        by_cases hji : j = i.toNat
        · rw [if_pos hji]
          have : (j : Int) = i := by omega
          rw [this]
          exact zGt_eq.symm
        · rw [if_neg hji]
          rw [zGt_other hc hk hc hk h0 h1 h0 h1 (fun q => hji (by have := q.2.2.2; omega))]
          have := f2 j hj
          unfold zRw2 at this
          split at this
          · omega
          · omega
          · exact this
    · cases hE
  · cases hE
theorem p_getf {x : Nat} (hax : zAx2 (.getfield x) ax = true) (hS : zSR lO lA sc st st1) (hR : zR2 lO lA g h) : zHm lO lA sc (zHop2 Ls xs (.getfield x) ax st g) (zHop1 Ls xs (.getfield x) ax st1 h) := by
  intro gs st' g' hE hg
  simp only [zAx2, Bool.and_eq_true, decide_eq_true_eq] at hax
  obtain ⟨⟨a1, a2⟩, a3⟩ := hax
  have hk : ax.2.1 < zNf ax.1 := Nat.le_of_ble_eq_true a2
  have hc : ax.1 < 13 := Nat.le_of_ble_eq_true a3
  simp only [zHop2] at hE
  split at hE
  · rename_i t n r
    split at hE
    · rename_i e1
      have e1 := Nat.eq_of_beq_eq_true e1
      subst e1
      obtain ⟨b1, s1, q0, q2, q3⟩ := zSR_cons hS
      obtain ⟨h0, h1, hb⟩ := zVR_obj hc q2
      subst hb
      subst q0
      obtain ⟨f, f1, f2⟩ := hR.1 ax.1 n hc h0 h1
      have f3 := f2 ax.2.1 hk
      have hw : ax.2.2.toNat = zW ax.1 ax.2.1 := by rw [a1]; rfl
      rw [hw] at hE
      have fin : ∀ (gs1 : List Prop) (a2' : zAv), zAll gs1 → zVR lO lA sc a2' (zTag ax.1 ax.2.1, f ax.2.1) → (gs1 = match Nat.beq (zTag ax.1 ax.2.1) 2 with
          | true => [0 ≤ f ax.2.1]
          | false => []) → some (gs, st', g') = some (([] : List Prop), a2' :: r, g) → ∃ gs1 st1' h', zHop1 Ls xs (.getfield x) ax ((2, (lO ax.1 n : Int)) :: s1) h = some (gs1, st1', h') ∧ zAll gs1 ∧ zSR lO lA sc st' st1' ∧ zR2 lO lA g' h' := by
        intro gs1 a2' k1 k2 k3 k4
        cases k4
        refine ⟨gs1, (zTag ax.1 ax.2.1, f ax.2.1) :: s1, h, ?_, k1, ⟨k2, q3⟩, hR⟩
        simp only [zHop1, Int.toNat_natCast, f1, Nat.beq_refl]
        cases hb : Nat.beq (zTag ax.1 ax.2.1) 2 with
        | true =>
          rw [hb] at k3
          rw [k3, Nat.eq_of_beq_eq_true hb]
        | false =>
          rw [hb] at k3
          rw [k3]
      rcases zW_sp hc hk with ⟨w1, w2, w3⟩ | ⟨w1, w2, w3⟩ | ⟨w1, w2, w3, w4, -⟩ | ⟨w1, w2, w3, w4⟩
      · unfold zFl2 at f3
        rw [w1] at hE f3
        simp only at hE f3
        exact fin [] (0, zGt g (ax.1 * 64 + ax.2.1) n 0) trivial (by rw [w2, f3]; exact zVR_i) (by rw [w2]) hE.symm
      · unfold zFl2 at f3
        rw [w1] at hE f3
        simp only at hE f3
        exact fin [] (1, zGt g (ax.1 * 64 + ax.2.1) n 0) trivial (by rw [w2, f3]; exact zVR_l) (by rw [w2]) hE.symm
      · unfold zFl2 at f3
        rw [w1] at hE f3
        simp only at hE f3
        have hx : zW ax.1 ax.2.1 = 2 + 4 * (zW ax.1 ax.2.1 / 4) := by omega
        exact fin [0 ≤ f ax.2.1] (zTg2 (ax.1 * 64 + ax.2.1) (zW ax.1 ax.2.1 / 4), n) ⟨by rw [f3]; omega, trivial⟩ (by rw [w2, f3]; exact zVR_a hc hk hx h0 h1) (by rw [w2]) hE.symm
      · unfold zFl2 at f3
        rw [w1] at hE f3
        simp only at hE f3
        rcases w4 with ⟨w5, w6⟩ | ⟨w5, w6⟩
        · rw [w5] at hE f3
          simp only at hE f3
          exact fin [0 ≤ f ax.2.1] (10 + zW ax.1 ax.2.1 / 4 % 16, ((zW ax.1 ax.2.1 / 128 : Nat) : Int)) ⟨by rw [f3]; omega, trivial⟩ (by rw [w2, f3]; exact zVR_o w3 (by omega) (by omega)) (by rw [w2]) hE.symm
        · rw [w5] at hE f3
          simp only at hE f3
          exact fin [0 ≤ f ax.2.1] (10 + zW ax.1 ax.2.1 / 4 % 16, n + ((zW ax.1 ax.2.1 / 128 : Nat) : Int)) ⟨by rw [f3]; omega, trivial⟩ (by rw [w2, f3]; exact zVR_o w3 (by omega) (by omega)) (by rw [w2]) hE.symm
    · cases hE
  · cases hE
theorem p_putf {x : Nat} (hax : zAx2 (.putfield x) ax = true) (ap : zAp lO lA) (hS : zSR lO lA sc st st1) (hR : zR2 lO lA g h) : zHm lO lA sc (zHop2 Ls xs (.putfield x) ax st g) (zHop1 Ls xs (.putfield x) ax st1 h) := by
  intro gs st' g' hE hg
  simp only [zAx2, Bool.and_eq_true, decide_eq_true_eq] at hax
  obtain ⟨⟨a1, a2⟩, a3⟩ := hax
  have hk : ax.2.1 < zNf ax.1 := Nat.le_of_ble_eq_true a2
  have hc : ax.1 < 13 := Nat.le_of_ble_eq_true a3
  simp only [zHop2] at hE
  split at hE
  · rename_i u v t n r
    split at hE
    · rename_i e1
      simp only [Bool.and_eq_true] at e1
      have e2 := Nat.eq_of_beq_eq_true e1.1
      have e3 := Nat.le_of_ble_eq_true e1.2.1
      have e4 := Nat.eq_of_beq_eq_true e1.2.2
      clear e1
      subst e2
      have hw : ax.2.2.toNat = zW ax.1 ax.2.1 := by rw [a1]; rfl
      rw [hw] at e3 e4
      subst e4
      cases hE
      obtain ⟨b0, s0, p0, p2, p3⟩ := zSR_cons hS
      obtain ⟨b1, s1, q0, q2, q3⟩ := zSR_cons p3
      obtain ⟨h0, h1, hb⟩ := zVR_obj hc q2
      subst hb
      subst q0
      obtain ⟨f, f1, f2⟩ := hR.1 ax.1 n hc h0 h1
      have htg : zTag ax.1 ax.2.1 = zW ax.1 ax.2.1 ∧ b0 = (zW ax.1 ax.2.1, v) := by
        rcases zW_sp hc hk with ⟨w1, w2, w3⟩ | ⟨w1, w2, w3⟩ | ⟨w1, w2, w3, w4, -⟩ | ⟨w1, w2, w3, w4⟩
        · rw [w3] at p2 ⊢; exact ⟨w2, zVR0 p2⟩
        · rw [w3] at p2 ⊢; exact ⟨w2, zVR1 p2⟩
        · omega
        · omega
      obtain ⟨t1, rfl⟩ := htg
      refine ⟨_, s1, h.set (lO ax.1 n) (ax.1, zNf ax.1, zUp f ax.2.1 v), ?_, hg, q3, zR2_putf ap hR hc hk e3 h0 h1 f1⟩
      rw [p0]
      simp only [zHop1, Int.toNat_natCast, f1, Nat.beq_refl, t1, Bool.and_self]
      rfl
    · cases hE
  · cases hE
theorem p_aald (hS : zSR lO lA sc st st1) (hR : zR2 lO lA g h) : zHm lO lA sc (zHop2 Ls xs .aaload ax st g) (zHop1 Ls xs .aaload ax st1 h) := by
  intro gs st' g' hE hg
  simp only [zHop2] at hE
  split at hE
  · rename_i i a n r
    split at hE
    · rename_i e1
      rw [Bool.and_eq_true] at e1
      have ha := Nat.le_of_ble_eq_true e1.1
      have hk2 := Nat.eq_of_beq_eq_true e1.2
      obtain ⟨b1, s1, q0, q2, q3⟩ := zSR_cons hS
      obtain ⟨b2, s2, q4, q5, q6⟩ := zSR_cons q3
      have := zVR0 q2; subst this
      obtain ⟨ci, k, x, hc, hk, hx, ht, h0, h1, hb⟩ := zVR_row ha q5
      obtain ⟨t1, t2, t3, -⟩ := zTg2_r (r := ci * 64 + k) (x := x) (zNf_le2 hc hk).1
      rw [ht] at hk2 hE
      rw [t2] at hk2
      rw [t3] at hE
      obtain ⟨f, f1, f2⟩ := hR.2.1 ci k x n hc hk hx h0 h1
      subst q4
      subst q0
      subst hb
      have fin : ∀ (kd cj : Nat) (base : Int), ax.1 = kd → (kd = 23 ∨ kd = 24) → cj < 13 → some (gs, st', g') = some ([0 ≤ i ∧ i < ((x % 65536 : Nat) : Int)], (10 + cj, base + i) :: r, g) → (∀ j : Nat, j < x % 65536 → f j = (lO cj (base + (j : Int)) : Int)) → 0 ≤ base → base + ((x % 65536 : Nat) : Int) ≤ (zCnt cj : Int) → ∃ gs1 st1' h', zHop1 Ls xs .aaload ax ((0, i) :: (2, (lA (ci * 64 + k) n : Int)) :: s2) h = some (gs1, st1', h') ∧ zAll gs1 ∧ zSR lO lA sc st' st1' ∧ zR2 lO lA g' h' := by
        intro kd cj base hax hkd hcj hE hf hb0 hb1
        cases hE
        have hi : 0 ≤ i ∧ i < ((x % 65536 : Nat) : Int) := hg.1
        have hv : f i.toNat = (lO cj (base + i) : Int) := by
          rw [hf i.toNat (by omega)]
          have : ((i.toNat : Nat) : Int) = i := by omega
          rw [this]
        refine ⟨[0 ≤ i ∧ i < ((x % 65536 : Nat) : Int), 0 ≤ f i.toNat], (2, f i.toNat) :: s2, h, ?_, ⟨hi, by rw [hv]; omega, trivial⟩, ⟨?_, q6⟩, hR⟩
        · simp only [zHop1]
          have hor : (Nat.beq ax.1 23 || Nat.beq ax.1 24) = true := by
            rcases hkd with rfl | rfl <;> rw [hax] <;> rfl
          rw [hor]
          simp only [zLdA, Int.toNat_natCast, f1, hk2, Nat.beq_refl]
        · rw [hv]
          exact zVR_o hcj (by omega) (by omega)
      split at hE
      · rename_i e3
        have hck : ci = 8 ∧ k = 2 := by
          rcases zW_sp hc hk with w | w | w | w
          · omega
          · omega
          · exact w.2.2.2.2.1.mp (by omega)
          · omega
        obtain ⟨rfl, rfl⟩ := hck
        have hx2 : x = 1507336 := by
          have : zW 8 2 = 6029346 := rfl
          omega
        subst hx2
        refine fin 23 1 2 e3 (Or.inl rfl) (by omega) hE.symm (fun j hj => ?_) (by omega) (by decide)
        have := f2 j hj
        unfold zRw2 at this
        simpa using this
      · rename_i e3
        have hck : ci = 11 ∧ k = 9 := by
          rcases zW_sp hc hk with w | w | w | w
          · omega
          · omega
          · exact w.2.2.2.2.2.mp (by omega)
          · omega
        obtain ⟨rfl, rfl⟩ := hck
        have hx2 : x = 1572866 := by
          have : zW 11 9 = 6291466 := rfl
          omega
        subst hx2
        refine fin 24 3 0 e3 (Or.inr rfl) (by omega) (by rw [Int.zero_add]; exact hE.symm) (fun j hj => ?_) (by omega) (by decide)
        have := f2 j hj
        unfold zRw2 at this
        rw [Int.zero_add]
        simpa using this
      · cases hE
    · cases hE
  · cases hE
end ZT
end
section
section ZU
variable {lO lA : Nat → Int → Nat} {sc : Prop} {Ls : Nat} {xs : Nat → Int}
variable {st st1 : List zAv} {g : zH2} {h : zH1} {ax : zAx}
theorem zSR_len {r s : List zAv} (h : zSR lO lA sc r s) : s.length = r.length := by
  induction r generalizing s with
  | nil => rw [zSR_nil h]
  | cons a r ih =>
    obtain ⟨b, t, rfl, -, h2⟩ := zSR_cons h
    rw [List.length_cons, List.length_cons, ih h2]
theorem zRm_len {r s : List zAv} (h : zSR lO lA sc r s) (hr : zRm r = true) : zRm s = true := by
  unfold zRm at *
  rw [zSR_len h]
  exact hr
theorem p_alen (hS : zSR lO lA sc st st1) (hR : zR2 lO lA g h) : zHm lO lA sc (zHop2 Ls xs .arraylength ax st g) (zHop1 Ls xs .arraylength ax st1 h) := by
  intro gs st' g' hE hg
  simp only [zHop2] at hE
  split at hE
  · rename_i e0
    split at hE
    · rename_i z r
      cases hE
      obtain ⟨b1, s1, q0, q2, q3⟩ := zSR_cons hS
      have hb : b1 = (5, z) := by
        rcases q2 with ⟨w, -⟩ | ⟨w, -⟩ | ⟨-, w, -⟩ | ⟨w, -⟩ | ⟨ci, -, w, -⟩ | ⟨ci, k, y, -, -, -, w, -⟩
        · cases w
        · cases w
        · exact w
        · cases w
        · simp only at w; omega
        · unfold zTg2 at w; simp only at w; omega
      subst hb
      subst q0
      refine ⟨[], (0, (Ls : Int)) :: s1, h, ?_, trivial, ⟨zVR_i, q3⟩, hR⟩
      simp only [zHop1, e0]
    · cases hE
  · rename_i e0
    split at hE
    · rename_i a n r
      split at hE
      · rename_i e1
        cases hE
        have ha := Nat.le_of_ble_eq_true e1
        obtain ⟨b1, s1, q0, q2, q3⟩ := zSR_cons hS
        obtain ⟨ci, k, x, hc, hk, hx, ht, h0, h1, hb⟩ := zVR_row ha q2
        obtain ⟨t1, t2, t3, -⟩ := zTg2_r (r := ci * 64 + k) (x := x) (zNf_le2 hc hk).1
        obtain ⟨f, f1, f2⟩ := hR.2.1 ci k x n hc hk hx h0 h1
        subst hb
        subst q0
        refine ⟨[], (0, ((x % 65536 : Nat) : Int)) :: s1, h, ?_, trivial, ⟨by rw [ht, t3]; exact zVR_i, q3⟩, hR⟩
        have h20 : Nat.ble 20 (x / 65536) = true := Nat.ble_eq_true_of_le (by rcases zW_sp hc hk with w | w | w | w <;> omega)
        simp only [zHop1, e0, Int.toNat_natCast, f1, h20]
      · cases hE
    · cases hE
theorem p_sld (hS : zSR lO lA sc st st1) (hR : zR2 lO lA g h) : zHm lO lA sc (zHop2 Ls xs .iaload ax st g) (zHop1 Ls xs .iaload ax st1 h) := by
  intro gs st' g' hE hg
  simp only [zHop2] at hE
  split at hE
  · rename_i e0
    split at hE
    · rename_i j z r
      cases hE
      obtain ⟨b0, s0, p0, p2, p3⟩ := zSR_cons hS
      obtain ⟨b1, s1, q0, q2, q3⟩ := zSR_cons p3
      have := zVR0 p2; subst this
      have hb : b1 = (5, z) := by
        rcases q2 with ⟨w, -⟩ | ⟨w, -⟩ | ⟨-, w, -⟩ | ⟨w, -⟩ | ⟨ci, -, w, -⟩ | ⟨ci, k, y, -, -, -, w, -⟩
        · cases w
        · cases w
        · exact w
        · cases w
        · simp only at w; omega
        · unfold zTg2 at w; simp only at w; omega
      subst hb
      subst q0
      subst p0
      refine ⟨[0 ≤ j ∧ j < (Ls : Int)], (0, xs j.toNat) :: s1, h, ?_, hg, ⟨zVR_i, q3⟩, hR⟩
      simp only [zHop1, e0]
    · cases hE
  · rename_i e0
    obtain ⟨gs1, st1', h', k1, k2⟩ := p_lda (Or.inl ⟨rfl, rfl⟩) hS hR gs st' g' hE hg
    refine ⟨gs1, st1', h', ?_, k2⟩
    simp only [zHop1, e0]
    exact k1
theorem p_lald (hS : zSR lO lA sc st st1) (hR : zR2 lO lA g h) : zHm lO lA sc (zHop2 Ls xs .laload ax st g) (zHop1 Ls xs .laload ax st1 h) := by
  intro gs st' g' hE hg
  simp only [zHop2] at hE
  split at hE
  · rename_i i z r
    cases hE
    obtain ⟨b0, s0, p0, p2, p3⟩ := zSR_cons hS
    obtain ⟨b1, s1, q0, q2, q3⟩ := zSR_cons p3
    have := zVR0 p2; subst this
    have hb : b1 = (2, (lO 20 0 : Int)) := by
      rcases q2 with ⟨w, -⟩ | ⟨w, -⟩ | ⟨w, -⟩ | ⟨-, w⟩ | ⟨ci, -, w, -⟩ | ⟨ci, k, y, -, -, -, w, -⟩
      · cases w
      · cases w
      · cases w
      · exact w
      · simp only at w; omega
      · unfold zTg2 at w; simp only at w; omega
    subst hb
    subst q0
    obtain ⟨f, f1, f2⟩ := hR.2.2
    have hi : i = 0 := hg.1
    subst hi
    refine ⟨[0 ≤ (0 : Int) ∧ (0 : Int) < ((1 : Nat) : Int)], (1, f 0) :: s1, h, ?_, ⟨⟨by omega, by omega⟩, trivial⟩, ⟨by rw [f2]; exact zVR_l, q3⟩, hR⟩
    rw [p0]
    simp only [zHop1, zLdA, Int.toNat_natCast, f1, Nat.beq_refl]
    rfl
  · obtain ⟨gs1, st1', h', k1, k2⟩ := p_lda (Or.inr (Or.inl ⟨rfl, rfl⟩)) hS hR gs st' g' hE hg
    exact ⟨gs1, st1', h', k1, k2⟩
theorem zCpy_at {f0 f1 : Nat → Int} {sp dp n : Int} (h1 : 0 ≤ sp) (h2 : 0 ≤ dp) (h3 : 0 ≤ n) (i : Nat) : zCpy f0 f1 sp.toNat dp.toNat n.toNat i = if dp ≤ (i : Int) ∧ (i : Int) < dp + n then f0 (sp + ((i : Int) - dp)).toNat else f1 i := by
  unfold zCpy
  by_cases h : dp ≤ (i : Int) ∧ (i : Int) < dp + n
  · rw [if_pos h, if_pos ⟨by omega, by omega⟩]
    congr 1
    omega
  · rw [if_neg h, if_neg (fun q => h ⟨by omega, by omega⟩)]
theorem p_stat {x : Nat} (ap : zAp lO lA) (hS : zSR lO lA sc st st1) (hR : zR2 lO lA g h) : zHm lO lA sc (zHop2 Ls xs (.invokestatic x) ax st g) (zHop1 Ls xs (.invokestatic x) ax st1 h) := by
  intro gs st' g' hE hg
  simp only [zHop2] at hE
  split at hE
  · rename_i e0
    split at hE
    · rename_i n dp a d sp a1 s r
      split at hE
      · rename_i e1
        simp only [Bool.and_eq_true, Bool.or_eq_true] at e1
        obtain ⟨⟨⟨⟨u1, u2⟩, u3, u4⟩, u5, u6⟩, u7⟩ := e1
        have ha := Nat.le_of_ble_eq_true u1
        have ha1 := Nat.le_of_ble_eq_true u2
        have hkk := Nat.eq_of_beq_eq_true u3
        have hr6 := Nat.le_of_ble_eq_true u5
        have hr7 := Nat.le_of_ble_eq_true u6
        cases hE
        obtain ⟨b0, s0, p0, p1, p2⟩ := zSR_cons hS
        obtain ⟨b1, s1, p3, p4, p5⟩ := zSR_cons p2
        obtain ⟨b2, s2, p6, p7, p8⟩ := zSR_cons p5
        obtain ⟨b3, s3, p9, p10, p11⟩ := zSR_cons p8
        obtain ⟨b4, s4, p12, p13, p14⟩ := zSR_cons p11
        have := zVR0 p1; subst this
        have := zVR0 p4; subst this
        have := zVR0 p10; subst this
        obtain ⟨ci, k, y, hc, hk, hx, ht, h0, h1, hb⟩ := zVR_row ha p7
        obtain ⟨cj, k', y', hc', hk', hx', ht', h0', h1', hb'⟩ := zVR_row ha1 p13
        subst hb
        subst hb'
        subst p12
        subst p9
        subst p6
        subst p3
        obtain ⟨t1, t2, t3, -⟩ := zTg2_r (r := ci * 64 + k) (x := y) (zNf_le2 hc hk).1
        obtain ⟨t1', t2', t3', -⟩ := zTg2_r (r := cj * 64 + k') (x := y') (zNf_le2 hc' hk').1
        obtain ⟨f, f1, f2⟩ := hR.2.1 ci k y d hc hk hx h0 h1
        obtain ⟨f', f1', f2'⟩ := hR.2.1 cj k' y' s hc' hk' hx' h0' h1'
        rw [ht, ht'] at hkk
        rw [t2, t2'] at hkk
        rw [ht, t2] at u4
        rw [ht, t1] at hr6
        rw [ht', t1'] at hr7
        rw [ht, ht'] at hg
        rw [t3, t3'] at hg
        obtain ⟨g1, g2, g3, g4, g5, -⟩ := hg
        have hkd : y / 65536 = 20 ∨ y / 65536 = 21 := u4.imp (fun z => Nat.eq_of_beq_eq_true z) (fun z => Nat.eq_of_beq_eq_true z)
        rw [ht, ht', t1, t1']
        refine ⟨[0 ≤ sp, 0 ≤ dp, 0 ≤ n, sp + n ≤ ((y' % 65536 : Nat) : Int), dp + n ≤ ((y % 65536 : Nat) : Int)], s4, h.set (lA (ci * 64 + k) d) (y / 65536, y % 65536, zCpy f' f sp.toNat dp.toNat n.toNat), ?_, ⟨g1, g2, g3, g4, g5, trivial⟩, p14, ?_⟩
        · rw [p0]
          simp only [zHop1, e0, Int.toNat_natCast, f1, f1', ← hkk, Nat.beq_refl, zRm_len p14 u7, Bool.true_and, Bool.and_true]
          rcases hkd with q | q <;> rw [q] <;> rfl
        · refine zR2_row ap hR hc hk hx (by omega) h0 h1 f1 rfl (fun cm km n' i' hcm hkm hn0 hn1 hne => ?_) (fun j hj => ?_)
          · unfold zGt
            by_cases hr : Nat.ble 768 (cm * 64 + km) = true
            · rw [hr]
            · have hr : Nat.ble 768 (cm * 64 + km) = false := by
                cases q : Nat.ble 768 (cm * 64 + km) with
                | false => rfl
                | true => exact absurd q hr
              rw [hr]
              simp only [hcpy]
              rw [if_neg]
              rintro ⟨q1, q2, -⟩
              obtain ⟨q3, q4⟩ := reg_inj hcm hkm hc hk q1
              exact hne ⟨q3, q4, q2⟩
          · rw [zCpy_at g1 g2 g3]
            have e768 : Nat.ble 768 (ci * 64 + k) = false := by
              cases q : Nat.ble 768 (ci * 64 + k) with
              | false => rfl
              | true => have := Nat.le_of_ble_eq_true q; omega
            have e768' : Nat.ble 768 (cj * 64 + k') = false := by
              cases q : Nat.ble 768 (cj * 64 + k') with
              | false => rfl
              | true => have := Nat.le_of_ble_eq_true q; omega
            by_cases hin : dp ≤ (j : Int) ∧ (j : Int) < dp + n
            · rw [if_pos hin]
              have h5 := f2' (sp + ((j : Int) - dp)).toNat (by omega)
              unfold zRw2 at h5
              have h6 : f' (sp + ((j : Int) - dp)).toNat = zGt g (cj * 64 + k') s (((sp + ((j : Int) - dp)).toNat : Nat) : Int) := by
                split at h5
                · omega
                · omega
                · exact h5
              rw [h6]
              have h7 : (((sp + ((j : Int) - dp)).toNat : Nat) : Int) = sp + ((j : Int) - dp) := by omega
              rw [h7]
              unfold zGt
              rw [e768, e768']
              simp only [hcpy]
              rw [if_pos (by refine ⟨?_, ?_, hin.1, hin.2⟩ <;> trivial)]
            · rw [if_neg hin]
              have h5 := f2 j hj
              unfold zRw2 at h5
              have h6 : f j = zGt g (ci * 64 + k) d (j : Int) := by
                split at h5
                · omega
                · omega
                · exact h5
              rw [h6]
              unfold zGt
              rw [e768]
              simp only [hcpy]
              rw [if_neg]
              rintro ⟨-, -, q1, q2⟩
              exact hin ⟨q1, q2⟩
      · cases hE
    · cases hE
  · rename_i e0
    split at hE
    · rename_i v r
      split at hE
      · rename_i e1
        cases hE
        obtain ⟨b0, s0, p0, p1, p2⟩ := zSR_cons hS
        have := zVR0 p1; subst this
        refine ⟨[], (0, if v < 0 then wneg v else v) :: s0, h, ?_, trivial, ⟨zVR_i, p2⟩, hR⟩
        rw [p0]
        simp only [zHop1, e0, zRm_len p2 e1]
      · cases hE
    · cases hE
  · rename_i e0
    split at hE
    · rename_i w v r
      split at hE
      · rename_i e1
        cases hE
        obtain ⟨b0, s0, p0, p1, p2⟩ := zSR_cons hS
        obtain ⟨b1, s1, p3, p4, p5⟩ := zSR_cons p2
        have := zVR0 p1; subst this
        have := zVR0 p4; subst this
        subst p3
        refine ⟨[], (0, if w < v then w else v) :: s1, h, ?_, trivial, ⟨zVR_i, p5⟩, hR⟩
        rw [p0]
        simp only [zHop1, e0, zRm_len p5 e1]
      · cases hE
    · cases hE
  · rename_i e0
    split at hE
    · rename_i w v r
      split at hE
      · rename_i e1
        cases hE
        obtain ⟨b0, s0, p0, p1, p2⟩ := zSR_cons hS
        obtain ⟨b1, s1, p3, p4, p5⟩ := zSR_cons p2
        have := zVR0 p1; subst this
        have := zVR0 p4; subst this
        subst p3
        refine ⟨[], (0, if v < w then w else v) :: s1, h, ?_, trivial, ⟨zVR_i, p5⟩, hR⟩
        rw [p0]
        simp only [zHop1, e0, zRm_len p5 e1]
      · cases hE
    · cases hE
  · cases hE
set_option maxHeartbeats 1000000 in
theorem z_par {i : Instr} {len : Nat} {d : Int} {c2 : zCf zH2} {c1 : zCf zH1} (ap : zAp lO lA) (hax : zAx2 i ax = true) (h : zCR lO lA sc c2 c1) : zSm lO lA sc (zX (zHop2 Ls xs) i len ax d c2) (zX (zHop1 Ls xs) i len ax d c1) := by
  have hS := h.2.2.1
  have hR := h.2.2.2
  cases i
  case aload n => exact p_ld (Or.inr (Or.inr rfl)) h
  case aload_n n => exact p_ld (Or.inr (Or.inr rfl)) h
  case iload n => exact p_ld (Or.inl rfl) h
  case iload_n n => exact p_ld (Or.inl rfl) h
  case lload n => exact p_ld (Or.inr (Or.inl rfl)) h
  case lload_n n => exact p_ld (Or.inr (Or.inl rfl)) h
  case astore n => exact p_sto (Or.inr (Or.inr rfl)) h
  case astore_n n => exact p_sto (Or.inr (Or.inr rfl)) h
  case istore n => exact p_sto (Or.inl rfl) h
  case istore_n n => exact p_sto (Or.inl rfl) h
  case lstore n => exact p_stoL h
  case lstore_n n => exact p_stoL h
  case iconst n => exact p_ck (p_pu zVR_i h)
  case lconst n => exact p_pu zVR_l h
  case bipush n => exact p_ck (p_pu zVR_i h)
  case sipush n => exact p_ck (p_pu zVR_i h)
  case ldc n => exact p_pu zVR_i h
  case ldc_w n => exact p_pu zVR_i h
  case ldc2_w n => exact p_pu zVR_l h
  case iadd => exact p_b0 h
  case isub => exact p_b0 h
  case imul => exact p_b0 h
  case idiv => exact p_b0d h
  case irem => exact p_b0d h
  case iand => exact p_b0 h
  case ior => exact p_b0 h
  case ixor => exact p_b0 h
  case ishl => exact p_b0 h
  case ishr => exact p_b0 h
  case iushr => exact p_b0 h
  case ineg => exact p_u (Or.inl rfl) (Or.inl rfl) h
  case ladd => exact p_b1 h
  case lsub => exact p_b1 h
  case lmul => exact p_b1 h
  case ldiv => exact p_b1d h
  case lrem => exact p_b1d h
  case lor => exact p_b1 h
  case lshl => exact p_b10 h
  case lshr => exact p_b10 h
  case lcmp => exact p_cp h
  case i2l => exact p_u (Or.inl rfl) (Or.inr rfl) h
  case l2i => exact p_u (Or.inr rfl) (Or.inl rfl) h
  case dup => exact p_dup h
  case pop => exact p_pop h
  case dup2 => exact p_dup2 h
  case iinc n k => exact p_ii h
  case ifCond k off => exact p_if h
  case if_icmp k off => exact p_ic h
  case goto off => exact p_go h
  case tableswitch dflt lo hi offs => exact p_ts h
  case lookupswitch dflt ps => exact p_ls h
  case getfield x => exact p_hp h (p_getf hax hS hR)
  case putfield x => exact p_hp h (p_putf hax ap hS hR)
  case iaload => exact p_hp h (p_sld hS hR)
  case laload => exact p_hp h (p_lald hS hR)
  case baload => exact p_hp h (p_lda (Or.inr (Or.inr ⟨rfl, rfl⟩)) hS hR)
  case aaload => exact p_hp h (p_aald hS hR)
  case iastore => exact p_hp h (p_sta (b := false) (gf := fun _ => []) (fun _ _ => trivial) (Or.inl ⟨rfl, rfl⟩) ap hS hR)
  case lastore => exact p_hp h (p_sta (b := false) (gf := fun _ => []) (fun _ _ => trivial) (Or.inr (Or.inl ⟨rfl, rfl⟩)) ap hS hR)
  case bastore => exact p_hp h (p_sta (gf := fun v => [v = 0 ∨ v = 1]) (fun v q => ⟨q rfl, trivial⟩) (Or.inr (Or.inr ⟨rfl, rfl⟩)) ap hS hR)
  case arraylength => exact p_hp h (p_alen hS hR)
  case invokestatic x => exact p_hp h (p_stat ap hS hR)
  all_goals (intro gs c2' hE hg)
  all_goals (have q : (none : zRs zH2) = some (gs, c2') := hE; cases q)
end ZU
end
section
/-! Runs over the second heap, and how they are shown. -/
section ZV
variable {lO lA : Nat → Int → Nat} {sc : Prop} {Ls : Nat} {xs : Nat → Int}
def zRc2 : zRc zH2 := fun _ a ci => ci < 13 ∧ a.1 = 10 + ci
/-- steps whose codes are the table's -/
def zSX2 (Ls : Nat) (xs : Nat → Int) (mi : Nat) (c c' : zCf zH2) : Prop := ∃ (i : Instr) (len : Nat) (ax : zAx) (d : Int) (gs : List Prop), decode (zmCode mi) c.1 = .ok (i, len) ∧ zLnOk i len = true ∧ zAxOk (zmC mi) (zIsI mi) i ax = true ∧ zAx2 i ax = true ∧ zX (zHop2 Ls xs) i len ax d c = some (gs, c') ∧ zAll gs
def zS2 (Ls : Nat) (xs : Nat → Int) (run : zRn zH2) (mi : Nat) (c c' : zCf zH2) : Prop := zSX2 Ls xs mi c c' ∨ zStepC zRc2 run mi c c' ∨ zStepF c c'
def zRe2 (Ls : Nat) (xs : Nat → Int) (run : zRn zH2) (mi : Nat) : Nat → zCf zH2 → zCf zH2 → Prop
  | 0, c, c' => c = c'
  | n + 1, c, c' => ∃ c1, zS2 Ls xs run mi c c1 ∧ zRe2 Ls xs run mi n c1 c'
/-- from this place the method returns r, with that heap -/
def zFin (Ls : Nat) (xs : Nat → Int) (run : zRn zH2) (mi : Nat) (r : Option zAv) (g : zH2) (c : zCf zH2) : Prop := ∃ (n pc : Nat) (L : zLo) (st : List zAv), zRe2 Ls xs run mi n c (pc, L, st, g) ∧ zRet mi (pc, L, st, g) r
def zRu2 (spec : zRn zH2) : Nat → zRn zH2
  | 0 => fun _ _ _ _ _ => False
  | d + 1 => fun mi args g r g' => (7 ≤ d ∧ spec mi args g r g') ∨ (mi < 295 ∧ ¬ zmC mi = 14 ∧ (zFl args).length ≤ zmMax mi ∧ zFin 0 (fun _ => 0) (zRu2 spec d) mi r g' (0, zEntry args (zmMax mi), [], g))
def zOR (lO lA : Nat → Int → Nat) : Option zAv → Option zAv → Prop
  | none, none => True
  | some a, some b => zVR lO lA False a b
  | _, _ => False
def zRR (lO lA : Nat → Int → Nat) (run2 : zRn zH2) (run1 : zRn zH1) : Prop := ∀ k args2 args1 g r2 g' h, run2 k args2 g r2 g' → zSR lO lA False args2 args1 → zR2 lO lA g h → ∃ r1 h', run1 k args1 h r1 h' ∧ zOR lO lA r2 r1 ∧ zR2 lO lA g' h'
theorem zVR_sc {a b : zAv} (h : zVR lO lA False a b) : zVR lO lA sc a b := by
  rcases h with h | h | ⟨-, -, h⟩ | h | h | h
  · exact Or.inl h
  · exact Or.inr (Or.inl h)
  · exact h.elim
  · exact Or.inr (Or.inr (Or.inr (Or.inl h)))
  · exact Or.inr (Or.inr (Or.inr (Or.inr (Or.inl h))))
  · exact Or.inr (Or.inr (Or.inr (Or.inr (Or.inr h))))
theorem zSR_app {a a' b b' : List zAv} (h1 : zSR lO lA sc a a') (h2 : zSR lO lA sc b b') : zSR lO lA sc (a ++ b) (a' ++ b') := by
  induction a generalizing a' with
  | nil => rw [zSR_nil h1]; exact h2
  | cons x r ih =>
    obtain ⟨y, s, rfl, h3, h4⟩ := zSR_cons h1
    exact ⟨h3, ih h4⟩
theorem zSR_split {a b s1 : List zAv} (h : zSR lO lA sc (a ++ b) s1) : ∃ a' b', s1 = a' ++ b' ∧ zSR lO lA sc a a' ∧ zSR lO lA sc b b' := by
  induction a generalizing s1 with
  | nil => exact ⟨[], s1, rfl, trivial, h⟩
  | cons x r ih =>
    obtain ⟨y, s, rfl, h3, h4⟩ := zSR_cons h
    obtain ⟨a', b', rfl, h5, h6⟩ := ih h4
    exact ⟨y :: a', b', rfl, ⟨h3, h5⟩, h6⟩
theorem zSR_rev {a a' : List zAv} (h : zSR lO lA sc a a') : zSR lO lA sc a.reverse a'.reverse := by
  induction a generalizing a' with
  | nil => rw [zSR_nil h]; exact trivial
  | cons x r ih =>
    obtain ⟨y, s, rfl, h3, h4⟩ := zSR_cons h
    rw [List.reverse_cons, List.reverse_cons]
    exact zSR_app (ih h4) ⟨h3, trivial⟩
theorem zSR_no5 {a a' : List zAv} (h : zSR lO lA sc a a') (h5 : a.all (fun a => !Nat.beq a.1 5) = true) : zSR lO lA False a a' ∧ a'.all (fun a => !Nat.beq a.1 5) = true := by
  induction a generalizing a' with
  | nil => rw [zSR_nil h]; exact ⟨trivial, rfl⟩
  | cons x r ih =>
    obtain ⟨y, s, rfl, h3, h4⟩ := zSR_cons h
    rw [List.all_cons, Bool.and_eq_true] at h5
    obtain ⟨i1, i2⟩ := ih h4 h5.2
    have hx : ¬ x.1 = 5 := by
      intro q
      have := h5.1
      rw [q] at this
      cases this
    have key : zVR lO lA False x y ∧ (!Nat.beq y.1 5) = true := by
      rcases h3 with ⟨w, e⟩ | ⟨w, e⟩ | ⟨w, -⟩ | ⟨w, e⟩ | ⟨ci, w1, w2, w3, w4, e⟩ | ⟨ci, k, z, w1, w2, w3, w4, w5, w6, e⟩
      · exact ⟨Or.inl ⟨w, e⟩, by rw [e, w]; rfl⟩
      · exact ⟨Or.inr (Or.inl ⟨w, e⟩), by rw [e, w]; rfl⟩
      · exact absurd w hx
      · exact ⟨Or.inr (Or.inr (Or.inr (Or.inl ⟨w, e⟩))), by rw [e]; rfl⟩
      · exact ⟨Or.inr (Or.inr (Or.inr (Or.inr (Or.inl ⟨ci, w1, w2, w3, w4, e⟩)))), by rw [e]; rfl⟩
      · exact ⟨Or.inr (Or.inr (Or.inr (Or.inr (Or.inr ⟨ci, k, z, w1, w2, w3, w4, w5, w6, e⟩)))), by rw [e]; rfl⟩
    exact ⟨⟨key.1, i1⟩, by rw [List.all_cons, Bool.and_eq_true]; exact ⟨key.2, i2⟩⟩
theorem zSR_get {a a' : List zAv} {x : zAv} (h : zSR lO lA sc a a') (h0 : a[0]? = some x) : ∃ y, a'[0]? = some y ∧ zVR lO lA sc x y := by
  cases a with
  | nil => cases h0
  | cons z r =>
    cases h0
    obtain ⟨y, s, rfl, h3, h4⟩ := zSR_cons h
    exact ⟨y, rfl, h3⟩
theorem z_par1 {run2 : zRn zH2} {run1 : zRn zH1} {mi : Nat} {c2 c2' : zCf zH2} {c1 : zCf zH1} (ap : zAp lO lA) (hrr : zRR lO lA run2 run1) (h : zCR lO lA sc c2 c1) (hs : zS2 Ls xs run2 mi c2 c2') : ∃ c1', (zStep (zHop1 Ls xs) zRc1 run1 mi c1 c1' ∨ c1 = c1') ∧ zCR lO lA sc c2' c1' := by
  rcases hs with ⟨i, len, ax, d, gs, q1, q2, q3, q4, q5, q6⟩ | ⟨i, ax, as1, rest, r, g1, q1, q2, q3, q4, q5, q6, q7, q8, q8s, q9, q10, q11, rfl⟩ | ⟨q1, q2, q3⟩
  · obtain ⟨gs1, c1', k1, k2, k3⟩ := z_par ap q4 h gs c2' q5 q6
    exact ⟨c1', Or.inl (Or.inl ⟨i, len, ax, d, gs1, by rw [h.1]; exact q1, q2, q3, k1, k2⟩), k3⟩
  · obtain ⟨h1, h2, h3, h4⟩ := h
    rw [q6] at h3
    obtain ⟨a', b', e1, e2, e3⟩ := zSR_split h3
    have e4 := zSR_rev e2
    rw [List.reverse_reverse] at e4
    obtain ⟨e5, e6⟩ := zSR_no5 e4 q10
    obtain ⟨r1, h', k1, k2, k3⟩ := hrr _ _ _ _ _ _ _ q11 e5 h4
    refine ⟨(c1.1 + 3, c1.2.1, r1.toList ++ b', h'), Or.inl (Or.inr (Or.inl ⟨i, ax, a'.reverse, b', r1, h', by rw [h1]; exact q1, q2, q3, q4, q5, by rw [List.reverse_reverse]; exact e1, by rw [zSR_len e4]; exact q7, fun x hx => ?_, fun x hx => ?_, by rw [zSR_len e3]; exact q9, e6, k1, rfl⟩)), by rw [h1], h2, ?_, k3⟩
    · obtain ⟨a, p1, p2, p3⟩ := q8 x hx
      obtain ⟨y, p4, p5⟩ := zSR_get e4 p1
      obtain ⟨t, n⟩ := a
      simp only at p3
      subst p3
      obtain ⟨p6, p7, p8⟩ := zVR_obj p2 p5
      subst p8
      obtain ⟨f, p9, -⟩ := h4.1 _ n p2 p6 p7
      exact ⟨_, p4, p2, rfl, zNf (zmC ax.1), f, p9⟩
    · obtain ⟨a, p1, p2⟩ := q8s x hx
      obtain ⟨y, p4, p5⟩ := zSR_get e4 p1
      exact ⟨y, p4, by rw [(zVR_tag p5).2.2]; exact p2⟩
    · refine zSR_app ?_ e3
      cases r with
      | none =>
        cases r1 with
        | none => trivial
        | some y => exact k2.elim
      | some x =>
        cases r1 with
        | none => exact k2.elim
        | some y => exact ⟨zVR_sc k2, trivial⟩
  · obtain ⟨h1, h2, h3, h4⟩ := h
    refine ⟨c1, Or.inr rfl, ?_, ⟨?_, ?_⟩, ?_, ?_⟩
    · rw [q1]; exact h1
    · rw [q3.1]; exact h2.1
    · intro i a ha
      exact h2.2 i a (q3.2 i a ha)
    · rw [show c2'.2.2.1 = c2.2.2.1 from congrArg Prod.fst q2]; exact h3
    · rw [show c2'.2.2.2 = c2.2.2.2 from congrArg Prod.snd q2]; exact h4
theorem z_parN {run2 : zRn zH2} {run1 : zRn zH1} {mi n : Nat} {c2 c2' : zCf zH2} {c1 : zCf zH1} (ap : zAp lO lA) (hrr : zRR lO lA run2 run1) (h : zCR lO lA sc c2 c1) (hs : zRe2 Ls xs run2 mi n c2 c2') : ∃ n' c1', zReach (zHop1 Ls xs) zRc1 run1 mi n' c1 c1' ∧ zCR lO lA sc c2' c1' := by
  induction n generalizing c2 c1 with
  | zero => cases hs; exact ⟨0, c1, rfl, h⟩
  | succ n ih =>
    obtain ⟨c3, s1, s2⟩ := hs
    obtain ⟨c4, k1, k2⟩ := z_par1 ap hrr h s1
    obtain ⟨n', c1', k3, k4⟩ := ih k2 s2
    rcases k1 with k1 | rfl
    · exact ⟨n' + 1, c1', ⟨c4, k1, k3⟩, k4⟩
    · exact ⟨n', c1', k3, k4⟩
theorem zSR_fl {a a' : List zAv} (h : zSR lO lA sc a a') : (zFl a').length = (zFl a).length ∧ ∀ (n i : Nat) (x : zAv), zGl (zFl a ++ List.replicate n none) i = some x → ∃ y, zGl (zFl a' ++ List.replicate n none) i = some y ∧ zVR lO lA sc x y := by
  induction a generalizing a' with
  | nil =>
    rw [zSR_nil h]
    refine ⟨rfl, fun n i x hx => ?_⟩
    exfalso
    have := zEntry_mem [] i x hx
    cases this
  | cons z r ih =>
    obtain ⟨y, s, rfl, h3, h4⟩ := zSR_cons h
    obtain ⟨i1, i2⟩ := ih h4
    obtain ⟨t, v⟩ := z
    obtain ⟨t', v'⟩ := y
    have ht : Nat.beq t' 1 = Nat.beq t 1 := (zVR_tag h3).2.1
    unfold zFl
    rw [ht]
    cases Nat.beq t 1 with
    | true =>
      simp only
      refine ⟨by simp [i1], fun n i x hx => ?_⟩
      match i, hx with
      | 0, hx => cases hx; exact ⟨_, rfl, h3⟩
      | 1, hx => cases hx
      | i + 2, hx => exact i2 n i x hx
    | false =>
      simp only
      refine ⟨by simp [i1], fun n i x hx => ?_⟩
      match i, hx with
      | 0, hx => cases hx; exact ⟨_, rfl, h3⟩
      | i + 1, hx => exact i2 n i x hx
theorem z_parR {spec2 : zRn zH2} {spec1 : zRn zH1} (ap : zAp lO lA) (hsp : zRR lO lA spec2 spec1) : ∀ d, zRR lO lA (zRu2 spec2 d) (zRun (zHop1 0 (fun _ => 0)) zRc1 spec1 d) := by
  intro d
  induction d with
  | zero => intro k args2 args1 g r2 g' h q; exact q.elim
  | succ d ih =>
    intro k args2 args1 g r2 g' h q hS hR
    rcases q with ⟨q1, q2⟩ | ⟨hk, h14, hfl, n, pc, L, st, hre, hret⟩
    · obtain ⟨r1, h', k1, k2⟩ := hsp _ _ _ _ _ _ _ q2 hS hR
      exact ⟨r1, h', Or.inl ⟨q1, k1⟩, k2⟩
    · obtain ⟨f1, f2⟩ := zSR_fl hS
      have hC : zCR lO lA False (0, zEntry args2 (zmMax k), [], g) (0, zEntry args1 (zmMax k), [], h) := by
        refine ⟨rfl, ⟨?_, fun i a ha => ?_⟩, trivial, hR⟩
        · unfold zEntry
          simp only [List.length_append, List.length_replicate, f1]
        · unfold zEntry at ha ⊢
          rw [f1]
          exact f2 _ i a ha
      obtain ⟨n', c1', k1, k2⟩ := z_parN ap ih hC hre
      obtain ⟨pc1, L1, st1, h1⟩ := c1'
      obtain ⟨e1, e2, e3, e4⟩ := k2
      dsimp only at e1 e2 e3 e4
      subst e1
      rcases hret with ⟨w1, v, w2, w3, w4⟩ | ⟨w1, v, w2, w3, w4⟩ | ⟨w1, w2, w3, w4⟩
      · dsimp only at w1 w2
        subst w2
        subst w3
        obtain ⟨b0, s0, p0, p1, p2⟩ := zSR_cons e3
        have := zVR0 p1; subst this
        have := zSR_nil p2; subst this
        exact ⟨some (0, v), h1, Or.inr ⟨hk, h14, by rw [f1]; exact hfl, n', pc1, L1, st1, k1, Or.inl ⟨w1, v, p0, rfl, w4⟩⟩, zVR_i, e4⟩
      · dsimp only at w1 w2
        subst w2
        subst w3
        obtain ⟨b0, s0, p0, p1, p2⟩ := zSR_cons e3
        have := zVR1 p1; subst this
        have := zSR_nil p2; subst this
        exact ⟨some (1, v), h1, Or.inr ⟨hk, h14, by rw [f1]; exact hfl, n', pc1, L1, st1, k1, Or.inr (Or.inl ⟨w1, v, p0, rfl, w4⟩)⟩, zVR_l, e4⟩
      · dsimp only at w1 w2
        subst w2
        subst w3
        have := zSR_nil e3; subst this
        exact ⟨none, h1, Or.inr ⟨hk, h14, by rw [f1]; exact hfl, n', pc1, L1, [], k1, Or.inr (Or.inr ⟨w1, rfl, rfl, w4⟩)⟩, trivial, e4⟩
end ZV
end
section
/-! How a run over the second heap is shown: blocks, calls, returns. -/
abbrev zRow : Type := Nat × Instr × Nat × zAx
def zRk (mi : Nat) (b : List zRow) : Bool := b.all (fun q => (match decode (zmCode mi) q.1 with
  | .ok p => decide (p = (q.2.1, q.2.2.1))
  | .error _ => false) && (zLnOk q.2.1 q.2.2.1 && (zAxOk (zmC mi) (zIsI mi) q.2.1 q.2.2.2 && zAx2 q.2.1 q.2.2.2)))
def zBk (d : Int) : List zRow → zCf zH2 → zRs zH2
  | [], c => some ([], c)
  | (pc, i, len, ax) :: b, c => match Nat.beq pc c.1 with
    | true => match zX (zHop2 0 (fun _ => 0)) i len ax d c with
      | some (gs, c1) => match zBk d b c1 with
        | some (gs', c2) => some (gs ++ gs', c2)
        | none => none
      | none => none
    | false => none
def zMk : List Bool → zLo → zLo
  | b :: m, a :: L => (match b with
    | true => a
    | false => none) :: zMk m L
  | _, L => L
def zBm (m : List Bool) (r : zRs zH2) : zRs zH2 := match r with
  | some (gs, c) => some (gs, (c.1, zMk m c.2.1, c.2.2.1, c.2.2.2))
  | none => none
theorem zMk_sub {m : List Bool} {L : zLo} : zSub (zMk m L) L := by
  induction m generalizing L with
  | nil => unfold zMk; exact ⟨rfl, fun i a h => h⟩
  | cons b m ih =>
    cases L with
    | nil => unfold zMk; exact ⟨rfl, fun i a h => h⟩
    | cons x r =>
      unfold zMk
      refine ⟨by simp only [List.length_cons, ih.1], fun i a h => ?_⟩
      cases i with
      | zero =>
        cases b with
        | true => exact h
        | false => cases h
      | succ i => exact ih.2 i a h
section ZW
variable {run : zRn zH2} {mi : Nat} {r : Option zAv} {g0 : zH2} {spec : zRn zH2}
theorem zF_1 {c c' : zCf zH2} (h1 : zS2 0 (fun _ => 0) run mi c c') (h2 : zFin 0 (fun _ => 0) run mi r g0 c') : zFin 0 (fun _ => 0) run mi r g0 c := by
  obtain ⟨n, pc, L, st, h3, h4⟩ := h2
  exact ⟨n + 1, pc, L, st, ⟨c', h1, h3⟩, h4⟩
theorem zF_b {d : Int} {b : List zRow} {c c' : zCf zH2} {gs : List Prop} (hk : zRk mi b = true) (e : zBk d b c = some (gs, c')) (hg : zAll gs) (h : zFin 0 (fun _ => 0) run mi r g0 c') : zFin 0 (fun _ => 0) run mi r g0 c := by
  induction b generalizing c gs with
  | nil => cases e; exact h
  | cons q b ih =>
    obtain ⟨pc, i, len, ax⟩ := q
    unfold zRk at hk
    rw [List.all_cons, Bool.and_eq_true] at hk
    obtain ⟨k1, k2⟩ := hk
    simp only [Bool.and_eq_true] at k1
    obtain ⟨k3, k4, k5, k6⟩ := k1
    unfold zBk at e
    split at e
    · rename_i e1
      have e1 := Nat.eq_of_beq_eq_true e1
      subst e1
      split at e
      · rename_i gs1 c1 e2
        split at e
        · rename_i gs2 c2 e3
          cases e
          obtain ⟨g1, g2⟩ := zAll_app.mp hg
          refine zF_1 (Or.inl ⟨i, len, ax, d, gs1, ?_, k4, k5, k6, e2, g1⟩) (ih k2 e3 g2)
          split at k3
          · rename_i p e4
            rw [e4, of_decide_eq_true k3]
          · cases k3
        · cases e
      · cases e
    · cases e
/-- a block, and locals forgotten after it -/
theorem zF_blk {m : List Bool} {d : Int} {b : List zRow} {c c' : zCf zH2} {gs : List Prop} (hk : zRk mi b = true) (e : zBm m (zBk d b c) = some (gs, c')) (hg : zAll gs) (h : zFin 0 (fun _ => 0) run mi r g0 c') : zFin 0 (fun _ => 0) run mi r g0 c := by
  cases e1 : zBk d b c with
  | none => rw [e1] at e; cases e
  | some q =>
    obtain ⟨gs1, c1⟩ := q
    rw [e1] at e
    cases e
    exact zF_b hk e1 hg (zF_1 (c := c1) (c' := (c1.1, zMk m c1.2.1, c1.2.2.1, c1.2.2.2)) (Or.inr (Or.inr ⟨rfl, rfl, zMk_sub⟩)) h)
def zCk1 (mi pc : Nat) (i : Instr) (k cl n : Nat) : Bool := (match decode (zmCode mi) pc with
  | .ok p => decide (p = (i, 3))
  | .error _ => false) && (zIsCall i k && (zAxOk (zmC mi) (zIsI mi) i (k, 0, 0) && (Nat.blt k 295 && (!Nat.beq (zmC k) 14 && (Nat.beq (zmC k) cl && Nat.beq n (zNa i k))))))
def zCk2 (i : Instr) (cl : Nat) (args rest : List zAv) : Bool := (match i with
  | .invokevirtual _ => (match args with
    | a :: _ => Nat.blt cl 13 && Nat.beq a.1 (10 + cl)
    | [] => false)
  | .invokespecial _ => (match args with
    | a :: _ => zGe2 a.1
    | [] => false)
  | _ => true) && (Nat.ble rest.length 4 && args.all (fun a => !Nat.beq a.1 5))
theorem zF_call {pc k cl n : Nat} {i : Instr} {L : zLo} {args rest st st' : List zAv} {g g1 : zH2} {r1 : Option zAv} (hk : zCk1 mi pc i k cl n = true) (h2 : zCk2 i cl args rest = true) (hn : args.length = n) (hs : st = args.reverse ++ rest) (hs' : st' = r1.toList ++ rest) (hr : run k args g r1 g1) (h : zFin 0 (fun _ => 0) run mi r g0 (pc + 3, L, st', g1)) : zFin 0 (fun _ => 0) run mi r g0 (pc, L, st, g) := by
  unfold zCk1 at hk
  simp only [Bool.and_eq_true] at hk
  obtain ⟨k1, k2, k3, k4, k5, k6, k7⟩ := hk
  unfold zCk2 at h2
  simp only [Bool.and_eq_true] at h2
  obtain ⟨j1, j2, j3⟩ := h2
  have k6 := Nat.eq_of_beq_eq_true k6
  have k7 := Nat.eq_of_beq_eq_true k7
  have k5 : ¬ zmC k = 14 := by
    intro q
    rw [q] at k5
    cases k5
  subst hs'
  refine zF_1 (Or.inr (Or.inl ⟨i, (k, 0, 0), args, rest, r1, g1, ?_, k2, k3, Nat.le_of_ble_eq_true k4, k5, hs, by rw [hn]; exact k7, fun x hx => ?_, fun x hx => ?_, j2, j3, hr, rfl⟩)) h
  · split at k1
    · rename_i p e4
      rw [e4, of_decide_eq_true k1]
    · cases k1
  · subst hx
    cases args with
    | nil => cases j1
    | cons a as =>
      simp only [Bool.and_eq_true] at j1
      have j4 := Nat.le_of_ble_eq_true j1.1
      have j5 := Nat.eq_of_beq_eq_true j1.2
      refine ⟨a, rfl, ?_⟩
      unfold zRc2
      dsimp only
      rw [k6]
      exact ⟨j4, j5⟩
  · subst hx
    cases args with
    | nil => cases j1
    | cons a as => exact ⟨a, rfl, j1⟩
def zRe1 (mi pc : Nat) (i : Instr) (ty : Option FieldType) : Bool := (match decode (zmCode mi) pc with
  | .ok p => decide (p = (i, 1))
  | .error _ => false) && decide (zmRet mi = ty)
theorem zRe1_s {pc : Nat} {i : Instr} {ty : Option FieldType} (h : zRe1 mi pc i ty = true) : decode (zmCode mi) pc = .ok (i, 1) ∧ zmRet mi = ty := by
  unfold zRe1 at h
  rw [Bool.and_eq_true] at h
  obtain ⟨h1, h2⟩ := h
  refine ⟨?_, of_decide_eq_true h2⟩
  split at h1
  · rename_i p e4
    rw [e4, of_decide_eq_true h1]
  · cases h1
theorem zF_ri {pc : Nat} {L : zLo} {v : Int} (hk : zRe1 mi pc .ireturn (some .int) = true) : zFin 0 (fun _ => 0) run mi (some (0, v)) g0 (pc, L, [(0, v)], g0) := by
  obtain ⟨h1, h2⟩ := zRe1_s hk
  exact ⟨0, pc, L, [(0, v)], rfl, Or.inl ⟨h1, v, rfl, rfl, Or.inl h2⟩⟩
theorem zF_rb {pc : Nat} {L : zLo} {v : Int} (hk : zRe1 mi pc .ireturn (some .boolean) = true) (hv : v = 0 ∨ v = 1) : zFin 0 (fun _ => 0) run mi (some (0, v)) g0 (pc, L, [(0, v)], g0) := by
  obtain ⟨h1, h2⟩ := zRe1_s hk
  exact ⟨0, pc, L, [(0, v)], rfl, Or.inl ⟨h1, v, rfl, rfl, Or.inr ⟨h2, hv⟩⟩⟩
theorem zF_rl {pc : Nat} {L : zLo} {v : Int} (hk : zRe1 mi pc .lreturn (some .long) = true) : zFin 0 (fun _ => 0) run mi (some (1, v)) g0 (pc, L, [(1, v)], g0) := by
  obtain ⟨h1, h2⟩ := zRe1_s hk
  exact ⟨0, pc, L, [(1, v)], rfl, Or.inr (Or.inl ⟨h1, v, rfl, rfl, h2⟩)⟩
theorem zF_rv {pc : Nat} {L : zLo} (hk : zRe1 mi pc .return_ none = true) : zFin 0 (fun _ => 0) run mi none g0 (pc, L, [], g0) := by
  obtain ⟨h1, h2⟩ := zRe1_s hk
  exact ⟨0, pc, L, [], rfl, Or.inr (Or.inr ⟨h1, rfl, rfl, h2⟩)⟩
def zIn1 (mi mx : Nat) : Bool := Nat.blt mi 295 && (!Nat.beq (zmC mi) 14 && Nat.beq (zmMax mi) mx)
theorem zF_in {D d mx : Nat} {args : List zAv} {L : zLo} {g : zH2} (hk : zIn1 mi mx = true) (hl : Nat.ble (zFl args).length mx = true) (he : zEntry args mx = L) (hd : D + 1 ≤ d) (H : ∀ d', D ≤ d' → zFin 0 (fun _ => 0) (zRu2 spec d') mi r g0 (0, L, [], g)) : zRu2 spec d mi args g r g0 := by
  unfold zIn1 at hk
  simp only [Bool.and_eq_true] at hk
  obtain ⟨k1, k2, k3⟩ := hk
  have k3 := Nat.eq_of_beq_eq_true k3
  subst k3
  subst he
  match d, hd with
  | d + 1, hd =>
    refine Or.inr ⟨Nat.le_of_ble_eq_true k1, ?_, Nat.le_of_ble_eq_true hl, H d (Nat.le_of_succ_le_succ hd)⟩
    intro q
    rw [q] at k2
    cases k2
end ZW
/-- a guard -/
def zG {β : Type} (p : Prop) [Decidable p] (t : Option β) : Option β := if p then t else none
theorem zG_s {β : Type} {p : Prop} [Decidable p] {t : Option β} {v : β} (h : zG p t = some v) : p ∧ t = some v := by
  unfold zG at h
  split at h
  · rename_i q; exact ⟨q, h⟩
  · cases h
theorem zI_s {β : Type} {p : Prop} [Decidable p] {t e : Option β} {v : β} (h : (if p then t else e) = some v) : (p ∧ t = some v) ∨ (¬ p ∧ e = some v) := by
  split at h
  · rename_i q; exact Or.inl ⟨q, h⟩
  · rename_i q; exact Or.inr ⟨q, h⟩
theorem zB_s {α β : Type} {t : Option α} {k : α → Option β} {v : β} (h : t.bind k = some v) : ∃ w, t = some w ∧ k w = some v := by
  cases t with
  | none => cases h
  | some w => exact ⟨w, rfl, h⟩
theorem z_neg {p : Prop} [Decidable p] {β : Type} {a b : Option β} (h : p) : (if p then a else b) = a := if_pos h
end
section
/-! Functions of the methods, by wip/gen/lift.py. -/
def zFu : Nat := 1048576
def B15_0 : List zRow := [(0, .bipush 24, 2, (0, 0, 0)), (2, .istore_n 2, 1, (0, 0, 0))]
theorem K15_0 : zRk 15 B15_0 = true := by decide +kernel
def B15_1 : List zRow := [(17, .aload_n 0, 1, (0, 0, 0)), (18, .getfield 9, 3, (5, 0, 5246642)), (21, .aload_n 0, 1, (0, 0, 0)), (22, .getfield 39, 3, (5, 1, 0)), (25, .iload_n 1, 1, (0, 0, 0)), (26, .iload_n 2, 1, (0, 0, 0)), (27, .iushr, 1, (0, 0, 0)), (28, .sipush 255, 3, (0, 0, 0)), (31, .iand, 1, (0, 0, 0)), (32, .iastore, 1, (0, 0, 0)), (33, .aload_n 0, 1, (0, 0, 0)), (34, .dup, 1, (0, 0, 0)), (35, .getfield 39, 3, (5, 1, 0)), (38, .iconst 1, 1, (0, 0, 0)), (39, .iadd, 1, (0, 0, 0)), (40, .putfield 39, 3, (5, 1, 0)), (43, .iinc 2 (-8), 3, (0, 0, 0)), (46, .goto (-43), 3, (0, 0, 0))]
theorem K15_1 : zRk 15 B15_1 = true := by decide +kernel
def B15_2 : List zRow := [(7, .aload_n 0, 1, (0, 0, 0)), (8, .getfield 39, 3, (5, 1, 0)), (11, .sipush 940, 3, (0, 0, 0)), (14, .if_icmp .ge 35, 3, (0, 0, 0))]
theorem K15_2 : zRk 15 B15_2 = true := by decide +kernel
def B15_3 : List zRow := [(3, .iload_n 2, 1, (0, 0, 0)), (4, .ifCond .lt 45, 3, (0, 0, 0))]
theorem K15_3 : zRk 15 B15_3 = true := by decide +kernel
def F15_0 : Nat → Int → Int → zHC → Option zHC
  | 0, _, _, _ => none
  | n + 1, v1, v2, h => if v2 < 0 then some h else if 940 ≤ (h 321 0 0) then some h else zG (0 ≤ (h 321 0 0) ∧ (h 321 0 0) < 940) ((F15_0 n) v1 (wadd v2 (-8)) (hset (hset h 320 0 (h 321 0 0) (wand (wushr v1 v2) 255)) 321 0 0 (wadd ((hset h 320 0 (h 321 0 0) (wand (wushr v1 v2) 255)) 321 0 0) 1)))
set_option maxRecDepth 100000 in
theorem T15_0 {spec : zRn zH2} {hm : zHM} {o : Int → Int} {d : Nat} (hd : 0 ≤ d) : ∀ (n : Nat) (v1 : Int) (v2 : Int) (h : zHC) (v : zHC), F15_0 n v1 v2 h = some v → zFin 0 (fun _ => 0) (zRu2 spec d) 15 none (v, hm, o) (3, [some (15, 0), some (0, v1), some (0, v2)], [], (h, hm, o)) := by
  intro n
  induction n with
  | zero => intro v1 v2 h v e; unfold F15_0 at e; cases e
  | succ n hk0 =>
    intro v1 v2 h v e
    unfold F15_0 at e
    rcases zI_s e with ⟨q1, e⟩ | ⟨q1, e⟩
    · refine zF_blk (m := []) (d := 1) (b := B15_3) (gs := [v2 < 0]) (c' := (49, [some (15, 0), some (0, v1), some (0, v2)], [], (h, hm, o))) K15_3 rfl ⟨q1, trivial⟩ ?_
      cases e
      exact zF_rv (by decide +kernel)
    · refine zF_blk (m := []) (d := 0) (b := B15_3) (gs := [¬ (v2 < 0)]) (c' := (7, [some (15, 0), some (0, v1), some (0, v2)], [], (h, hm, o))) K15_3 rfl ⟨q1, trivial⟩ ?_
      rcases zI_s e with ⟨q2, e⟩ | ⟨q2, e⟩
      · refine zF_blk (m := []) (d := 1) (b := B15_2) (gs := [940 ≤ (h 321 0 0)]) (c' := (49, [some (15, 0), some (0, v1), some (0, v2)], [], (h, hm, o))) K15_2 rfl ⟨q2, trivial⟩ ?_
        cases e
        exact zF_rv (by decide +kernel)
      · refine zF_blk (m := []) (d := 0) (b := B15_2) (gs := [¬ (940 ≤ (h 321 0 0))]) (c' := (17, [some (15, 0), some (0, v1), some (0, v2)], [], (h, hm, o))) K15_2 rfl ⟨q2, trivial⟩ ?_
        obtain ⟨q3, e⟩ := zG_s e
        refine zF_blk (m := []) (d := 0) (b := B15_1) (gs := [0 ≤ (h 321 0 0) ∧ (h 321 0 0) < 940]) (c' := (3, [some (15, 0), some (0, v1), some (0, (wadd v2 (-8)))], [], ((hset (hset h 320 0 (h 321 0 0) (wand (wushr v1 v2) 255)) 321 0 0 (wadd ((hset h 320 0 (h 321 0 0) (wand (wushr v1 v2) 255)) 321 0 0) 1)), hm, o))) K15_1 rfl ⟨q3, trivial⟩ ?_
        exact hk0 v1 (wadd v2 (-8)) (hset (hset h 320 0 (h 321 0 0) (wand (wushr v1 v2) 255)) 321 0 0 (wadd ((hset h 320 0 (h 321 0 0) (wand (wushr v1 v2) 255)) 321 0 0) 1)) _ e
/-- EchoVale$Reader.addBytes(I)V -/
def F15 (v1 : Int) (h : zHC) : Option zHC := F15_0 zFu v1 24 h
set_option maxRecDepth 100000 in
theorem S15 {spec : zRn zH2} {hm : zHM} {o : Int → Int} {d : Nat} (hd : 1 ≤ d) (v1 : Int) (h : zHC) (v : zHC) (e : F15 v1 h = some v) : zRu2 spec d 15 [(15, 0), (0, v1)] (h, hm, o) none (v, hm, o) := by
  refine zF_in (D := 0) (mx := 3) (L := [some (15, 0), some (0, v1), none]) (by decide +kernel) rfl rfl hd (fun d hd => ?_)
  unfold F15 at e
  refine zF_blk (m := []) (d := 0) (b := B15_0) (gs := []) (c' := (3, [some (15, 0), some (0, v1), some (0, 24)], [], (h, hm, o))) K15_0 rfl trivial ?_
  exact T15_0 hd zFu v1 24 h _ e
def B14_0 : List zRow := [(18, .aload_n 0, 1, (0, 0, 0)), (19, .getfield 12, 3, (11, 0, 23)), (22, .iload_n 1, 1, (0, 0, 0))]
theorem K14_0 : zRk 14 B14_0 = true := by decide +kernel
def B14_1 : List zRow := [(26, .aload_n 0, 1, (0, 0, 0)), (27, .getfield 12, 3, (11, 0, 23)), (30, .iload_n 2, 1, (0, 0, 0))]
theorem K14_1 : zRk 14 B14_1 = true := by decide +kernel
def B14_2 : List zRow := [(34, .aload_n 0, 1, (0, 0, 0)), (35, .getfield 12, 3, (11, 0, 23)), (38, .iload_n 3, 1, (0, 0, 0))]
theorem K14_2 : zRk 14 B14_2 = true := by decide +kernel
def B14_3 : List zRow := [(42, .aload_n 0, 1, (0, 0, 0)), (43, .getfield 12, 3, (11, 0, 23)), (46, .iload 4, 2, (0, 0, 0))]
theorem K14_3 : zRk 14 B14_3 = true := by decide +kernel
def B14_4 : List zRow := [(51, .aload_n 0, 1, (0, 0, 0)), (52, .getfield 12, 3, (11, 0, 23)), (55, .iload 5, 2, (0, 0, 0))]
theorem K14_4 : zRk 14 B14_4 = true := by decide +kernel
def B14_5 : List zRow := [(60, .aload_n 0, 1, (0, 0, 0)), (61, .getfield 12, 3, (11, 0, 23)), (64, .getfield 105, 3, (5, 1, 0))]
theorem K14_5 : zRk 14 B14_5 = true := by decide +kernel
def B14_6 : List zRow := [(16, .iconst (-1), 1, (0, 0, 0))]
theorem K14_6 : zRk 14 B14_6 = true := by decide +kernel
def B14_7 : List zRow := [(0, .aload_n 0, 1, (0, 0, 0)), (1, .getfield 12, 3, (11, 0, 23)), (4, .getfield 105, 3, (5, 1, 0)), (7, .bipush 20, 2, (0, 0, 0)), (9, .iadd, 1, (0, 0, 0)), (10, .sipush 940, 3, (0, 0, 0)), (13, .if_icmp .le 5, 3, (0, 0, 0))]
theorem K14_7 : zRk 14 B14_7 = true := by decide +kernel
/-- EchoVale.feed(IIIII)I -/
def F14 (v1 : Int) (v2 : Int) (v3 : Int) (v4 : Int) (v5 : Int) (h : zHC) : Option (Int × zHC) := if (wadd (h 321 0 0) 20) ≤ 940 then (F15 v1 h).bind fun r1 => (F15 v2 r1).bind fun r2 => (F15 v3 r2).bind fun r3 => (F15 v4 r3).bind fun r4 => (F15 v5 r4).bind fun r5 => some ((r5 321 0 0), r5) else some ((-1), h)
set_option maxRecDepth 100000 in
theorem S14 {spec : zRn zH2} {hm : zHM} {o : Int → Int} {d : Nat} (hd : 2 ≤ d) (v1 : Int) (v2 : Int) (v3 : Int) (v4 : Int) (v5 : Int) (h : zHC) (v : (Int × zHC)) (e : F14 v1 v2 v3 v4 v5 h = some v) : zRu2 spec d 14 [(21, 0), (0, v1), (0, v2), (0, v3), (0, v4), (0, v5)] (h, hm, o) (some (0, v.1)) (v.2, hm, o) := by
  refine zF_in (D := 1) (mx := 6) (L := [some (21, 0), some (0, v1), some (0, v2), some (0, v3), some (0, v4), some (0, v5)]) (by decide +kernel) rfl rfl hd (fun d hd => ?_)
  unfold F14 at e
  rcases zI_s e with ⟨q1, e⟩ | ⟨q1, e⟩
  · refine zF_blk (m := []) (d := 1) (b := B14_7) (gs := [(wadd (h 321 0 0) 20) ≤ 940]) (c' := (18, [some (21, 0), some (0, v1), some (0, v2), some (0, v3), some (0, v4), some (0, v5)], [], (h, hm, o))) K14_7 rfl ⟨q1, trivial⟩ ?_
    obtain ⟨r1, q2, e⟩ := zB_s e
    refine zF_blk (m := []) (d := 0) (b := B14_0) (gs := []) (c' := (23, [some (21, 0), some (0, v1), some (0, v2), some (0, v3), some (0, v4), some (0, v5)], [(0, v1), (15, 0)], (h, hm, o))) K14_0 rfl trivial ?_
    refine zF_call (k := 15) (cl := 5) (n := 2) (i := .invokevirtual 108) (args := [(15, 0), (0, v1)]) (rest := []) (g1 := (r1, hm, o)) (r1 := none) (by decide +kernel) rfl rfl rfl (st' := []) rfl (S15 (Nat.le_trans (by decide) hd) v1 h _ q2) ?_
    obtain ⟨r2, q3, e⟩ := zB_s e
    refine zF_blk (m := []) (d := 0) (b := B14_1) (gs := []) (c' := (31, [some (21, 0), some (0, v1), some (0, v2), some (0, v3), some (0, v4), some (0, v5)], [(0, v2), (15, 0)], (r1, hm, o))) K14_1 rfl trivial ?_
    refine zF_call (k := 15) (cl := 5) (n := 2) (i := .invokevirtual 108) (args := [(15, 0), (0, v2)]) (rest := []) (g1 := (r2, hm, o)) (r1 := none) (by decide +kernel) rfl rfl rfl (st' := []) rfl (S15 (Nat.le_trans (by decide) hd) v2 r1 _ q3) ?_
    obtain ⟨r3, q4, e⟩ := zB_s e
    refine zF_blk (m := []) (d := 0) (b := B14_2) (gs := []) (c' := (39, [some (21, 0), some (0, v1), some (0, v2), some (0, v3), some (0, v4), some (0, v5)], [(0, v3), (15, 0)], (r2, hm, o))) K14_2 rfl trivial ?_
    refine zF_call (k := 15) (cl := 5) (n := 2) (i := .invokevirtual 108) (args := [(15, 0), (0, v3)]) (rest := []) (g1 := (r3, hm, o)) (r1 := none) (by decide +kernel) rfl rfl rfl (st' := []) rfl (S15 (Nat.le_trans (by decide) hd) v3 r2 _ q4) ?_
    obtain ⟨r4, q5, e⟩ := zB_s e
    refine zF_blk (m := []) (d := 0) (b := B14_3) (gs := []) (c' := (48, [some (21, 0), some (0, v1), some (0, v2), some (0, v3), some (0, v4), some (0, v5)], [(0, v4), (15, 0)], (r3, hm, o))) K14_3 rfl trivial ?_
    refine zF_call (k := 15) (cl := 5) (n := 2) (i := .invokevirtual 108) (args := [(15, 0), (0, v4)]) (rest := []) (g1 := (r4, hm, o)) (r1 := none) (by decide +kernel) rfl rfl rfl (st' := []) rfl (S15 (Nat.le_trans (by decide) hd) v4 r3 _ q5) ?_
    obtain ⟨r5, q6, e⟩ := zB_s e
    refine zF_blk (m := []) (d := 0) (b := B14_4) (gs := []) (c' := (57, [some (21, 0), some (0, v1), some (0, v2), some (0, v3), some (0, v4), some (0, v5)], [(0, v5), (15, 0)], (r4, hm, o))) K14_4 rfl trivial ?_
    refine zF_call (k := 15) (cl := 5) (n := 2) (i := .invokevirtual 108) (args := [(15, 0), (0, v5)]) (rest := []) (g1 := (r5, hm, o)) (r1 := none) (by decide +kernel) rfl rfl rfl (st' := []) rfl (S15 (Nat.le_trans (by decide) hd) v5 r4 _ q6) ?_
    refine zF_blk (m := []) (d := 0) (b := B14_5) (gs := []) (c' := (67, [some (21, 0), some (0, v1), some (0, v2), some (0, v3), some (0, v4), some (0, v5)], [(0, (r5 321 0 0))], (r5, hm, o))) K14_5 rfl trivial ?_
    cases e
    exact zF_ri (by decide +kernel)
  · refine zF_blk (m := []) (d := 0) (b := B14_7) (gs := [¬ ((wadd (h 321 0 0) 20) ≤ 940)]) (c' := (16, [some (21, 0), some (0, v1), some (0, v2), some (0, v3), some (0, v4), some (0, v5)], [], (h, hm, o))) K14_7 rfl ⟨q1, trivial⟩ ?_
    refine zF_blk (m := []) (d := 0) (b := B14_6) (gs := []) (c' := (17, [some (21, 0), some (0, v1), some (0, v2), some (0, v3), some (0, v4), some (0, v5)], [(0, (-1))], (h, hm, o))) K14_6 rfl trivial ?_
    cases e
    exact zF_ri (by decide +kernel)
def B171_0 : List zRow := [(0, .bipush 24, 2, (0, 0, 0)), (2, .istore_n 2, 1, (0, 0, 0))]
theorem K171_0 : zRk 171 B171_0 = true := by decide +kernel
def B171_1 : List zRow := [(7, .aload_n 0, 1, (0, 0, 0)), (8, .getfield 7, 3, (12, 1, 5246642)), (11, .aload_n 0, 1, (0, 0, 0)), (12, .getfield 85, 3, (12, 2, 0)), (15, .iload_n 1, 1, (0, 0, 0)), (16, .iload_n 2, 1, (0, 0, 0)), (17, .iushr, 1, (0, 0, 0)), (18, .sipush 255, 3, (0, 0, 0)), (21, .iand, 1, (0, 0, 0)), (22, .iastore, 1, (0, 0, 0)), (23, .aload_n 0, 1, (0, 0, 0)), (24, .dup, 1, (0, 0, 0)), (25, .getfield 85, 3, (12, 2, 0)), (28, .iconst 1, 1, (0, 0, 0)), (29, .iadd, 1, (0, 0, 0)), (30, .putfield 85, 3, (12, 2, 0)), (33, .iinc 2 (-8), 3, (0, 0, 0)), (36, .goto (-33), 3, (0, 0, 0))]
theorem K171_1 : zRk 171 B171_1 = true := by decide +kernel
def B171_2 : List zRow := [(3, .iload_n 2, 1, (0, 0, 0)), (4, .ifCond .lt 35, 3, (0, 0, 0))]
theorem K171_2 : zRk 171 B171_2 = true := by decide +kernel
def F171_0 : Nat → Int → Int → zHM → Option zHM
  | 0, _, _, _ => none
  | n + 1, v1, v2, h => if v2 < 0 then some h else zG (0 ≤ (h 2 0) ∧ (h 2 0) < 940) ((F171_0 n) v1 (wadd v2 (-8)) (mset (mset h 1 (h 2 0) (wand (wushr v1 v2) 255)) 2 0 (wadd ((mset h 1 (h 2 0) (wand (wushr v1 v2) 255)) 2 0) 1)))
set_option maxRecDepth 100000 in
theorem T171_0 {spec : zRn zH2} {hc : zHC} {o : Int → Int} {d : Nat} (hd : 0 ≤ d) : ∀ (n : Nat) (v1 : Int) (v2 : Int) (h : zHM) (v : zHM), F171_0 n v1 v2 h = some v → zFin 0 (fun _ => 0) (zRu2 spec d) 171 none (hc, v, o) (3, [some (22, 0), some (0, v1), some (0, v2)], [], (hc, h, o)) := by
  intro n
  induction n with
  | zero => intro v1 v2 h v e; unfold F171_0 at e; cases e
  | succ n hk0 =>
    intro v1 v2 h v e
    unfold F171_0 at e
    rcases zI_s e with ⟨q1, e⟩ | ⟨q1, e⟩
    · refine zF_blk (m := []) (d := 1) (b := B171_2) (gs := [v2 < 0]) (c' := (39, [some (22, 0), some (0, v1), some (0, v2)], [], (hc, h, o))) K171_2 rfl ⟨q1, trivial⟩ ?_
      cases e
      exact zF_rv (by decide +kernel)
    · refine zF_blk (m := []) (d := 0) (b := B171_2) (gs := [¬ (v2 < 0)]) (c' := (7, [some (22, 0), some (0, v1), some (0, v2)], [], (hc, h, o))) K171_2 rfl ⟨q1, trivial⟩ ?_
      obtain ⟨q2, e⟩ := zG_s e
      refine zF_blk (m := []) (d := 0) (b := B171_1) (gs := [0 ≤ (h 2 0) ∧ (h 2 0) < 940]) (c' := (3, [some (22, 0), some (0, v1), some (0, (wadd v2 (-8)))], [], (hc, (mset (mset h 1 (h 2 0) (wand (wushr v1 v2) 255)) 2 0 (wadd ((mset h 1 (h 2 0) (wand (wushr v1 v2) 255)) 2 0) 1)), o))) K171_1 rfl ⟨q2, trivial⟩ ?_
      exact hk0 v1 (wadd v2 (-8)) (mset (mset h 1 (h 2 0) (wand (wushr v1 v2) 255)) 2 0 (wadd ((mset h 1 (h 2 0) (wand (wushr v1 v2) 255)) 2 0) 1)) _ e
/-- EchoValeModel.come(I)V -/
def F171 (v1 : Int) (h : zHM) : Option zHM := F171_0 zFu v1 24 h
set_option maxRecDepth 100000 in
theorem S171 {spec : zRn zH2} {hc : zHC} {o : Int → Int} {d : Nat} (hd : 1 ≤ d) (v1 : Int) (h : zHM) (v : zHM) (e : F171 v1 h = some v) : zRu2 spec d 171 [(22, 0), (0, v1)] (hc, h, o) none (hc, v, o) := by
  refine zF_in (D := 0) (mx := 3) (L := [some (22, 0), some (0, v1), none]) (by decide +kernel) rfl rfl hd (fun d hd => ?_)
  unfold F171 at e
  refine zF_blk (m := []) (d := 0) (b := B171_0) (gs := []) (c' := (3, [some (22, 0), some (0, v1), some (0, 24)], [], (hc, h, o))) K171_0 rfl trivial ?_
  exact T171_0 hd zFu v1 24 h _ e
def B170_0 : List zRow := [(20, .aload_n 0, 1, (0, 0, 0)), (21, .iload_n 1, 1, (0, 0, 0))]
theorem K170_0 : zRk 170 B170_0 = true := by decide +kernel
def B170_1 : List zRow := [(25, .aload_n 0, 1, (0, 0, 0)), (26, .iload_n 2, 1, (0, 0, 0))]
theorem K170_1 : zRk 170 B170_1 = true := by decide +kernel
def B170_2 : List zRow := [(30, .aload_n 0, 1, (0, 0, 0)), (31, .iload_n 3, 1, (0, 0, 0))]
theorem K170_2 : zRk 170 B170_2 = true := by decide +kernel
def B170_3 : List zRow := [(35, .aload_n 0, 1, (0, 0, 0)), (36, .iload 4, 2, (0, 0, 0))]
theorem K170_3 : zRk 170 B170_3 = true := by decide +kernel
def B170_4 : List zRow := [(41, .aload_n 0, 1, (0, 0, 0)), (42, .iload 5, 2, (0, 0, 0))]
theorem K170_4 : zRk 170 B170_4 = true := by decide +kernel
def B170_5 : List zRow := [(47, .aload_n 0, 1, (0, 0, 0)), (48, .getfield 85, 3, (12, 2, 0))]
theorem K170_5 : zRk 170 B170_5 = true := by decide +kernel
def B170_6 : List zRow := [(18, .iconst (-1), 1, (0, 0, 0))]
theorem K170_6 : zRk 170 B170_6 = true := by decide +kernel
def B170_7 : List zRow := [(0, .aload_n 0, 1, (0, 0, 0)), (1, .iconst 0, 1, (0, 0, 0)), (2, .putfield 81, 3, (12, 0, 0)), (5, .aload_n 0, 1, (0, 0, 0)), (6, .getfield 85, 3, (12, 2, 0)), (9, .bipush 20, 2, (0, 0, 0)), (11, .iadd, 1, (0, 0, 0)), (12, .sipush 940, 3, (0, 0, 0)), (15, .if_icmp .le 5, 3, (0, 0, 0))]
theorem K170_7 : zRk 170 B170_7 = true := by decide +kernel
/-- EchoValeModel.feed(IIIII)I -/
def F170 (v1 : Int) (v2 : Int) (v3 : Int) (v4 : Int) (v5 : Int) (h : zHM) : Option (Int × zHM) := if (wadd ((mset h 0 0 0) 2 0) 20) ≤ 940 then (F171 v1 (mset h 0 0 0)).bind fun r1 => (F171 v2 r1).bind fun r2 => (F171 v3 r2).bind fun r3 => (F171 v4 r3).bind fun r4 => (F171 v5 r4).bind fun r5 => some ((r5 2 0), r5) else some ((-1), (mset h 0 0 0))
set_option maxRecDepth 100000 in
theorem S170 {spec : zRn zH2} {hc : zHC} {o : Int → Int} {d : Nat} (hd : 2 ≤ d) (v1 : Int) (v2 : Int) (v3 : Int) (v4 : Int) (v5 : Int) (h : zHM) (v : (Int × zHM)) (e : F170 v1 v2 v3 v4 v5 h = some v) : zRu2 spec d 170 [(22, 0), (0, v1), (0, v2), (0, v3), (0, v4), (0, v5)] (hc, h, o) (some (0, v.1)) (hc, v.2, o) := by
  refine zF_in (D := 1) (mx := 6) (L := [some (22, 0), some (0, v1), some (0, v2), some (0, v3), some (0, v4), some (0, v5)]) (by decide +kernel) rfl rfl hd (fun d hd => ?_)
  unfold F170 at e
  rcases zI_s e with ⟨q1, e⟩ | ⟨q1, e⟩
  · refine zF_blk (m := []) (d := 1) (b := B170_7) (gs := [(wadd ((mset h 0 0 0) 2 0) 20) ≤ 940]) (c' := (20, [some (22, 0), some (0, v1), some (0, v2), some (0, v3), some (0, v4), some (0, v5)], [], (hc, (mset h 0 0 0), o))) K170_7 rfl ⟨q1, trivial⟩ ?_
    obtain ⟨r1, q2, e⟩ := zB_s e
    refine zF_blk (m := []) (d := 0) (b := B170_0) (gs := []) (c' := (22, [some (22, 0), some (0, v1), some (0, v2), some (0, v3), some (0, v4), some (0, v5)], [(0, v1), (22, 0)], (hc, (mset h 0 0 0), o))) K170_0 rfl trivial ?_
    refine zF_call (k := 171) (cl := 12) (n := 2) (i := .invokevirtual 88) (args := [(22, 0), (0, v1)]) (rest := []) (g1 := (hc, r1, o)) (r1 := none) (by decide +kernel) rfl rfl rfl (st' := []) rfl (S171 (Nat.le_trans (by decide) hd) v1 (mset h 0 0 0) _ q2) ?_
    obtain ⟨r2, q3, e⟩ := zB_s e
    refine zF_blk (m := []) (d := 0) (b := B170_1) (gs := []) (c' := (27, [some (22, 0), some (0, v1), some (0, v2), some (0, v3), some (0, v4), some (0, v5)], [(0, v2), (22, 0)], (hc, r1, o))) K170_1 rfl trivial ?_
    refine zF_call (k := 171) (cl := 12) (n := 2) (i := .invokevirtual 88) (args := [(22, 0), (0, v2)]) (rest := []) (g1 := (hc, r2, o)) (r1 := none) (by decide +kernel) rfl rfl rfl (st' := []) rfl (S171 (Nat.le_trans (by decide) hd) v2 r1 _ q3) ?_
    obtain ⟨r3, q4, e⟩ := zB_s e
    refine zF_blk (m := []) (d := 0) (b := B170_2) (gs := []) (c' := (32, [some (22, 0), some (0, v1), some (0, v2), some (0, v3), some (0, v4), some (0, v5)], [(0, v3), (22, 0)], (hc, r2, o))) K170_2 rfl trivial ?_
    refine zF_call (k := 171) (cl := 12) (n := 2) (i := .invokevirtual 88) (args := [(22, 0), (0, v3)]) (rest := []) (g1 := (hc, r3, o)) (r1 := none) (by decide +kernel) rfl rfl rfl (st' := []) rfl (S171 (Nat.le_trans (by decide) hd) v3 r2 _ q4) ?_
    obtain ⟨r4, q5, e⟩ := zB_s e
    refine zF_blk (m := []) (d := 0) (b := B170_3) (gs := []) (c' := (38, [some (22, 0), some (0, v1), some (0, v2), some (0, v3), some (0, v4), some (0, v5)], [(0, v4), (22, 0)], (hc, r3, o))) K170_3 rfl trivial ?_
    refine zF_call (k := 171) (cl := 12) (n := 2) (i := .invokevirtual 88) (args := [(22, 0), (0, v4)]) (rest := []) (g1 := (hc, r4, o)) (r1 := none) (by decide +kernel) rfl rfl rfl (st' := []) rfl (S171 (Nat.le_trans (by decide) hd) v4 r3 _ q5) ?_
    obtain ⟨r5, q6, e⟩ := zB_s e
    refine zF_blk (m := []) (d := 0) (b := B170_4) (gs := []) (c' := (44, [some (22, 0), some (0, v1), some (0, v2), some (0, v3), some (0, v4), some (0, v5)], [(0, v5), (22, 0)], (hc, r4, o))) K170_4 rfl trivial ?_
    refine zF_call (k := 171) (cl := 12) (n := 2) (i := .invokevirtual 88) (args := [(22, 0), (0, v5)]) (rest := []) (g1 := (hc, r5, o)) (r1 := none) (by decide +kernel) rfl rfl rfl (st' := []) rfl (S171 (Nat.le_trans (by decide) hd) v5 r4 _ q6) ?_
    refine zF_blk (m := []) (d := 0) (b := B170_5) (gs := []) (c' := (51, [some (22, 0), some (0, v1), some (0, v2), some (0, v3), some (0, v4), some (0, v5)], [(0, (r5 2 0))], (hc, r5, o))) K170_5 rfl trivial ?_
    cases e
    exact zF_ri (by decide +kernel)
  · refine zF_blk (m := []) (d := 0) (b := B170_7) (gs := [¬ ((wadd ((mset h 0 0 0) 2 0) 20) ≤ 940)]) (c' := (18, [some (22, 0), some (0, v1), some (0, v2), some (0, v3), some (0, v4), some (0, v5)], [], (hc, (mset h 0 0 0), o))) K170_7 rfl ⟨q1, trivial⟩ ?_
    refine zF_blk (m := []) (d := 0) (b := B170_6) (gs := []) (c' := (19, [some (22, 0), some (0, v1), some (0, v2), some (0, v3), some (0, v4), some (0, v5)], [(0, (-1))], (hc, (mset h 0 0 0), o))) K170_6 rfl trivial ?_
    cases e
    exact zF_ri (by decide +kernel)
def B16_0 : List zRow := [(15, .iconst 0, 1, (0, 0, 0))]
theorem K16_0 : zRk 16 B16_0 = true := by decide +kernel
def B16_1 : List zRow := [(17, .aload_n 0, 1, (0, 0, 0)), (18, .getfield 12, 3, (11, 0, 23)), (21, .iload_n 1, 1, (0, 0, 0)), (22, .putfield 105, 3, (5, 1, 0)), (25, .iconst 1, 1, (0, 0, 0))]
theorem K16_1 : zRk 16 B16_1 = true := by decide +kernel
def B16_2 : List zRow := [(4, .iload_n 1, 1, (0, 0, 0)), (5, .aload_n 0, 1, (0, 0, 0)), (6, .getfield 12, 3, (11, 0, 23)), (9, .getfield 105, 3, (5, 1, 0)), (12, .if_icmp .le 5, 3, (0, 0, 0))]
theorem K16_2 : zRk 16 B16_2 = true := by decide +kernel
def B16_3 : List zRow := [(0, .iload_n 1, 1, (0, 0, 0)), (1, .ifCond .lt 14, 3, (0, 0, 0))]
theorem K16_3 : zRk 16 B16_3 = true := by decide +kernel
/-- EchoVale.end(I)Z -/
def F16 (v1 : Int) (h : zHC) : Option (Int × zHC) := if v1 < 0 then some (0, h) else if v1 ≤ (h 321 0 0) then some (1, (hset h 321 0 0 v1)) else some (0, h)
set_option maxRecDepth 100000 in
theorem S16 {spec : zRn zH2} {hm : zHM} {o : Int → Int} {d : Nat} (hd : 1 ≤ d) (v1 : Int) (h : zHC) (v : (Int × zHC)) (e : F16 v1 h = some v) : zRu2 spec d 16 [(21, 0), (0, v1)] (h, hm, o) (some (0, v.1)) (v.2, hm, o) := by
  refine zF_in (D := 0) (mx := 2) (L := [some (21, 0), some (0, v1)]) (by decide +kernel) rfl rfl hd (fun d hd => ?_)
  unfold F16 at e
  rcases zI_s e with ⟨q1, e⟩ | ⟨q1, e⟩
  · refine zF_blk (m := []) (d := 1) (b := B16_3) (gs := [v1 < 0]) (c' := (15, [some (21, 0), some (0, v1)], [], (h, hm, o))) K16_3 rfl ⟨q1, trivial⟩ ?_
    refine zF_blk (m := []) (d := 0) (b := B16_0) (gs := []) (c' := (16, [some (21, 0), some (0, v1)], [(0, 0)], (h, hm, o))) K16_0 rfl trivial ?_
    cases e
    exact zF_rb (by decide +kernel) (Or.inl rfl)
  · refine zF_blk (m := []) (d := 0) (b := B16_3) (gs := [¬ (v1 < 0)]) (c' := (4, [some (21, 0), some (0, v1)], [], (h, hm, o))) K16_3 rfl ⟨q1, trivial⟩ ?_
    rcases zI_s e with ⟨q2, e⟩ | ⟨q2, e⟩
    · refine zF_blk (m := []) (d := 1) (b := B16_2) (gs := [v1 ≤ (h 321 0 0)]) (c' := (17, [some (21, 0), some (0, v1)], [], (h, hm, o))) K16_2 rfl ⟨q2, trivial⟩ ?_
      refine zF_blk (m := []) (d := 0) (b := B16_1) (gs := []) (c' := (26, [some (21, 0), some (0, v1)], [(0, 1)], ((hset h 321 0 0 v1), hm, o))) K16_1 rfl trivial ?_
      cases e
      exact zF_rb (by decide +kernel) (Or.inr rfl)
    · refine zF_blk (m := []) (d := 0) (b := B16_2) (gs := [¬ (v1 ≤ (h 321 0 0))]) (c' := (15, [some (21, 0), some (0, v1)], [], (h, hm, o))) K16_2 rfl ⟨q2, trivial⟩ ?_
      refine zF_blk (m := []) (d := 0) (b := B16_0) (gs := []) (c' := (16, [some (21, 0), some (0, v1)], [(0, 0)], (h, hm, o))) K16_0 rfl trivial ?_
      cases e
      exact zF_rb (by decide +kernel) (Or.inl rfl)
def B172_0 : List zRow := [(17, .iconst 0, 1, (0, 0, 0))]
theorem K172_0 : zRk 172 B172_0 = true := by decide +kernel
def B172_1 : List zRow := [(19, .aload_n 0, 1, (0, 0, 0)), (20, .iload_n 1, 1, (0, 0, 0)), (21, .putfield 85, 3, (12, 2, 0)), (24, .iconst 1, 1, (0, 0, 0))]
theorem K172_1 : zRk 172 B172_1 = true := by decide +kernel
def B172_2 : List zRow := [(9, .iload_n 1, 1, (0, 0, 0)), (10, .aload_n 0, 1, (0, 0, 0)), (11, .getfield 85, 3, (12, 2, 0)), (14, .if_icmp .le 5, 3, (0, 0, 0))]
theorem K172_2 : zRk 172 B172_2 = true := by decide +kernel
def B172_3 : List zRow := [(0, .aload_n 0, 1, (0, 0, 0)), (1, .iconst 0, 1, (0, 0, 0)), (2, .putfield 81, 3, (12, 0, 0)), (5, .iload_n 1, 1, (0, 0, 0)), (6, .ifCond .lt 11, 3, (0, 0, 0))]
theorem K172_3 : zRk 172 B172_3 = true := by decide +kernel
/-- EchoValeModel.end(I)Z -/
def F172 (v1 : Int) (h : zHM) : Option (Int × zHM) := if v1 < 0 then some (0, (mset h 0 0 0)) else if v1 ≤ ((mset h 0 0 0) 2 0) then some (1, (mset (mset h 0 0 0) 2 0 v1)) else some (0, (mset h 0 0 0))
set_option maxRecDepth 100000 in
theorem S172 {spec : zRn zH2} {hc : zHC} {o : Int → Int} {d : Nat} (hd : 1 ≤ d) (v1 : Int) (h : zHM) (v : (Int × zHM)) (e : F172 v1 h = some v) : zRu2 spec d 172 [(22, 0), (0, v1)] (hc, h, o) (some (0, v.1)) (hc, v.2, o) := by
  refine zF_in (D := 0) (mx := 2) (L := [some (22, 0), some (0, v1)]) (by decide +kernel) rfl rfl hd (fun d hd => ?_)
  unfold F172 at e
  rcases zI_s e with ⟨q1, e⟩ | ⟨q1, e⟩
  · refine zF_blk (m := []) (d := 1) (b := B172_3) (gs := [v1 < 0]) (c' := (17, [some (22, 0), some (0, v1)], [], (hc, (mset h 0 0 0), o))) K172_3 rfl ⟨q1, trivial⟩ ?_
    refine zF_blk (m := []) (d := 0) (b := B172_0) (gs := []) (c' := (18, [some (22, 0), some (0, v1)], [(0, 0)], (hc, (mset h 0 0 0), o))) K172_0 rfl trivial ?_
    cases e
    exact zF_rb (by decide +kernel) (Or.inl rfl)
  · refine zF_blk (m := []) (d := 0) (b := B172_3) (gs := [¬ (v1 < 0)]) (c' := (9, [some (22, 0), some (0, v1)], [], (hc, (mset h 0 0 0), o))) K172_3 rfl ⟨q1, trivial⟩ ?_
    rcases zI_s e with ⟨q2, e⟩ | ⟨q2, e⟩
    · refine zF_blk (m := []) (d := 1) (b := B172_2) (gs := [v1 ≤ ((mset h 0 0 0) 2 0)]) (c' := (19, [some (22, 0), some (0, v1)], [], (hc, (mset h 0 0 0), o))) K172_2 rfl ⟨q2, trivial⟩ ?_
      refine zF_blk (m := []) (d := 0) (b := B172_1) (gs := []) (c' := (25, [some (22, 0), some (0, v1)], [(0, 1)], (hc, (mset (mset h 0 0 0) 2 0 v1), o))) K172_1 rfl trivial ?_
      cases e
      exact zF_rb (by decide +kernel) (Or.inr rfl)
    · refine zF_blk (m := []) (d := 0) (b := B172_2) (gs := [¬ (v1 ≤ ((mset h 0 0 0) 2 0))]) (c' := (17, [some (22, 0), some (0, v1)], [], (hc, (mset h 0 0 0), o))) K172_2 rfl ⟨q2, trivial⟩ ?_
      refine zF_blk (m := []) (d := 0) (b := B172_0) (gs := []) (c' := (18, [some (22, 0), some (0, v1)], [(0, 0)], (hc, (mset h 0 0 0), o))) K172_0 rfl trivial ?_
      cases e
      exact zF_rb (by decide +kernel) (Or.inl rfl)
def B19_0 : List zRow := [(0, .aload_n 0, 1, (0, 0, 0)), (1, .iconst 0, 1, (0, 0, 0)), (2, .putfield 52, 3, (9, 0, 0)), (5, .aload_n 0, 1, (0, 0, 0)), (6, .iconst 0, 1, (0, 0, 0)), (7, .putfield 56, 3, (9, 1, 0)), (10, .aload_n 0, 1, (0, 0, 0)), (11, .iconst 0, 1, (0, 0, 0)), (12, .putfield 59, 3, (9, 2, 0)), (15, .aload_n 0, 1, (0, 0, 0)), (16, .iconst 0, 1, (0, 0, 0)), (17, .putfield 62, 3, (9, 3, 0)), (20, .aload_n 0, 1, (0, 0, 0)), (21, .iconst 0, 1, (0, 0, 0)), (22, .putfield 65, 3, (9, 4, 0)), (25, .aload_n 0, 1, (0, 0, 0)), (26, .iconst 0, 1, (0, 0, 0)), (27, .putfield 68, 3, (9, 5, 0)), (30, .aload_n 0, 1, (0, 0, 0)), (31, .iconst 0, 1, (0, 0, 0)), (32, .putfield 71, 3, (9, 6, 0))]
theorem K19_0 : zRk 19 B19_0 = true := by decide +kernel
/-- EchoVale$Valley.clear()V -/
def F19 (h : zHC) : Option zHC := some (hset (hset (hset (hset (hset (hset (hset h 576 1 0 0) 577 1 0 0) 578 1 0 0) 579 1 0 0) 580 1 0 0) 581 1 0 0) 582 1 0 0)
set_option maxRecDepth 100000 in
theorem S19 {spec : zRn zH2} {hm : zHM} {o : Int → Int} {d : Nat} (hd : 1 ≤ d) (h : zHC) (v : zHC) (e : F19 h = some v) : zRu2 spec d 19 [(19, 1)] (h, hm, o) none (v, hm, o) := by
  refine zF_in (D := 0) (mx := 1) (L := [some (19, 1)]) (by decide +kernel) rfl rfl hd (fun d hd => ?_)
  unfold F19 at e
  refine zF_blk (m := []) (d := 0) (b := B19_0) (gs := []) (c' := (35, [some (19, 1)], [], ((hset (hset (hset (hset (hset (hset (hset h 576 1 0 0) 577 1 0 0) 578 1 0 0) 579 1 0 0) 580 1 0 0) 581 1 0 0) 582 1 0 0), hm, o))) K19_0 rfl trivial ?_
  cases e
  exact zF_rv (by decide +kernel)
def B23_0 : List zRow := [(16, .iconst 0, 1, (0, 0, 0))]
theorem K23_0 : zRk 23 B23_0 = true := by decide +kernel
def B23_1 : List zRow := [(6, .iload_n 0, 1, (0, 0, 0)), (7, .bipush 10, 2, (0, 0, 0)), (9, .if_icmp .ne 7, 3, (0, 0, 0))]
theorem K23_1 : zRk 23 B23_1 = true := by decide +kernel
def B23_2 : List zRow := [(0, .iload_n 0, 1, (0, 0, 0)), (1, .bipush 32, 2, (0, 0, 0)), (3, .if_icmp .eq 9, 3, (0, 0, 0))]
theorem K23_2 : zRk 23 B23_2 = true := by decide +kernel
def B23_3 : List zRow := [(12, .iconst 1, 1, (0, 0, 0)), (13, .goto 4, 3, (0, 0, 0))]
theorem K23_3 : zRk 23 B23_3 = true := by decide +kernel
def F23_0 : Option Int := some 1
set_option maxRecDepth 100000 in
theorem T23_0 {spec : zRn zH2} {hm : zHM} {o : Int → Int} {d : Nat} (hd : 0 ≤ d) (h : zHC) (v : Int) (e : F23_0 = some v) : zFin 0 (fun _ => 0) (zRu2 spec d) 23 (some (0, v)) (h, hm, o) (12, [none], [], (h, hm, o)) := by
  unfold F23_0 at e
  refine zF_blk (m := []) (d := 0) (b := B23_3) (gs := []) (c' := (17, [none], [(0, 1)], (h, hm, o))) K23_3 rfl trivial ?_
  cases e
  exact zF_rb (by decide +kernel) (Or.inr rfl)
/-- EchoVale$Reader.isBlank(I)Z -/
def F23 (v0 : Int) : Option Int := if v0 = 32 then F23_0 else if ¬ v0 = 10 then some 0 else F23_0
set_option maxRecDepth 100000 in
theorem S23 {spec : zRn zH2} {hm : zHM} {o : Int → Int} {d : Nat} (hd : 1 ≤ d) (v0 : Int) (h : zHC) (v : Int) (e : F23 v0 = some v) : zRu2 spec d 23 [(0, v0)] (h, hm, o) (some (0, v)) (h, hm, o) := by
  refine zF_in (D := 0) (mx := 1) (L := [some (0, v0)]) (by decide +kernel) rfl rfl hd (fun d hd => ?_)
  unfold F23 at e
  rcases zI_s e with ⟨q1, e⟩ | ⟨q1, e⟩
  · refine zF_blk (m := []) (d := 1) (b := B23_2) (gs := [v0 = 32]) (c' := (12, [some (0, v0)], [], (h, hm, o))) K23_2 rfl ⟨q1, trivial⟩ ?_
    refine zF_blk (m := [false]) (d := 0) (b := []) (gs := []) (c' := (12, [none], [], (h, hm, o))) rfl rfl trivial ?_
    exact T23_0 hd h _ e
  · refine zF_blk (m := []) (d := 0) (b := B23_2) (gs := [¬ (v0 = 32)]) (c' := (6, [some (0, v0)], [], (h, hm, o))) K23_2 rfl ⟨q1, trivial⟩ ?_
    rcases zI_s e with ⟨q2, e⟩ | ⟨q2, e⟩
    · refine zF_blk (m := []) (d := 1) (b := B23_1) (gs := [¬ v0 = 10]) (c' := (16, [some (0, v0)], [], (h, hm, o))) K23_1 rfl ⟨q2, trivial⟩ ?_
      refine zF_blk (m := []) (d := 0) (b := B23_0) (gs := []) (c' := (17, [some (0, v0)], [(0, 0)], (h, hm, o))) K23_0 rfl trivial ?_
      cases e
      exact zF_rb (by decide +kernel) (Or.inl rfl)
    · refine zF_blk (m := []) (d := 0) (b := B23_1) (gs := [¬ (¬ v0 = 10)]) (c' := (12, [some (0, v0)], [], (h, hm, o))) K23_1 rfl ⟨q2, trivial⟩ ?_
      refine zF_blk (m := [false]) (d := 0) (b := []) (gs := []) (c' := (12, [none], [], (h, hm, o))) rfl rfl trivial ?_
      exact T23_0 hd h _ e
def B24_0 : List zRow := [(16, .iconst 0, 1, (0, 0, 0))]
theorem K24_0 : zRk 24 B24_0 = true := by decide +kernel
def B24_1 : List zRow := [(12, .iconst 1, 1, (0, 0, 0)), (13, .goto 4, 3, (0, 0, 0))]
theorem K24_1 : zRk 24 B24_1 = true := by decide +kernel
def B24_2 : List zRow := [(6, .iload_n 0, 1, (0, 0, 0)), (7, .bipush 122, 2, (0, 0, 0)), (9, .if_icmp .gt 7, 3, (0, 0, 0))]
theorem K24_2 : zRk 24 B24_2 = true := by decide +kernel
def B24_3 : List zRow := [(0, .iload_n 0, 1, (0, 0, 0)), (1, .bipush 97, 2, (0, 0, 0)), (3, .if_icmp .lt 13, 3, (0, 0, 0))]
theorem K24_3 : zRk 24 B24_3 = true := by decide +kernel
/-- EchoVale$Reader.isLetter(I)Z -/
def F24 (v0 : Int) : Option Int := if v0 < 97 then some 0 else if 122 < v0 then some 0 else some 1
set_option maxRecDepth 100000 in
theorem S24 {spec : zRn zH2} {hm : zHM} {o : Int → Int} {d : Nat} (hd : 1 ≤ d) (v0 : Int) (h : zHC) (v : Int) (e : F24 v0 = some v) : zRu2 spec d 24 [(0, v0)] (h, hm, o) (some (0, v)) (h, hm, o) := by
  refine zF_in (D := 0) (mx := 1) (L := [some (0, v0)]) (by decide +kernel) rfl rfl hd (fun d hd => ?_)
  unfold F24 at e
  rcases zI_s e with ⟨q1, e⟩ | ⟨q1, e⟩
  · refine zF_blk (m := []) (d := 1) (b := B24_3) (gs := [v0 < 97]) (c' := (16, [some (0, v0)], [], (h, hm, o))) K24_3 rfl ⟨q1, trivial⟩ ?_
    refine zF_blk (m := []) (d := 0) (b := B24_0) (gs := []) (c' := (17, [some (0, v0)], [(0, 0)], (h, hm, o))) K24_0 rfl trivial ?_
    cases e
    exact zF_rb (by decide +kernel) (Or.inl rfl)
  · refine zF_blk (m := []) (d := 0) (b := B24_3) (gs := [¬ (v0 < 97)]) (c' := (6, [some (0, v0)], [], (h, hm, o))) K24_3 rfl ⟨q1, trivial⟩ ?_
    rcases zI_s e with ⟨q2, e⟩ | ⟨q2, e⟩
    · refine zF_blk (m := []) (d := 1) (b := B24_2) (gs := [122 < v0]) (c' := (16, [some (0, v0)], [], (h, hm, o))) K24_2 rfl ⟨q2, trivial⟩ ?_
      refine zF_blk (m := []) (d := 0) (b := B24_0) (gs := []) (c' := (17, [some (0, v0)], [(0, 0)], (h, hm, o))) K24_0 rfl trivial ?_
      cases e
      exact zF_rb (by decide +kernel) (Or.inl rfl)
    · refine zF_blk (m := []) (d := 0) (b := B24_2) (gs := [¬ (122 < v0)]) (c' := (12, [some (0, v0)], [], (h, hm, o))) K24_2 rfl ⟨q2, trivial⟩ ?_
      refine zF_blk (m := []) (d := 0) (b := B24_1) (gs := []) (c' := (17, [some (0, v0)], [(0, 1)], (h, hm, o))) K24_1 rfl trivial ?_
      cases e
      exact zF_rb (by decide +kernel) (Or.inr rfl)
def B25_0 : List zRow := [(16, .iconst 0, 1, (0, 0, 0))]
theorem K25_0 : zRk 25 B25_0 = true := by decide +kernel
def B25_1 : List zRow := [(12, .iconst 1, 1, (0, 0, 0)), (13, .goto 4, 3, (0, 0, 0))]
theorem K25_1 : zRk 25 B25_1 = true := by decide +kernel
def B25_2 : List zRow := [(6, .iload_n 0, 1, (0, 0, 0)), (7, .bipush 57, 2, (0, 0, 0)), (9, .if_icmp .gt 7, 3, (0, 0, 0))]
theorem K25_2 : zRk 25 B25_2 = true := by decide +kernel
def B25_3 : List zRow := [(0, .iload_n 0, 1, (0, 0, 0)), (1, .bipush 48, 2, (0, 0, 0)), (3, .if_icmp .lt 13, 3, (0, 0, 0))]
theorem K25_3 : zRk 25 B25_3 = true := by decide +kernel
/-- EchoVale$Reader.isDigit(I)Z -/
def F25 (v0 : Int) : Option Int := if v0 < 48 then some 0 else if 57 < v0 then some 0 else some 1
set_option maxRecDepth 100000 in
theorem S25 {spec : zRn zH2} {hm : zHM} {o : Int → Int} {d : Nat} (hd : 1 ≤ d) (v0 : Int) (h : zHC) (v : Int) (e : F25 v0 = some v) : zRu2 spec d 25 [(0, v0)] (h, hm, o) (some (0, v)) (h, hm, o) := by
  refine zF_in (D := 0) (mx := 1) (L := [some (0, v0)]) (by decide +kernel) rfl rfl hd (fun d hd => ?_)
  unfold F25 at e
  rcases zI_s e with ⟨q1, e⟩ | ⟨q1, e⟩
  · refine zF_blk (m := []) (d := 1) (b := B25_3) (gs := [v0 < 48]) (c' := (16, [some (0, v0)], [], (h, hm, o))) K25_3 rfl ⟨q1, trivial⟩ ?_
    refine zF_blk (m := []) (d := 0) (b := B25_0) (gs := []) (c' := (17, [some (0, v0)], [(0, 0)], (h, hm, o))) K25_0 rfl trivial ?_
    cases e
    exact zF_rb (by decide +kernel) (Or.inl rfl)
  · refine zF_blk (m := []) (d := 0) (b := B25_3) (gs := [¬ (v0 < 48)]) (c' := (6, [some (0, v0)], [], (h, hm, o))) K25_3 rfl ⟨q1, trivial⟩ ?_
    rcases zI_s e with ⟨q2, e⟩ | ⟨q2, e⟩
    · refine zF_blk (m := []) (d := 1) (b := B25_2) (gs := [57 < v0]) (c' := (16, [some (0, v0)], [], (h, hm, o))) K25_2 rfl ⟨q2, trivial⟩ ?_
      refine zF_blk (m := []) (d := 0) (b := B25_0) (gs := []) (c' := (17, [some (0, v0)], [(0, 0)], (h, hm, o))) K25_0 rfl trivial ?_
      cases e
      exact zF_rb (by decide +kernel) (Or.inl rfl)
    · refine zF_blk (m := []) (d := 0) (b := B25_2) (gs := [¬ (57 < v0)]) (c' := (12, [some (0, v0)], [], (h, hm, o))) K25_2 rfl ⟨q2, trivial⟩ ?_
      refine zF_blk (m := []) (d := 0) (b := B25_1) (gs := []) (c' := (17, [some (0, v0)], [(0, 1)], (h, hm, o))) K25_1 rfl trivial ?_
      cases e
      exact zF_rb (by decide +kernel) (Or.inr rfl)
def B28_0 : List zRow := [(40, .iconst 0, 1, (0, 0, 0))]
theorem K28_0 : zRk 28 B28_0 = true := by decide +kernel
def B28_1 : List zRow := [(30, .iload_n 0, 1, (0, 0, 0)), (31, .bipush 41, 2, (0, 0, 0)), (33, .if_icmp .ne 7, 3, (0, 0, 0))]
theorem K28_1 : zRk 28 B28_1 = true := by decide +kernel
def B28_2 : List zRow := [(24, .iload_n 0, 1, (0, 0, 0)), (25, .bipush 40, 2, (0, 0, 0)), (27, .if_icmp .eq 9, 3, (0, 0, 0))]
theorem K28_2 : zRk 28 B28_2 = true := by decide +kernel
def B28_3 : List zRow := [(18, .iload_n 0, 1, (0, 0, 0)), (19, .bipush 62, 2, (0, 0, 0)), (21, .if_icmp .eq 15, 3, (0, 0, 0))]
theorem K28_3 : zRk 28 B28_3 = true := by decide +kernel
def B28_4 : List zRow := [(12, .iload_n 0, 1, (0, 0, 0)), (13, .bipush 61, 2, (0, 0, 0)), (15, .if_icmp .eq 21, 3, (0, 0, 0))]
theorem K28_4 : zRk 28 B28_4 = true := by decide +kernel
def B28_5 : List zRow := [(6, .iload_n 0, 1, (0, 0, 0)), (7, .bipush 60, 2, (0, 0, 0)), (9, .if_icmp .eq 27, 3, (0, 0, 0))]
theorem K28_5 : zRk 28 B28_5 = true := by decide +kernel
def B28_6 : List zRow := [(0, .iload_n 0, 1, (0, 0, 0)), (1, .bipush 59, 2, (0, 0, 0)), (3, .if_icmp .eq 33, 3, (0, 0, 0))]
theorem K28_6 : zRk 28 B28_6 = true := by decide +kernel
def B28_7 : List zRow := [(36, .iconst 1, 1, (0, 0, 0)), (37, .goto 4, 3, (0, 0, 0))]
theorem K28_7 : zRk 28 B28_7 = true := by decide +kernel
def F28_0 : Option Int := some 1
set_option maxRecDepth 100000 in
theorem T28_0 {spec : zRn zH2} {hm : zHM} {o : Int → Int} {d : Nat} (hd : 0 ≤ d) (h : zHC) (v : Int) (e : F28_0 = some v) : zFin 0 (fun _ => 0) (zRu2 spec d) 28 (some (0, v)) (h, hm, o) (36, [none], [], (h, hm, o)) := by
  unfold F28_0 at e
  refine zF_blk (m := []) (d := 0) (b := B28_7) (gs := []) (c' := (41, [none], [(0, 1)], (h, hm, o))) K28_7 rfl trivial ?_
  cases e
  exact zF_rb (by decide +kernel) (Or.inr rfl)
/-- EchoVale$Reader.isMark(I)Z -/
def F28 (v0 : Int) : Option Int := if v0 = 59 then F28_0 else if v0 = 60 then F28_0 else if v0 = 61 then F28_0 else if v0 = 62 then F28_0 else if v0 = 40 then F28_0 else if ¬ v0 = 41 then some 0 else F28_0
set_option maxRecDepth 100000 in
theorem S28 {spec : zRn zH2} {hm : zHM} {o : Int → Int} {d : Nat} (hd : 1 ≤ d) (v0 : Int) (h : zHC) (v : Int) (e : F28 v0 = some v) : zRu2 spec d 28 [(0, v0)] (h, hm, o) (some (0, v)) (h, hm, o) := by
  refine zF_in (D := 0) (mx := 1) (L := [some (0, v0)]) (by decide +kernel) rfl rfl hd (fun d hd => ?_)
  unfold F28 at e
  rcases zI_s e with ⟨q1, e⟩ | ⟨q1, e⟩
  · refine zF_blk (m := []) (d := 1) (b := B28_6) (gs := [v0 = 59]) (c' := (36, [some (0, v0)], [], (h, hm, o))) K28_6 rfl ⟨q1, trivial⟩ ?_
    refine zF_blk (m := [false]) (d := 0) (b := []) (gs := []) (c' := (36, [none], [], (h, hm, o))) rfl rfl trivial ?_
    exact T28_0 hd h _ e
  · refine zF_blk (m := []) (d := 0) (b := B28_6) (gs := [¬ (v0 = 59)]) (c' := (6, [some (0, v0)], [], (h, hm, o))) K28_6 rfl ⟨q1, trivial⟩ ?_
    rcases zI_s e with ⟨q2, e⟩ | ⟨q2, e⟩
    · refine zF_blk (m := []) (d := 1) (b := B28_5) (gs := [v0 = 60]) (c' := (36, [some (0, v0)], [], (h, hm, o))) K28_5 rfl ⟨q2, trivial⟩ ?_
      refine zF_blk (m := [false]) (d := 0) (b := []) (gs := []) (c' := (36, [none], [], (h, hm, o))) rfl rfl trivial ?_
      exact T28_0 hd h _ e
    · refine zF_blk (m := []) (d := 0) (b := B28_5) (gs := [¬ (v0 = 60)]) (c' := (12, [some (0, v0)], [], (h, hm, o))) K28_5 rfl ⟨q2, trivial⟩ ?_
      rcases zI_s e with ⟨q3, e⟩ | ⟨q3, e⟩
      · refine zF_blk (m := []) (d := 1) (b := B28_4) (gs := [v0 = 61]) (c' := (36, [some (0, v0)], [], (h, hm, o))) K28_4 rfl ⟨q3, trivial⟩ ?_
        refine zF_blk (m := [false]) (d := 0) (b := []) (gs := []) (c' := (36, [none], [], (h, hm, o))) rfl rfl trivial ?_
        exact T28_0 hd h _ e
      · refine zF_blk (m := []) (d := 0) (b := B28_4) (gs := [¬ (v0 = 61)]) (c' := (18, [some (0, v0)], [], (h, hm, o))) K28_4 rfl ⟨q3, trivial⟩ ?_
        rcases zI_s e with ⟨q4, e⟩ | ⟨q4, e⟩
        · refine zF_blk (m := []) (d := 1) (b := B28_3) (gs := [v0 = 62]) (c' := (36, [some (0, v0)], [], (h, hm, o))) K28_3 rfl ⟨q4, trivial⟩ ?_
          refine zF_blk (m := [false]) (d := 0) (b := []) (gs := []) (c' := (36, [none], [], (h, hm, o))) rfl rfl trivial ?_
          exact T28_0 hd h _ e
        · refine zF_blk (m := []) (d := 0) (b := B28_3) (gs := [¬ (v0 = 62)]) (c' := (24, [some (0, v0)], [], (h, hm, o))) K28_3 rfl ⟨q4, trivial⟩ ?_
          rcases zI_s e with ⟨q5, e⟩ | ⟨q5, e⟩
          · refine zF_blk (m := []) (d := 1) (b := B28_2) (gs := [v0 = 40]) (c' := (36, [some (0, v0)], [], (h, hm, o))) K28_2 rfl ⟨q5, trivial⟩ ?_
            refine zF_blk (m := [false]) (d := 0) (b := []) (gs := []) (c' := (36, [none], [], (h, hm, o))) rfl rfl trivial ?_
            exact T28_0 hd h _ e
          · refine zF_blk (m := []) (d := 0) (b := B28_2) (gs := [¬ (v0 = 40)]) (c' := (30, [some (0, v0)], [], (h, hm, o))) K28_2 rfl ⟨q5, trivial⟩ ?_
            rcases zI_s e with ⟨q6, e⟩ | ⟨q6, e⟩
            · refine zF_blk (m := []) (d := 1) (b := B28_1) (gs := [¬ v0 = 41]) (c' := (40, [some (0, v0)], [], (h, hm, o))) K28_1 rfl ⟨q6, trivial⟩ ?_
              refine zF_blk (m := []) (d := 0) (b := B28_0) (gs := []) (c' := (41, [some (0, v0)], [(0, 0)], (h, hm, o))) K28_0 rfl trivial ?_
              cases e
              exact zF_rb (by decide +kernel) (Or.inl rfl)
            · refine zF_blk (m := []) (d := 0) (b := B28_1) (gs := [¬ (¬ v0 = 41)]) (c' := (36, [some (0, v0)], [], (h, hm, o))) K28_1 rfl ⟨q6, trivial⟩ ?_
              refine zF_blk (m := [false]) (d := 0) (b := []) (gs := []) (c' := (36, [none], [], (h, hm, o))) rfl rfl trivial ?_
              exact T28_0 hd h _ e
def B3_0 : List zRow := [(0, .lload_n 0, 1, (0, 0, 0)), (1, .iconst 5, 1, (0, 0, 0)), (2, .lshl, 1, (0, 0, 0)), (3, .iload_n 2, 1, (0, 0, 0)), (4, .bipush 97, 2, (0, 0, 0)), (6, .isub, 1, (0, 0, 0)), (7, .iconst 1, 1, (0, 0, 0)), (8, .iadd, 1, (0, 0, 0)), (9, .i2l, 1, (0, 0, 0)), (10, .lor, 1, (0, 0, 0))]
theorem K3_0 : zRk 3 B3_0 = true := by decide +kernel
/-- EchoVale$Reader.withLetter(JI)J -/
def F3 (v0 : Int) (v2 : Int) : Option Int := some (qor (qshl v0 5) (wadd (wsub v2 97) 1))
set_option maxRecDepth 100000 in
theorem S3 {spec : zRn zH2} {hm : zHM} {o : Int → Int} {d : Nat} (hd : 1 ≤ d) (v0 : Int) (v2 : Int) (h : zHC) (v : Int) (e : F3 v0 v2 = some v) : zRu2 spec d 3 [(1, v0), (0, v2)] (h, hm, o) (some (1, v)) (h, hm, o) := by
  refine zF_in (D := 0) (mx := 3) (L := [some (1, v0), none, some (0, v2)]) (by decide +kernel) rfl rfl hd (fun d hd => ?_)
  unfold F3 at e
  refine zF_blk (m := []) (d := 0) (b := B3_0) (gs := []) (c' := (11, [some (1, v0), none, some (0, v2)], [(1, (qor (qshl v0 5) (wadd (wsub v2 97) 1)))], (h, hm, o))) K3_0 rfl trivial ?_
  cases e
  exact zF_rl (by decide +kernel)
def B27_0 : List zRow := [(0, .iconst 0, 1, (0, 0, 0)), (1, .istore_n 3, 1, (0, 0, 0))]
theorem K27_0 : zRk 27 B27_0 = true := by decide +kernel
def B27_1 : List zRow := [(27, .iconst (-1), 1, (0, 0, 0))]
theorem K27_1 : zRk 27 B27_1 = true := by decide +kernel
def B27_2 : List zRow := [(21, .iinc 3 1, 3, (0, 0, 0)), (24, .goto (-22), 3, (0, 0, 0))]
theorem K27_2 : zRk 27 B27_2 = true := by decide +kernel
def B27_3 : List zRow := [(19, .iload_n 3, 1, (0, 0, 0))]
theorem K27_3 : zRk 27 B27_3 = true := by decide +kernel
def B27_4 : List zRow := [(8, .aload_n 0, 1, (0, 0, 0)), (9, .getfield 19, 3, (5, 10, 5505110)), (12, .iload_n 3, 1, (0, 0, 0)), (13, .laload, 1, (0, 0, 0)), (14, .lload_n 1, 1, (0, 0, 0)), (15, .lcmp, 1, (0, 0, 0)), (16, .ifCond .ne 5, 3, (0, 0, 0))]
theorem K27_4 : zRk 27 B27_4 = true := by decide +kernel
def B27_5 : List zRow := [(2, .iload_n 3, 1, (0, 0, 0)), (3, .bipush 21, 2, (0, 0, 0)), (5, .if_icmp .ge 22, 3, (0, 0, 0))]
theorem K27_5 : zRk 27 B27_5 = true := by decide +kernel
def F27_0 (h : zHC) : Nat → Int → Int → Option Int
  | 0, _, _ => none
  | n + 1, v1, v3 => if 21 ≤ v3 then some (-1) else zG (0 ≤ v3 ∧ v3 < 21) (if ¬ (qcmp (h 330 0 v3) v1) = 0 then (F27_0 h n) v1 (wadd v3 1) else some v3)
set_option maxRecDepth 100000 in
theorem T27_0 {spec : zRn zH2} {hm : zHM} {o : Int → Int} {d : Nat} (hd : 0 ≤ d) (h : zHC) : ∀ (n : Nat) (v1 : Int) (v3 : Int) (v : Int), F27_0 h n v1 v3 = some v → zFin 0 (fun _ => 0) (zRu2 spec d) 27 (some (0, v)) (h, hm, o) (2, [some (15, 0), some (1, v1), none, some (0, v3)], [], (h, hm, o)) := by
  intro n
  induction n with
  | zero => intro v1 v3 v e; unfold F27_0 at e; cases e
  | succ n hk0 =>
    intro v1 v3 v e
    unfold F27_0 at e
    rcases zI_s e with ⟨q1, e⟩ | ⟨q1, e⟩
    · refine zF_blk (m := []) (d := 1) (b := B27_5) (gs := [21 ≤ v3]) (c' := (27, [some (15, 0), some (1, v1), none, some (0, v3)], [], (h, hm, o))) K27_5 rfl ⟨q1, trivial⟩ ?_
      refine zF_blk (m := []) (d := 0) (b := B27_1) (gs := []) (c' := (28, [some (15, 0), some (1, v1), none, some (0, v3)], [(0, (-1))], (h, hm, o))) K27_1 rfl trivial ?_
      cases e
      exact zF_ri (by decide +kernel)
    · refine zF_blk (m := []) (d := 0) (b := B27_5) (gs := [¬ (21 ≤ v3)]) (c' := (8, [some (15, 0), some (1, v1), none, some (0, v3)], [], (h, hm, o))) K27_5 rfl ⟨q1, trivial⟩ ?_
      obtain ⟨q2, e⟩ := zG_s e
      rcases zI_s e with ⟨q3, e⟩ | ⟨q3, e⟩
      · refine zF_blk (m := []) (d := 1) (b := B27_4) (gs := [0 ≤ v3 ∧ v3 < 21, ¬ (qcmp (h 330 0 v3) v1) = 0]) (c' := (21, [some (15, 0), some (1, v1), none, some (0, v3)], [], (h, hm, o))) K27_4 rfl ⟨q2, q3, trivial⟩ ?_
        refine zF_blk (m := []) (d := 0) (b := B27_2) (gs := []) (c' := (2, [some (15, 0), some (1, v1), none, some (0, (wadd v3 1))], [], (h, hm, o))) K27_2 rfl trivial ?_
        exact hk0 v1 (wadd v3 1) _ e
      · refine zF_blk (m := []) (d := 0) (b := B27_4) (gs := [0 ≤ v3 ∧ v3 < 21, ¬ (¬ (qcmp (h 330 0 v3) v1) = 0)]) (c' := (19, [some (15, 0), some (1, v1), none, some (0, v3)], [], (h, hm, o))) K27_4 rfl ⟨q2, q3, trivial⟩ ?_
        refine zF_blk (m := []) (d := 0) (b := B27_3) (gs := []) (c' := (20, [some (15, 0), some (1, v1), none, some (0, v3)], [(0, v3)], (h, hm, o))) K27_3 rfl trivial ?_
        cases e
        exact zF_ri (by decide +kernel)
/-- EchoVale$Reader.keywordOf(J)I -/
def F27 (v1 : Int) (h : zHC) : Option Int := F27_0 h zFu v1 0
set_option maxRecDepth 100000 in
theorem S27 {spec : zRn zH2} {hm : zHM} {o : Int → Int} {d : Nat} (hd : 1 ≤ d) (v1 : Int) (h : zHC) (v : Int) (e : F27 v1 h = some v) : zRu2 spec d 27 [(15, 0), (1, v1)] (h, hm, o) (some (0, v)) (h, hm, o) := by
  refine zF_in (D := 0) (mx := 4) (L := [some (15, 0), some (1, v1), none, none]) (by decide +kernel) rfl rfl hd (fun d hd => ?_)
  unfold F27 at e
  refine zF_blk (m := []) (d := 0) (b := B27_0) (gs := []) (c' := (2, [some (15, 0), some (1, v1), none, some (0, 0)], [], (h, hm, o))) K27_0 rfl trivial ?_
  exact T27_0 hd h zFu v1 0 _ e
def B26_0 : List zRow := [(0, .iconst 0, 1, (0, 0, 0)), (1, .istore_n 1, 1, (0, 0, 0)), (2, .iconst 0, 1, (0, 0, 0)), (3, .istore_n 2, 1, (0, 0, 0)), (4, .aload_n 0, 1, (0, 0, 0)), (5, .lconst 0, 1, (0, 0, 0)), (6, .putfield 88, 3, (5, 7, 1)), (9, .aload_n 0, 1, (0, 0, 0)), (10, .iconst 0, 1, (0, 0, 0)), (11, .putfield 82, 3, (5, 6, 0))]
theorem K26_0 : zRk 26 B26_0 = true := by decide +kernel
def B26_1 : List zRow := [(25, .aload_n 0, 1, (0, 0, 0)), (26, .getfield 9, 3, (5, 0, 5246642)), (29, .aload_n 0, 1, (0, 0, 0)), (30, .getfield 45, 3, (5, 8, 0)), (33, .iaload, 1, (0, 0, 0))]
theorem K26_1 : zRk 26 B26_1 = true := by decide +kernel
def B26_2 : List zRow := [(40, .aload_n 0, 1, (0, 0, 0)), (41, .getfield 9, 3, (5, 0, 5246642)), (44, .aload_n 0, 1, (0, 0, 0)), (45, .getfield 45, 3, (5, 8, 0)), (48, .iaload, 1, (0, 0, 0))]
theorem K26_2 : zRk 26 B26_2 = true := by decide +kernel
def B26_3 : List zRow := [(52, .ifCond .eq 103, 3, (0, 0, 0))]
theorem K26_3 : zRk 26 B26_3 = true := by decide +kernel
def B26_4 : List zRow := [(37, .ifCond .ne 18, 3, (0, 0, 0))]
theorem K26_4 : zRk 26 B26_4 = true := by decide +kernel
def B26_5 : List zRow := [(14, .aload_n 0, 1, (0, 0, 0)), (15, .getfield 45, 3, (5, 8, 0)), (18, .aload_n 0, 1, (0, 0, 0)), (19, .getfield 39, 3, (5, 1, 0)), (22, .if_icmp .ge 133, 3, (0, 0, 0))]
theorem K26_5 : zRk 26 B26_5 = true := by decide +kernel
def B26_6 : List zRow := [(55, .aload_n 0, 1, (0, 0, 0)), (56, .getfield 9, 3, (5, 0, 5246642)), (59, .aload_n 0, 1, (0, 0, 0)), (60, .getfield 45, 3, (5, 8, 0)), (63, .iaload, 1, (0, 0, 0))]
theorem K26_6 : zRk 26 B26_6 = true := by decide +kernel
def B26_7 : List zRow := [(138, .iconst 0, 1, (0, 0, 0))]
theorem K26_7 : zRk 26 B26_7 = true := by decide +kernel
def B26_8 : List zRow := [(115, .aload_n 0, 1, (0, 0, 0)), (116, .getfield 82, 3, (5, 6, 0)), (119, .bipush 10, 2, (0, 0, 0)), (121, .imul, 1, (0, 0, 0)), (122, .aload_n 0, 1, (0, 0, 0)), (123, .getfield 9, 3, (5, 0, 5246642)), (126, .aload_n 0, 1, (0, 0, 0)), (127, .getfield 45, 3, (5, 8, 0)), (130, .iaload, 1, (0, 0, 0)), (131, .iadd, 1, (0, 0, 0)), (132, .bipush 48, 2, (0, 0, 0)), (134, .isub, 1, (0, 0, 0)), (135, .goto 4, 3, (0, 0, 0))]
theorem K26_8 : zRk 26 B26_8 = true := by decide +kernel
def B26_9 : List zRow := [(106, .iinc 2 1, 3, (0, 0, 0)), (109, .aload_n 0, 1, (0, 0, 0)), (110, .iload_n 2, 1, (0, 0, 0)), (111, .iconst 3, 1, (0, 0, 0)), (112, .if_icmp .gt 26, 3, (0, 0, 0))]
theorem K26_9 : zRk 26 B26_9 = true := by decide +kernel
def B26_10 : List zRow := [(99, .lconst 0, 1, (0, 0, 0))]
theorem K26_10 : zRk 26 B26_10 = true := by decide +kernel
def B26_11 : List zRow := [(80, .aload_n 0, 1, (0, 0, 0)), (81, .getfield 88, 3, (5, 7, 1)), (84, .aload_n 0, 1, (0, 0, 0)), (85, .getfield 9, 3, (5, 0, 5246642)), (88, .aload_n 0, 1, (0, 0, 0)), (89, .getfield 45, 3, (5, 8, 0)), (92, .iaload, 1, (0, 0, 0))]
theorem K26_11 : zRk 26 B26_11 = true := by decide +kernel
def B26_12 : List zRow := [(96, .goto 4, 3, (0, 0, 0))]
theorem K26_12 : zRk 26 B26_12 = true := by decide +kernel
def B26_13 : List zRow := [(70, .iinc 1 1, 3, (0, 0, 0)), (73, .aload_n 0, 1, (0, 0, 0)), (74, .iload_n 1, 1, (0, 0, 0)), (75, .bipush 7, 2, (0, 0, 0)), (77, .if_icmp .gt 22, 3, (0, 0, 0))]
theorem K26_13 : zRk 26 B26_13 = true := by decide +kernel
def B26_14 : List zRow := [(67, .ifCond .eq 39, 3, (0, 0, 0))]
theorem K26_14 : zRk 26 B26_14 = true := by decide +kernel
def B26_15 : List zRow := [(100, .putfield 88, 3, (5, 7, 1)), (103, .goto 39, 3, (0, 0, 0))]
theorem K26_15 : zRk 26 B26_15 = true := by decide +kernel
def B26_16 : List zRow := [(142, .aload_n 0, 1, (0, 0, 0)), (143, .dup, 1, (0, 0, 0)), (144, .getfield 45, 3, (5, 8, 0)), (147, .iconst 1, 1, (0, 0, 0)), (148, .iadd, 1, (0, 0, 0)), (149, .putfield 45, 3, (5, 8, 0)), (152, .goto (-138), 3, (0, 0, 0))]
theorem K26_16 : zRk 26 B26_16 = true := by decide +kernel
def B26_17 : List zRow := [(139, .putfield 82, 3, (5, 6, 0))]
theorem K26_17 : zRk 26 B26_17 = true := by decide +kernel
def B26_18 : List zRow := [(165, .aload_n 0, 1, (0, 0, 0)), (166, .aload_n 0, 1, (0, 0, 0)), (167, .aload_n 0, 1, (0, 0, 0)), (168, .getfield 88, 3, (5, 7, 1))]
theorem K26_18 : zRk 26 B26_18 = true := by decide +kernel
def B26_19 : List zRow := [(190, .iconst 3, 1, (0, 0, 0))]
theorem K26_19 : zRk 26 B26_19 = true := by decide +kernel
def B26_20 : List zRow := [(186, .iconst 2, 1, (0, 0, 0)), (187, .goto 4, 3, (0, 0, 0))]
theorem K26_20 : zRk 26 B26_20 = true := by decide +kernel
def B26_21 : List zRow := [(174, .putfield 82, 3, (5, 6, 0)), (177, .aload_n 0, 1, (0, 0, 0)), (178, .aload_n 0, 1, (0, 0, 0)), (179, .getfield 82, 3, (5, 6, 0)), (182, .iconst (-1), 1, (0, 0, 0)), (183, .if_icmp .ne 7, 3, (0, 0, 0))]
theorem K26_21 : zRk 26 B26_21 = true := by decide +kernel
def B26_22 : List zRow := [(159, .iload_n 1, 1, (0, 0, 0)), (160, .bipush 7, 2, (0, 0, 0)), (162, .if_icmp .gt 35, 3, (0, 0, 0))]
theorem K26_22 : zRk 26 B26_22 = true := by decide +kernel
def B26_23 : List zRow := [(155, .iload_n 2, 1, (0, 0, 0)), (156, .ifCond .ne 41, 3, (0, 0, 0))]
theorem K26_23 : zRk 26 B26_23 = true := by decide +kernel
def B26_24 : List zRow := [(191, .putfield 70, 3, (5, 4, 0)), (194, .goto 21, 3, (0, 0, 0))]
theorem K26_24 : zRk 26 B26_24 = true := by decide +kernel
def B26_25 : List zRow := [(207, .iconst 4, 1, (0, 0, 0)), (208, .goto 4, 3, (0, 0, 0))]
theorem K26_25 : zRk 26 B26_25 = true := by decide +kernel
def B26_26 : List zRow := [(202, .iload_n 2, 1, (0, 0, 0)), (203, .iconst 3, 1, (0, 0, 0)), (204, .if_icmp .gt 7, 3, (0, 0, 0))]
theorem K26_26 : zRk 26 B26_26 = true := by decide +kernel
def B26_27 : List zRow := [(197, .aload_n 0, 1, (0, 0, 0)), (198, .iload_n 1, 1, (0, 0, 0)), (199, .ifCond .ne 12, 3, (0, 0, 0))]
theorem K26_27 : zRk 26 B26_27 = true := by decide +kernel
def B26_28 : List zRow := [(212, .putfield 70, 3, (5, 4, 0))]
theorem K26_28 : zRk 26 B26_28 = true := by decide +kernel
def B26_29 : List zRow := [(211, .iconst 1, 1, (0, 0, 0))]
theorem K26_29 : zRk 26 B26_29 = true := by decide +kernel
def F26_9 (s0 : Int) (h : zHC) : Option zHC := some (hset h 324 0 0 s0)
set_option maxRecDepth 100000 in
theorem T26_9 {spec : zRn zH2} {hm : zHM} {o : Int → Int} {d : Nat} (hd : 1 ≤ d) (s0 : Int) (h : zHC) (v : zHC) (e : F26_9 s0 h = some v) : zFin 0 (fun _ => 0) (zRu2 spec d) 26 none (v, hm, o) (212, [none, none, none], [(0, s0), (15, 0)], (h, hm, o)) := by
  unfold F26_9 at e
  refine zF_blk (m := []) (d := 0) (b := B26_28) (gs := []) (c' := (215, [none, none, none], [], ((hset h 324 0 0 s0), hm, o))) K26_28 rfl trivial ?_
  cases e
  exact zF_rv (by decide +kernel)
def F26_8 (h : zHC) : Option zHC := F26_9 1 h
set_option maxRecDepth 100000 in
theorem T26_8 {spec : zRn zH2} {hm : zHM} {o : Int → Int} {d : Nat} (hd : 1 ≤ d) (h : zHC) (v : zHC) (e : F26_8 h = some v) : zFin 0 (fun _ => 0) (zRu2 spec d) 26 none (v, hm, o) (211, [none, none, none], [(15, 0)], (h, hm, o)) := by
  unfold F26_8 at e
  refine zF_blk (m := []) (d := 0) (b := B26_29) (gs := []) (c' := (212, [none, none, none], [(0, 1), (15, 0)], (h, hm, o))) K26_29 rfl trivial ?_
  exact T26_9 hd 1 h _ e
def F26_6 (v1 : Int) (v2 : Int) (h : zHC) : Option zHC := if ¬ v1 = 0 then F26_8 h else if 3 < v2 then F26_8 h else F26_9 4 h
set_option maxRecDepth 100000 in
theorem T26_6 {spec : zRn zH2} {hm : zHM} {o : Int → Int} {d : Nat} (hd : 1 ≤ d) (v1 : Int) (v2 : Int) (h : zHC) (v : zHC) (e : F26_6 v1 v2 h = some v) : zFin 0 (fun _ => 0) (zRu2 spec d) 26 none (v, hm, o) (197, [some (15, 0), some (0, v1), some (0, v2)], [], (h, hm, o)) := by
  unfold F26_6 at e
  rcases zI_s e with ⟨q1, e⟩ | ⟨q1, e⟩
  · refine zF_blk (m := []) (d := 1) (b := B26_27) (gs := [¬ v1 = 0]) (c' := (211, [some (15, 0), some (0, v1), some (0, v2)], [(15, 0)], (h, hm, o))) K26_27 rfl ⟨q1, trivial⟩ ?_
    refine zF_blk (m := [false, false, false]) (d := 0) (b := []) (gs := []) (c' := (211, [none, none, none], [(15, 0)], (h, hm, o))) rfl rfl trivial ?_
    exact T26_8 hd h _ e
  · refine zF_blk (m := []) (d := 0) (b := B26_27) (gs := [¬ (¬ v1 = 0)]) (c' := (202, [some (15, 0), some (0, v1), some (0, v2)], [(15, 0)], (h, hm, o))) K26_27 rfl ⟨q1, trivial⟩ ?_
    rcases zI_s e with ⟨q2, e⟩ | ⟨q2, e⟩
    · refine zF_blk (m := []) (d := 1) (b := B26_26) (gs := [3 < v2]) (c' := (211, [some (15, 0), some (0, v1), some (0, v2)], [(15, 0)], (h, hm, o))) K26_26 rfl ⟨q2, trivial⟩ ?_
      refine zF_blk (m := [false, false, false]) (d := 0) (b := []) (gs := []) (c' := (211, [none, none, none], [(15, 0)], (h, hm, o))) rfl rfl trivial ?_
      exact T26_8 hd h _ e
    · refine zF_blk (m := []) (d := 0) (b := B26_26) (gs := [¬ (3 < v2)]) (c' := (207, [some (15, 0), some (0, v1), some (0, v2)], [(15, 0)], (h, hm, o))) K26_26 rfl ⟨q2, trivial⟩ ?_
      refine zF_blk (m := []) (d := 0) (b := B26_25) (gs := []) (c' := (212, [some (15, 0), some (0, v1), some (0, v2)], [(0, 4), (15, 0)], (h, hm, o))) K26_25 rfl trivial ?_
      refine zF_blk (m := [false, false, false]) (d := 0) (b := []) (gs := []) (c' := (212, [none, none, none], [(0, 4), (15, 0)], (h, hm, o))) rfl rfl trivial ?_
      exact T26_9 hd 4 h _ e
def F26_7 (s0 : Int) (h : zHC) : Option zHC := some (hset h 324 0 0 s0)
set_option maxRecDepth 100000 in
theorem T26_7 {spec : zRn zH2} {hm : zHM} {o : Int → Int} {d : Nat} (hd : 1 ≤ d) (s0 : Int) (h : zHC) (v : zHC) (e : F26_7 s0 h = some v) : zFin 0 (fun _ => 0) (zRu2 spec d) 26 none (v, hm, o) (191, [none, none, none], [(0, s0), (15, 0)], (h, hm, o)) := by
  unfold F26_7 at e
  refine zF_blk (m := []) (d := 0) (b := B26_24) (gs := []) (c' := (215, [none, none, none], [], ((hset h 324 0 0 s0), hm, o))) K26_24 rfl trivial ?_
  cases e
  exact zF_rv (by decide +kernel)
def F26_1 (v1 : Int) (v2 : Int) (h : zHC) : Option zHC := if ¬ v2 = 0 then F26_6 v1 v2 h else if 7 < v1 then F26_6 v1 v2 h else (F27 (h 327 0 0) h).bind fun r1 => if ¬ ((hset h 326 0 0 r1) 326 0 0) = (-1) then F26_7 3 (hset h 326 0 0 r1) else F26_7 2 (hset h 326 0 0 r1)
set_option maxRecDepth 100000 in
theorem T26_1 {spec : zRn zH2} {hm : zHM} {o : Int → Int} {d : Nat} (hd : 1 ≤ d) (v1 : Int) (v2 : Int) (h : zHC) (v : zHC) (e : F26_1 v1 v2 h = some v) : zFin 0 (fun _ => 0) (zRu2 spec d) 26 none (v, hm, o) (155, [some (15, 0), some (0, v1), some (0, v2)], [], (h, hm, o)) := by
  unfold F26_1 at e
  rcases zI_s e with ⟨q1, e⟩ | ⟨q1, e⟩
  · refine zF_blk (m := []) (d := 1) (b := B26_23) (gs := [¬ v2 = 0]) (c' := (197, [some (15, 0), some (0, v1), some (0, v2)], [], (h, hm, o))) K26_23 rfl ⟨q1, trivial⟩ ?_
    exact T26_6 hd v1 v2 h _ e
  · refine zF_blk (m := []) (d := 0) (b := B26_23) (gs := [¬ (¬ v2 = 0)]) (c' := (159, [some (15, 0), some (0, v1), some (0, v2)], [], (h, hm, o))) K26_23 rfl ⟨q1, trivial⟩ ?_
    rcases zI_s e with ⟨q2, e⟩ | ⟨q2, e⟩
    · refine zF_blk (m := []) (d := 1) (b := B26_22) (gs := [7 < v1]) (c' := (197, [some (15, 0), some (0, v1), some (0, v2)], [], (h, hm, o))) K26_22 rfl ⟨q2, trivial⟩ ?_
      exact T26_6 hd v1 v2 h _ e
    · refine zF_blk (m := []) (d := 0) (b := B26_22) (gs := [¬ (7 < v1)]) (c' := (165, [some (15, 0), some (0, v1), some (0, v2)], [], (h, hm, o))) K26_22 rfl ⟨q2, trivial⟩ ?_
      obtain ⟨r1, q3, e⟩ := zB_s e
      refine zF_blk (m := []) (d := 0) (b := B26_18) (gs := []) (c' := (171, [some (15, 0), some (0, v1), some (0, v2)], [(1, (h 327 0 0)), (15, 0), (15, 0)], (h, hm, o))) K26_18 rfl trivial ?_
      refine zF_call (k := 27) (cl := 5) (n := 2) (i := .invokevirtual 92) (args := [(15, 0), (1, (h 327 0 0))]) (rest := [(15, 0)]) (g1 := (h, hm, o)) (r1 := some (0, r1)) (by decide +kernel) rfl rfl rfl (st' := [(0, r1), (15, 0)]) rfl (S27 (Nat.le_trans (by decide) hd) (h 327 0 0) h _ q3) ?_
      rcases zI_s e with ⟨q4, e⟩ | ⟨q4, e⟩
      · refine zF_blk (m := []) (d := 1) (b := B26_21) (gs := [¬ ((hset h 326 0 0 r1) 326 0 0) = (-1)]) (c' := (190, [some (15, 0), some (0, v1), some (0, v2)], [(15, 0)], ((hset h 326 0 0 r1), hm, o))) K26_21 rfl ⟨q4, trivial⟩ ?_
        refine zF_blk (m := []) (d := 0) (b := B26_19) (gs := []) (c' := (191, [some (15, 0), some (0, v1), some (0, v2)], [(0, 3), (15, 0)], ((hset h 326 0 0 r1), hm, o))) K26_19 rfl trivial ?_
        refine zF_blk (m := [false, false, false]) (d := 0) (b := []) (gs := []) (c' := (191, [none, none, none], [(0, 3), (15, 0)], ((hset h 326 0 0 r1), hm, o))) rfl rfl trivial ?_
        exact T26_7 hd 3 (hset h 326 0 0 r1) _ e
      · refine zF_blk (m := []) (d := 0) (b := B26_21) (gs := [¬ (¬ ((hset h 326 0 0 r1) 326 0 0) = (-1))]) (c' := (186, [some (15, 0), some (0, v1), some (0, v2)], [(15, 0)], ((hset h 326 0 0 r1), hm, o))) K26_21 rfl ⟨q4, trivial⟩ ?_
        refine zF_blk (m := []) (d := 0) (b := B26_20) (gs := []) (c' := (191, [some (15, 0), some (0, v1), some (0, v2)], [(0, 2), (15, 0)], ((hset h 326 0 0 r1), hm, o))) K26_20 rfl trivial ?_
        refine zF_blk (m := [false, false, false]) (d := 0) (b := []) (gs := []) (c' := (191, [none, none, none], [(0, 2), (15, 0)], ((hset h 326 0 0 r1), hm, o))) rfl rfl trivial ?_
        exact T26_7 hd 2 (hset h 326 0 0 r1) _ e
def F26_5 (k0 : Int → Int → zHC → Option zHC) (v1 : Int) (v2 : Int) (h : zHC) : Option zHC := k0 v1 v2 (hset h 328 0 0 (wadd (h 328 0 0) 1))
set_option maxRecDepth 100000 in
theorem T26_5 {spec : zRn zH2} {hm : zHM} {o : Int → Int} {d : Nat} (hd : 1 ≤ d) (k0 : Int → Int → zHC → Option zHC) (hk0 : ∀ (v1 : Int) (v2 : Int) (h : zHC) (v : zHC), k0 v1 v2 h = some v → zFin 0 (fun _ => 0) (zRu2 spec d) 26 none (v, hm, o) (14, [some (15, 0), some (0, v1), some (0, v2)], [], (h, hm, o))) (v1 : Int) (v2 : Int) (h : zHC) (v : zHC) (e : F26_5 k0 v1 v2 h = some v) : zFin 0 (fun _ => 0) (zRu2 spec d) 26 none (v, hm, o) (142, [some (15, 0), some (0, v1), some (0, v2)], [], (h, hm, o)) := by
  unfold F26_5 at e
  refine zF_blk (m := []) (d := 0) (b := B26_16) (gs := []) (c' := (14, [some (15, 0), some (0, v1), some (0, v2)], [], ((hset h 328 0 0 (wadd (h 328 0 0) 1)), hm, o))) K26_16 rfl trivial ?_
  exact hk0 v1 v2 (hset h 328 0 0 (wadd (h 328 0 0) 1)) _ e
def F26_3 (k0 : Int → Int → zHC → Option zHC) (v1 : Int) (v2 : Int) (s0 : Int) (h : zHC) : Option zHC := F26_5 k0 v1 v2 (hset h 326 0 0 s0)
set_option maxRecDepth 100000 in
theorem T26_3 {spec : zRn zH2} {hm : zHM} {o : Int → Int} {d : Nat} (hd : 1 ≤ d) (k0 : Int → Int → zHC → Option zHC) (hk0 : ∀ (v1 : Int) (v2 : Int) (h : zHC) (v : zHC), k0 v1 v2 h = some v → zFin 0 (fun _ => 0) (zRu2 spec d) 26 none (v, hm, o) (14, [some (15, 0), some (0, v1), some (0, v2)], [], (h, hm, o))) (v1 : Int) (v2 : Int) (s0 : Int) (h : zHC) (v : zHC) (e : F26_3 k0 v1 v2 s0 h = some v) : zFin 0 (fun _ => 0) (zRu2 spec d) 26 none (v, hm, o) (139, [some (15, 0), some (0, v1), some (0, v2)], [(0, s0), (15, 0)], (h, hm, o)) := by
  unfold F26_3 at e
  refine zF_blk (m := []) (d := 0) (b := B26_17) (gs := []) (c' := (142, [some (15, 0), some (0, v1), some (0, v2)], [], ((hset h 326 0 0 s0), hm, o))) K26_17 rfl trivial ?_
  exact T26_5 hd k0 hk0 v1 v2 (hset h 326 0 0 s0) _ e
def F26_4 (k0 : Int → Int → zHC → Option zHC) (v1 : Int) (v2 : Int) (s0 : Int) (h : zHC) : Option zHC := F26_5 k0 v1 v2 (hset h 327 0 0 s0)
set_option maxRecDepth 100000 in
theorem T26_4 {spec : zRn zH2} {hm : zHM} {o : Int → Int} {d : Nat} (hd : 1 ≤ d) (k0 : Int → Int → zHC → Option zHC) (hk0 : ∀ (v1 : Int) (v2 : Int) (h : zHC) (v : zHC), k0 v1 v2 h = some v → zFin 0 (fun _ => 0) (zRu2 spec d) 26 none (v, hm, o) (14, [some (15, 0), some (0, v1), some (0, v2)], [], (h, hm, o))) (v1 : Int) (v2 : Int) (s0 : Int) (h : zHC) (v : zHC) (e : F26_4 k0 v1 v2 s0 h = some v) : zFin 0 (fun _ => 0) (zRu2 spec d) 26 none (v, hm, o) (100, [some (15, 0), some (0, v1), some (0, v2)], [(1, s0), (15, 0)], (h, hm, o)) := by
  unfold F26_4 at e
  refine zF_blk (m := []) (d := 0) (b := B26_15) (gs := []) (c' := (142, [some (15, 0), some (0, v1), some (0, v2)], [], ((hset h 327 0 0 s0), hm, o))) K26_15 rfl trivial ?_
  exact T26_5 hd k0 hk0 v1 v2 (hset h 327 0 0 s0) _ e
def F26_2 (k0 : Int → Int → zHC → Option zHC) (v1 : Int) (v2 : Int) (h : zHC) : Option zHC := zG (0 ≤ (h 328 0 0) ∧ (h 328 0 0) < 940) ((F24 (h 320 0 (h 328 0 0))).bind fun r1 => if r1 = 0 then if 3 < (wadd v2 1) then F26_3 k0 v1 (wadd v2 1) 0 h else zG (0 ≤ (h 328 0 0) ∧ (h 328 0 0) < 940) (F26_3 k0 v1 (wadd v2 1) (wsub (wadd (wmul (h 326 0 0) 10) (h 320 0 (h 328 0 0))) 48) h) else if 7 < (wadd v1 1) then F26_4 k0 (wadd v1 1) v2 0 h else zG (0 ≤ (h 328 0 0) ∧ (h 328 0 0) < 940) ((F3 (h 327 0 0) (h 320 0 (h 328 0 0))).bind fun r2 => F26_4 k0 (wadd v1 1) v2 r2 h))
set_option maxRecDepth 100000 in
theorem T26_2 {spec : zRn zH2} {hm : zHM} {o : Int → Int} {d : Nat} (hd : 1 ≤ d) (k0 : Int → Int → zHC → Option zHC) (hk0 : ∀ (v1 : Int) (v2 : Int) (h : zHC) (v : zHC), k0 v1 v2 h = some v → zFin 0 (fun _ => 0) (zRu2 spec d) 26 none (v, hm, o) (14, [some (15, 0), some (0, v1), some (0, v2)], [], (h, hm, o))) (v1 : Int) (v2 : Int) (h : zHC) (v : zHC) (e : F26_2 k0 v1 v2 h = some v) : zFin 0 (fun _ => 0) (zRu2 spec d) 26 none (v, hm, o) (55, [some (15, 0), some (0, v1), some (0, v2)], [], (h, hm, o)) := by
  unfold F26_2 at e
  obtain ⟨q1, e⟩ := zG_s e
  obtain ⟨r1, q2, e⟩ := zB_s e
  refine zF_blk (m := []) (d := 0) (b := B26_6) (gs := [0 ≤ (h 328 0 0) ∧ (h 328 0 0) < 940]) (c' := (64, [some (15, 0), some (0, v1), some (0, v2)], [(0, (h 320 0 (h 328 0 0)))], (h, hm, o))) K26_6 rfl ⟨q1, trivial⟩ ?_
  refine zF_call (k := 24) (cl := 5) (n := 1) (i := .invokestatic 73) (args := [(0, (h 320 0 (h 328 0 0)))]) (rest := []) (g1 := (h, hm, o)) (r1 := some (0, r1)) (by decide +kernel) rfl rfl rfl (st' := [(0, r1)]) rfl (S24 (Nat.le_trans (by decide) hd) (h 320 0 (h 328 0 0)) h _ q2) ?_
  rcases zI_s e with ⟨q3, e⟩ | ⟨q3, e⟩
  · refine zF_blk (m := []) (d := 1) (b := B26_14) (gs := [r1 = 0]) (c' := (106, [some (15, 0), some (0, v1), some (0, v2)], [], (h, hm, o))) K26_14 rfl ⟨q3, trivial⟩ ?_
    rcases zI_s e with ⟨q4, e⟩ | ⟨q4, e⟩
    · refine zF_blk (m := []) (d := 1) (b := B26_9) (gs := [3 < (wadd v2 1)]) (c' := (138, [some (15, 0), some (0, v1), some (0, (wadd v2 1))], [(15, 0)], (h, hm, o))) K26_9 rfl ⟨q4, trivial⟩ ?_
      refine zF_blk (m := []) (d := 0) (b := B26_7) (gs := []) (c' := (139, [some (15, 0), some (0, v1), some (0, (wadd v2 1))], [(0, 0), (15, 0)], (h, hm, o))) K26_7 rfl trivial ?_
      exact T26_3 hd k0 hk0 v1 (wadd v2 1) 0 h _ e
    · refine zF_blk (m := []) (d := 0) (b := B26_9) (gs := [¬ (3 < (wadd v2 1))]) (c' := (115, [some (15, 0), some (0, v1), some (0, (wadd v2 1))], [(15, 0)], (h, hm, o))) K26_9 rfl ⟨q4, trivial⟩ ?_
      obtain ⟨q5, e⟩ := zG_s e
      refine zF_blk (m := []) (d := 0) (b := B26_8) (gs := [0 ≤ (h 328 0 0) ∧ (h 328 0 0) < 940]) (c' := (139, [some (15, 0), some (0, v1), some (0, (wadd v2 1))], [(0, (wsub (wadd (wmul (h 326 0 0) 10) (h 320 0 (h 328 0 0))) 48)), (15, 0)], (h, hm, o))) K26_8 rfl ⟨q5, trivial⟩ ?_
      exact T26_3 hd k0 hk0 v1 (wadd v2 1) (wsub (wadd (wmul (h 326 0 0) 10) (h 320 0 (h 328 0 0))) 48) h _ e
  · refine zF_blk (m := []) (d := 0) (b := B26_14) (gs := [¬ (r1 = 0)]) (c' := (70, [some (15, 0), some (0, v1), some (0, v2)], [], (h, hm, o))) K26_14 rfl ⟨q3, trivial⟩ ?_
    rcases zI_s e with ⟨q6, e⟩ | ⟨q6, e⟩
    · refine zF_blk (m := []) (d := 1) (b := B26_13) (gs := [7 < (wadd v1 1)]) (c' := (99, [some (15, 0), some (0, (wadd v1 1)), some (0, v2)], [(15, 0)], (h, hm, o))) K26_13 rfl ⟨q6, trivial⟩ ?_
      refine zF_blk (m := []) (d := 0) (b := B26_10) (gs := []) (c' := (100, [some (15, 0), some (0, (wadd v1 1)), some (0, v2)], [(1, 0), (15, 0)], (h, hm, o))) K26_10 rfl trivial ?_
      exact T26_4 hd k0 hk0 (wadd v1 1) v2 0 h _ e
    · refine zF_blk (m := []) (d := 0) (b := B26_13) (gs := [¬ (7 < (wadd v1 1))]) (c' := (80, [some (15, 0), some (0, (wadd v1 1)), some (0, v2)], [(15, 0)], (h, hm, o))) K26_13 rfl ⟨q6, trivial⟩ ?_
      obtain ⟨q7, e⟩ := zG_s e
      obtain ⟨r2, q8, e⟩ := zB_s e
      refine zF_blk (m := []) (d := 0) (b := B26_11) (gs := [0 ≤ (h 328 0 0) ∧ (h 328 0 0) < 940]) (c' := (93, [some (15, 0), some (0, (wadd v1 1)), some (0, v2)], [(0, (h 320 0 (h 328 0 0))), (1, (h 327 0 0)), (15, 0)], (h, hm, o))) K26_11 rfl ⟨q7, trivial⟩ ?_
      refine zF_call (k := 3) (cl := 5) (n := 2) (i := .invokestatic 35) (args := [(1, (h 327 0 0)), (0, (h 320 0 (h 328 0 0)))]) (rest := [(15, 0)]) (g1 := (h, hm, o)) (r1 := some (1, r2)) (by decide +kernel) rfl rfl rfl (st' := [(1, r2), (15, 0)]) rfl (S3 (Nat.le_trans (by decide) hd) (h 327 0 0) (h 320 0 (h 328 0 0)) h _ q8) ?_
      refine zF_blk (m := []) (d := 0) (b := B26_12) (gs := []) (c' := (100, [some (15, 0), some (0, (wadd v1 1)), some (0, v2)], [(1, r2), (15, 0)], (h, hm, o))) K26_12 rfl trivial ?_
      exact T26_4 hd k0 hk0 (wadd v1 1) v2 r2 h _ e
def F26_0 : Nat → Int → Int → zHC → Option zHC
  | 0, _, _, _ => none
  | n + 1, v1, v2, h => if (h 321 0 0) ≤ (h 328 0 0) then F26_1 v1 v2 h else zG (0 ≤ (h 328 0 0) ∧ (h 328 0 0) < 940) ((F24 (h 320 0 (h 328 0 0))).bind fun r1 => if ¬ r1 = 0 then F26_2 (F26_0 n) v1 v2 h else zG (0 ≤ (h 328 0 0) ∧ (h 328 0 0) < 940) ((F25 (h 320 0 (h 328 0 0))).bind fun r2 => if r2 = 0 then F26_1 v1 v2 h else F26_2 (F26_0 n) v1 v2 h))
set_option maxRecDepth 100000 in
theorem T26_0 {spec : zRn zH2} {hm : zHM} {o : Int → Int} {d : Nat} (hd : 1 ≤ d) : ∀ (n : Nat) (v1 : Int) (v2 : Int) (h : zHC) (v : zHC), F26_0 n v1 v2 h = some v → zFin 0 (fun _ => 0) (zRu2 spec d) 26 none (v, hm, o) (14, [some (15, 0), some (0, v1), some (0, v2)], [], (h, hm, o)) := by
  intro n
  induction n with
  | zero => intro v1 v2 h v e; unfold F26_0 at e; cases e
  | succ n hk0 =>
    intro v1 v2 h v e
    unfold F26_0 at e
    rcases zI_s e with ⟨q1, e⟩ | ⟨q1, e⟩
    · refine zF_blk (m := []) (d := 1) (b := B26_5) (gs := [(h 321 0 0) ≤ (h 328 0 0)]) (c' := (155, [some (15, 0), some (0, v1), some (0, v2)], [], (h, hm, o))) K26_5 rfl ⟨q1, trivial⟩ ?_
      exact T26_1 hd v1 v2 h _ e
    · refine zF_blk (m := []) (d := 0) (b := B26_5) (gs := [¬ ((h 321 0 0) ≤ (h 328 0 0))]) (c' := (25, [some (15, 0), some (0, v1), some (0, v2)], [], (h, hm, o))) K26_5 rfl ⟨q1, trivial⟩ ?_
      obtain ⟨q2, e⟩ := zG_s e
      obtain ⟨r1, q3, e⟩ := zB_s e
      refine zF_blk (m := []) (d := 0) (b := B26_1) (gs := [0 ≤ (h 328 0 0) ∧ (h 328 0 0) < 940]) (c' := (34, [some (15, 0), some (0, v1), some (0, v2)], [(0, (h 320 0 (h 328 0 0)))], (h, hm, o))) K26_1 rfl ⟨q2, trivial⟩ ?_
      refine zF_call (k := 24) (cl := 5) (n := 1) (i := .invokestatic 73) (args := [(0, (h 320 0 (h 328 0 0)))]) (rest := []) (g1 := (h, hm, o)) (r1 := some (0, r1)) (by decide +kernel) rfl rfl rfl (st' := [(0, r1)]) rfl (S24 (Nat.le_trans (by decide) hd) (h 320 0 (h 328 0 0)) h _ q3) ?_
      rcases zI_s e with ⟨q4, e⟩ | ⟨q4, e⟩
      · refine zF_blk (m := []) (d := 1) (b := B26_4) (gs := [¬ r1 = 0]) (c' := (55, [some (15, 0), some (0, v1), some (0, v2)], [], (h, hm, o))) K26_4 rfl ⟨q4, trivial⟩ ?_
        exact T26_2 hd (F26_0 n) hk0 v1 v2 h _ e
      · refine zF_blk (m := []) (d := 0) (b := B26_4) (gs := [¬ (¬ r1 = 0)]) (c' := (40, [some (15, 0), some (0, v1), some (0, v2)], [], (h, hm, o))) K26_4 rfl ⟨q4, trivial⟩ ?_
        obtain ⟨q5, e⟩ := zG_s e
        obtain ⟨r2, q6, e⟩ := zB_s e
        refine zF_blk (m := []) (d := 0) (b := B26_2) (gs := [0 ≤ (h 328 0 0) ∧ (h 328 0 0) < 940]) (c' := (49, [some (15, 0), some (0, v1), some (0, v2)], [(0, (h 320 0 (h 328 0 0)))], (h, hm, o))) K26_2 rfl ⟨q5, trivial⟩ ?_
        refine zF_call (k := 25) (cl := 5) (n := 1) (i := .invokestatic 76) (args := [(0, (h 320 0 (h 328 0 0)))]) (rest := []) (g1 := (h, hm, o)) (r1 := some (0, r2)) (by decide +kernel) rfl rfl rfl (st' := [(0, r2)]) rfl (S25 (Nat.le_trans (by decide) hd) (h 320 0 (h 328 0 0)) h _ q6) ?_
        rcases zI_s e with ⟨q7, e⟩ | ⟨q7, e⟩
        · refine zF_blk (m := []) (d := 1) (b := B26_3) (gs := [r2 = 0]) (c' := (155, [some (15, 0), some (0, v1), some (0, v2)], [], (h, hm, o))) K26_3 rfl ⟨q7, trivial⟩ ?_
          exact T26_1 hd v1 v2 h _ e
        · refine zF_blk (m := []) (d := 0) (b := B26_3) (gs := [¬ (r2 = 0)]) (c' := (55, [some (15, 0), some (0, v1), some (0, v2)], [], (h, hm, o))) K26_3 rfl ⟨q7, trivial⟩ ?_
          exact T26_2 hd (F26_0 n) hk0 v1 v2 h _ e
/-- EchoVale$Reader.readRun()V -/
def F26 (h : zHC) : Option zHC := F26_0 zFu 0 0 (hset (hset h 327 0 0 0) 326 0 0 0)
set_option maxRecDepth 100000 in
theorem S26 {spec : zRn zH2} {hm : zHM} {o : Int → Int} {d : Nat} (hd : 2 ≤ d) (h : zHC) (v : zHC) (e : F26 h = some v) : zRu2 spec d 26 [(15, 0)] (h, hm, o) none (v, hm, o) := by
  refine zF_in (D := 1) (mx := 3) (L := [some (15, 0), none, none]) (by decide +kernel) rfl rfl hd (fun d hd => ?_)
  unfold F26 at e
  refine zF_blk (m := []) (d := 0) (b := B26_0) (gs := []) (c' := (14, [some (15, 0), some (0, 0), some (0, 0)], [], ((hset (hset h 327 0 0 0) 326 0 0 0), hm, o))) K26_0 rfl trivial ?_
  exact T26_0 hd zFu 0 0 (hset (hset h 327 0 0 0) 326 0 0 0) _ e
def B21_0 : List zRow := [(0, .aload_n 0, 1, (0, 0, 0)), (1, .getfield 39, 3, (5, 1, 0)), (4, .aload_n 0, 1, (0, 0, 0)), (5, .getfield 42, 3, (5, 9, 0)), (8, .invokestatic 57, 3, (5003, 0, 0)), (11, .istore_n 1, 1, (0, 0, 0))]
theorem K21_0 : zRk 21 B21_0 = true := by decide +kernel
def B21_1 : List zRow := [(20, .aload_n 0, 1, (0, 0, 0)), (21, .getfield 9, 3, (5, 0, 5246642)), (24, .aload_n 0, 1, (0, 0, 0)), (25, .getfield 45, 3, (5, 8, 0)), (28, .iaload, 1, (0, 0, 0))]
theorem K21_1 : zRk 21 B21_1 = true := by decide +kernel
def B21_2 : List zRow := [(35, .aload_n 0, 1, (0, 0, 0)), (36, .dup, 1, (0, 0, 0)), (37, .getfield 45, 3, (5, 8, 0)), (40, .iconst 1, 1, (0, 0, 0)), (41, .iadd, 1, (0, 0, 0)), (42, .putfield 45, 3, (5, 8, 0)), (45, .goto (-33), 3, (0, 0, 0))]
theorem K21_2 : zRk 21 B21_2 = true := by decide +kernel
def B21_3 : List zRow := [(32, .ifCond .eq 16, 3, (0, 0, 0))]
theorem K21_3 : zRk 21 B21_3 = true := by decide +kernel
def B21_4 : List zRow := [(12, .aload_n 0, 1, (0, 0, 0)), (13, .getfield 45, 3, (5, 8, 0)), (16, .iload_n 1, 1, (0, 0, 0)), (17, .if_icmp .ge 31, 3, (0, 0, 0))]
theorem K21_4 : zRk 21 B21_4 = true := by decide +kernel
def B21_5 : List zRow := [(76, .aload_n 0, 1, (0, 0, 0)), (77, .getfield 9, 3, (5, 0, 5246642)), (80, .aload_n 0, 1, (0, 0, 0)), (81, .getfield 45, 3, (5, 8, 0)), (84, .iaload, 1, (0, 0, 0))]
theorem K21_5 : zRk 21 B21_5 = true := by decide +kernel
def B21_6 : List zRow := [(91, .aload_n 0, 1, (0, 0, 0)), (92, .getfield 9, 3, (5, 0, 5246642)), (95, .aload_n 0, 1, (0, 0, 0)), (96, .getfield 45, 3, (5, 8, 0)), (99, .iaload, 1, (0, 0, 0))]
theorem K21_6 : zRk 21 B21_6 = true := by decide +kernel
def B21_7 : List zRow := [(113, .aload_n 0, 1, (0, 0, 0)), (114, .aload_n 0, 1, (0, 0, 0)), (115, .getfield 9, 3, (5, 0, 5246642)), (118, .aload_n 0, 1, (0, 0, 0)), (119, .getfield 45, 3, (5, 8, 0)), (122, .iaload, 1, (0, 0, 0)), (123, .putfield 82, 3, (5, 6, 0)), (126, .aload_n 0, 1, (0, 0, 0)), (127, .aload_n 0, 1, (0, 0, 0)), (128, .getfield 82, 3, (5, 6, 0))]
theorem K21_7 : zRk 21 B21_7 = true := by decide +kernel
def B21_8 : List zRow := [(141, .iconst 1, 1, (0, 0, 0))]
theorem K21_8 : zRk 21 B21_8 = true := by decide +kernel
def B21_9 : List zRow := [(137, .iconst 5, 1, (0, 0, 0)), (138, .goto 4, 3, (0, 0, 0))]
theorem K21_9 : zRk 21 B21_9 = true := by decide +kernel
def B21_10 : List zRow := [(134, .ifCond .eq 7, 3, (0, 0, 0))]
theorem K21_10 : zRk 21 B21_10 = true := by decide +kernel
def B21_11 : List zRow := [(103, .ifCond .eq 10, 3, (0, 0, 0))]
theorem K21_11 : zRk 21 B21_11 = true := by decide +kernel
def B21_12 : List zRow := [(88, .ifCond .ne 18, 3, (0, 0, 0))]
theorem K21_12 : zRk 21 B21_12 = true := by decide +kernel
def B21_13 : List zRow := [(68, .aload_n 0, 1, (0, 0, 0)), (69, .iconst 0, 1, (0, 0, 0)), (70, .putfield 70, 3, (5, 4, 0)), (73, .goto 82, 3, (0, 0, 0))]
theorem K21_13 : zRk 21 B21_13 = true := by decide +kernel
def B21_14 : List zRow := [(48, .aload_n 0, 1, (0, 0, 0)), (49, .aload_n 0, 1, (0, 0, 0)), (50, .getfield 45, 3, (5, 8, 0)), (53, .iload_n 1, 1, (0, 0, 0)), (54, .invokestatic 57, 3, (5003, 0, 0)), (57, .putfield 67, 3, (5, 5, 0)), (60, .aload_n 0, 1, (0, 0, 0)), (61, .getfield 45, 3, (5, 8, 0)), (64, .iload_n 1, 1, (0, 0, 0)), (65, .if_icmp .lt 11, 3, (0, 0, 0))]
theorem K21_14 : zRk 21 B21_14 = true := by decide +kernel
def B21_15 : List zRow := [(142, .putfield 70, 3, (5, 4, 0)), (145, .aload_n 0, 1, (0, 0, 0)), (146, .dup, 1, (0, 0, 0)), (147, .getfield 45, 3, (5, 8, 0)), (150, .iconst 1, 1, (0, 0, 0)), (151, .iadd, 1, (0, 0, 0)), (152, .putfield 45, 3, (5, 8, 0))]
theorem K21_15 : zRk 21 B21_15 = true := by decide +kernel
def B21_16 : List zRow := [(106, .aload_n 0, 1, (0, 0, 0))]
theorem K21_16 : zRk 21 B21_16 = true := by decide +kernel
def B21_17 : List zRow := [(110, .goto 45, 3, (0, 0, 0))]
theorem K21_17 : zRk 21 B21_17 = true := by decide +kernel
def F21_2 (h : zHC) : Option zHC := (F26 h).bind fun r1 => some r1
set_option maxRecDepth 100000 in
theorem T21_2 {spec : zRn zH2} {hm : zHM} {o : Int → Int} {d : Nat} (hd : 2 ≤ d) (h : zHC) (v : zHC) (e : F21_2 h = some v) : zFin 0 (fun _ => 0) (zRu2 spec d) 21 none (v, hm, o) (106, [some (15, 0), none], [], (h, hm, o)) := by
  unfold F21_2 at e
  obtain ⟨r1, q1, e⟩ := zB_s e
  refine zF_blk (m := []) (d := 0) (b := B21_16) (gs := []) (c' := (107, [some (15, 0), none], [(15, 0)], (h, hm, o))) K21_16 rfl trivial ?_
  refine zF_call (k := 26) (cl := 5) (n := 1) (i := .invokevirtual 79) (args := [(15, 0)]) (rest := []) (g1 := (r1, hm, o)) (r1 := none) (by decide +kernel) rfl rfl rfl (st' := []) rfl (S26 (Nat.le_trans (by decide) hd)  h _ q1) ?_
  refine zF_blk (m := []) (d := 0) (b := B21_17) (gs := []) (c' := (155, [some (15, 0), none], [], (r1, hm, o))) K21_17 rfl trivial ?_
  cases e
  exact zF_rv (by decide +kernel)
def F21_3 (s0 : Int) (h : zHC) : Option zHC := some (hset (hset h 324 0 0 s0) 328 0 0 (wadd ((hset h 324 0 0 s0) 328 0 0) 1))
set_option maxRecDepth 100000 in
theorem T21_3 {spec : zRn zH2} {hm : zHM} {o : Int → Int} {d : Nat} (hd : 2 ≤ d) (s0 : Int) (h : zHC) (v : zHC) (e : F21_3 s0 h = some v) : zFin 0 (fun _ => 0) (zRu2 spec d) 21 none (v, hm, o) (142, [some (15, 0), none], [(0, s0), (15, 0)], (h, hm, o)) := by
  unfold F21_3 at e
  refine zF_blk (m := []) (d := 0) (b := B21_15) (gs := []) (c' := (155, [some (15, 0), none], [], ((hset (hset h 324 0 0 s0) 328 0 0 (wadd ((hset h 324 0 0 s0) 328 0 0) 1)), hm, o))) K21_15 rfl trivial ?_
  cases e
  exact zF_rv (by decide +kernel)
def F21_1 (v1 : Int) (h : zHC) : Option zHC := if ((hset h 325 0 0 (if v1 < (h 328 0 0) then v1 else (h 328 0 0))) 328 0 0) < v1 then zG (0 ≤ ((hset h 325 0 0 (if v1 < (h 328 0 0) then v1 else (h 328 0 0))) 328 0 0) ∧ ((hset h 325 0 0 (if v1 < (h 328 0 0) then v1 else (h 328 0 0))) 328 0 0) < 940) ((F24 ((hset h 325 0 0 (if v1 < (h 328 0 0) then v1 else (h 328 0 0))) 320 0 ((hset h 325 0 0 (if v1 < (h 328 0 0) then v1 else (h 328 0 0))) 328 0 0))).bind fun r1 => if ¬ r1 = 0 then F21_2 (hset h 325 0 0 (if v1 < (h 328 0 0) then v1 else (h 328 0 0))) else zG (0 ≤ ((hset h 325 0 0 (if v1 < (h 328 0 0) then v1 else (h 328 0 0))) 328 0 0) ∧ ((hset h 325 0 0 (if v1 < (h 328 0 0) then v1 else (h 328 0 0))) 328 0 0) < 940) ((F25 ((hset h 325 0 0 (if v1 < (h 328 0 0) then v1 else (h 328 0 0))) 320 0 ((hset h 325 0 0 (if v1 < (h 328 0 0) then v1 else (h 328 0 0))) 328 0 0))).bind fun r2 => if r2 = 0 then zG (0 ≤ ((hset h 325 0 0 (if v1 < (h 328 0 0) then v1 else (h 328 0 0))) 328 0 0) ∧ ((hset h 325 0 0 (if v1 < (h 328 0 0) then v1 else (h 328 0 0))) 328 0 0) < 940) ((F28 ((hset (hset h 325 0 0 (if v1 < (h 328 0 0) then v1 else (h 328 0 0))) 326 0 0 ((hset h 325 0 0 (if v1 < (h 328 0 0) then v1 else (h 328 0 0))) 320 0 ((hset h 325 0 0 (if v1 < (h 328 0 0) then v1 else (h 328 0 0))) 328 0 0))) 326 0 0)).bind fun r3 => if r3 = 0 then F21_3 1 (hset (hset h 325 0 0 (if v1 < (h 328 0 0) then v1 else (h 328 0 0))) 326 0 0 ((hset h 325 0 0 (if v1 < (h 328 0 0) then v1 else (h 328 0 0))) 320 0 ((hset h 325 0 0 (if v1 < (h 328 0 0) then v1 else (h 328 0 0))) 328 0 0))) else F21_3 5 (hset (hset h 325 0 0 (if v1 < (h 328 0 0) then v1 else (h 328 0 0))) 326 0 0 ((hset h 325 0 0 (if v1 < (h 328 0 0) then v1 else (h 328 0 0))) 320 0 ((hset h 325 0 0 (if v1 < (h 328 0 0) then v1 else (h 328 0 0))) 328 0 0)))) else F21_2 (hset h 325 0 0 (if v1 < (h 328 0 0) then v1 else (h 328 0 0))))) else some (hset (hset h 325 0 0 (if v1 < (h 328 0 0) then v1 else (h 328 0 0))) 324 0 0 0)
set_option maxRecDepth 100000 in
theorem T21_1 {spec : zRn zH2} {hm : zHM} {o : Int → Int} {d : Nat} (hd : 2 ≤ d) (v1 : Int) (h : zHC) (v : zHC) (e : F21_1 v1 h = some v) : zFin 0 (fun _ => 0) (zRu2 spec d) 21 none (v, hm, o) (48, [some (15, 0), some (0, v1)], [], (h, hm, o)) := by
  unfold F21_1 at e
  rcases zI_s e with ⟨q1, e⟩ | ⟨q1, e⟩
  · refine zF_blk (m := []) (d := 1) (b := B21_14) (gs := [((hset h 325 0 0 (if v1 < (h 328 0 0) then v1 else (h 328 0 0))) 328 0 0) < v1]) (c' := (76, [some (15, 0), some (0, v1)], [], ((hset h 325 0 0 (if v1 < (h 328 0 0) then v1 else (h 328 0 0))), hm, o))) K21_14 rfl ⟨q1, trivial⟩ ?_
    obtain ⟨q2, e⟩ := zG_s e
    obtain ⟨r1, q3, e⟩ := zB_s e
    refine zF_blk (m := []) (d := 0) (b := B21_5) (gs := [0 ≤ ((hset h 325 0 0 (if v1 < (h 328 0 0) then v1 else (h 328 0 0))) 328 0 0) ∧ ((hset h 325 0 0 (if v1 < (h 328 0 0) then v1 else (h 328 0 0))) 328 0 0) < 940]) (c' := (85, [some (15, 0), some (0, v1)], [(0, ((hset h 325 0 0 (if v1 < (h 328 0 0) then v1 else (h 328 0 0))) 320 0 ((hset h 325 0 0 (if v1 < (h 328 0 0) then v1 else (h 328 0 0))) 328 0 0)))], ((hset h 325 0 0 (if v1 < (h 328 0 0) then v1 else (h 328 0 0))), hm, o))) K21_5 rfl ⟨q2, trivial⟩ ?_
    refine zF_call (k := 24) (cl := 5) (n := 1) (i := .invokestatic 73) (args := [(0, ((hset h 325 0 0 (if v1 < (h 328 0 0) then v1 else (h 328 0 0))) 320 0 ((hset h 325 0 0 (if v1 < (h 328 0 0) then v1 else (h 328 0 0))) 328 0 0)))]) (rest := []) (g1 := ((hset h 325 0 0 (if v1 < (h 328 0 0) then v1 else (h 328 0 0))), hm, o)) (r1 := some (0, r1)) (by decide +kernel) rfl rfl rfl (st' := [(0, r1)]) rfl (S24 (Nat.le_trans (by decide) hd) ((hset h 325 0 0 (if v1 < (h 328 0 0) then v1 else (h 328 0 0))) 320 0 ((hset h 325 0 0 (if v1 < (h 328 0 0) then v1 else (h 328 0 0))) 328 0 0)) (hset h 325 0 0 (if v1 < (h 328 0 0) then v1 else (h 328 0 0))) _ q3) ?_
    rcases zI_s e with ⟨q4, e⟩ | ⟨q4, e⟩
    · refine zF_blk (m := []) (d := 1) (b := B21_12) (gs := [¬ r1 = 0]) (c' := (106, [some (15, 0), some (0, v1)], [], ((hset h 325 0 0 (if v1 < (h 328 0 0) then v1 else (h 328 0 0))), hm, o))) K21_12 rfl ⟨q4, trivial⟩ ?_
      refine zF_blk (m := [true, false]) (d := 0) (b := []) (gs := []) (c' := (106, [some (15, 0), none], [], ((hset h 325 0 0 (if v1 < (h 328 0 0) then v1 else (h 328 0 0))), hm, o))) rfl rfl trivial ?_
      exact T21_2 hd (hset h 325 0 0 (if v1 < (h 328 0 0) then v1 else (h 328 0 0))) _ e
    · refine zF_blk (m := []) (d := 0) (b := B21_12) (gs := [¬ (¬ r1 = 0)]) (c' := (91, [some (15, 0), some (0, v1)], [], ((hset h 325 0 0 (if v1 < (h 328 0 0) then v1 else (h 328 0 0))), hm, o))) K21_12 rfl ⟨q4, trivial⟩ ?_
      obtain ⟨q5, e⟩ := zG_s e
      obtain ⟨r2, q6, e⟩ := zB_s e
      refine zF_blk (m := []) (d := 0) (b := B21_6) (gs := [0 ≤ ((hset h 325 0 0 (if v1 < (h 328 0 0) then v1 else (h 328 0 0))) 328 0 0) ∧ ((hset h 325 0 0 (if v1 < (h 328 0 0) then v1 else (h 328 0 0))) 328 0 0) < 940]) (c' := (100, [some (15, 0), some (0, v1)], [(0, ((hset h 325 0 0 (if v1 < (h 328 0 0) then v1 else (h 328 0 0))) 320 0 ((hset h 325 0 0 (if v1 < (h 328 0 0) then v1 else (h 328 0 0))) 328 0 0)))], ((hset h 325 0 0 (if v1 < (h 328 0 0) then v1 else (h 328 0 0))), hm, o))) K21_6 rfl ⟨q5, trivial⟩ ?_
      refine zF_call (k := 25) (cl := 5) (n := 1) (i := .invokestatic 76) (args := [(0, ((hset h 325 0 0 (if v1 < (h 328 0 0) then v1 else (h 328 0 0))) 320 0 ((hset h 325 0 0 (if v1 < (h 328 0 0) then v1 else (h 328 0 0))) 328 0 0)))]) (rest := []) (g1 := ((hset h 325 0 0 (if v1 < (h 328 0 0) then v1 else (h 328 0 0))), hm, o)) (r1 := some (0, r2)) (by decide +kernel) rfl rfl rfl (st' := [(0, r2)]) rfl (S25 (Nat.le_trans (by decide) hd) ((hset h 325 0 0 (if v1 < (h 328 0 0) then v1 else (h 328 0 0))) 320 0 ((hset h 325 0 0 (if v1 < (h 328 0 0) then v1 else (h 328 0 0))) 328 0 0)) (hset h 325 0 0 (if v1 < (h 328 0 0) then v1 else (h 328 0 0))) _ q6) ?_
      rcases zI_s e with ⟨q7, e⟩ | ⟨q7, e⟩
      · refine zF_blk (m := []) (d := 1) (b := B21_11) (gs := [r2 = 0]) (c' := (113, [some (15, 0), some (0, v1)], [], ((hset h 325 0 0 (if v1 < (h 328 0 0) then v1 else (h 328 0 0))), hm, o))) K21_11 rfl ⟨q7, trivial⟩ ?_
        obtain ⟨q8, e⟩ := zG_s e
        obtain ⟨r3, q9, e⟩ := zB_s e
        refine zF_blk (m := []) (d := 0) (b := B21_7) (gs := [0 ≤ ((hset h 325 0 0 (if v1 < (h 328 0 0) then v1 else (h 328 0 0))) 328 0 0) ∧ ((hset h 325 0 0 (if v1 < (h 328 0 0) then v1 else (h 328 0 0))) 328 0 0) < 940]) (c' := (131, [some (15, 0), some (0, v1)], [(0, ((hset (hset h 325 0 0 (if v1 < (h 328 0 0) then v1 else (h 328 0 0))) 326 0 0 ((hset h 325 0 0 (if v1 < (h 328 0 0) then v1 else (h 328 0 0))) 320 0 ((hset h 325 0 0 (if v1 < (h 328 0 0) then v1 else (h 328 0 0))) 328 0 0))) 326 0 0)), (15, 0)], ((hset (hset h 325 0 0 (if v1 < (h 328 0 0) then v1 else (h 328 0 0))) 326 0 0 ((hset h 325 0 0 (if v1 < (h 328 0 0) then v1 else (h 328 0 0))) 320 0 ((hset h 325 0 0 (if v1 < (h 328 0 0) then v1 else (h 328 0 0))) 328 0 0))), hm, o))) K21_7 rfl ⟨q8, trivial⟩ ?_
        refine zF_call (k := 28) (cl := 5) (n := 1) (i := .invokestatic 85) (args := [(0, ((hset (hset h 325 0 0 (if v1 < (h 328 0 0) then v1 else (h 328 0 0))) 326 0 0 ((hset h 325 0 0 (if v1 < (h 328 0 0) then v1 else (h 328 0 0))) 320 0 ((hset h 325 0 0 (if v1 < (h 328 0 0) then v1 else (h 328 0 0))) 328 0 0))) 326 0 0))]) (rest := [(15, 0)]) (g1 := ((hset (hset h 325 0 0 (if v1 < (h 328 0 0) then v1 else (h 328 0 0))) 326 0 0 ((hset h 325 0 0 (if v1 < (h 328 0 0) then v1 else (h 328 0 0))) 320 0 ((hset h 325 0 0 (if v1 < (h 328 0 0) then v1 else (h 328 0 0))) 328 0 0))), hm, o)) (r1 := some (0, r3)) (by decide +kernel) rfl rfl rfl (st' := [(0, r3), (15, 0)]) rfl (S28 (Nat.le_trans (by decide) hd) ((hset (hset h 325 0 0 (if v1 < (h 328 0 0) then v1 else (h 328 0 0))) 326 0 0 ((hset h 325 0 0 (if v1 < (h 328 0 0) then v1 else (h 328 0 0))) 320 0 ((hset h 325 0 0 (if v1 < (h 328 0 0) then v1 else (h 328 0 0))) 328 0 0))) 326 0 0) (hset (hset h 325 0 0 (if v1 < (h 328 0 0) then v1 else (h 328 0 0))) 326 0 0 ((hset h 325 0 0 (if v1 < (h 328 0 0) then v1 else (h 328 0 0))) 320 0 ((hset h 325 0 0 (if v1 < (h 328 0 0) then v1 else (h 328 0 0))) 328 0 0))) _ q9) ?_
        rcases zI_s e with ⟨q10, e⟩ | ⟨q10, e⟩
        · refine zF_blk (m := []) (d := 1) (b := B21_10) (gs := [r3 = 0]) (c' := (141, [some (15, 0), some (0, v1)], [(15, 0)], ((hset (hset h 325 0 0 (if v1 < (h 328 0 0) then v1 else (h 328 0 0))) 326 0 0 ((hset h 325 0 0 (if v1 < (h 328 0 0) then v1 else (h 328 0 0))) 320 0 ((hset h 325 0 0 (if v1 < (h 328 0 0) then v1 else (h 328 0 0))) 328 0 0))), hm, o))) K21_10 rfl ⟨q10, trivial⟩ ?_
          refine zF_blk (m := []) (d := 0) (b := B21_8) (gs := []) (c' := (142, [some (15, 0), some (0, v1)], [(0, 1), (15, 0)], ((hset (hset h 325 0 0 (if v1 < (h 328 0 0) then v1 else (h 328 0 0))) 326 0 0 ((hset h 325 0 0 (if v1 < (h 328 0 0) then v1 else (h 328 0 0))) 320 0 ((hset h 325 0 0 (if v1 < (h 328 0 0) then v1 else (h 328 0 0))) 328 0 0))), hm, o))) K21_8 rfl trivial ?_
          refine zF_blk (m := [true, false]) (d := 0) (b := []) (gs := []) (c' := (142, [some (15, 0), none], [(0, 1), (15, 0)], ((hset (hset h 325 0 0 (if v1 < (h 328 0 0) then v1 else (h 328 0 0))) 326 0 0 ((hset h 325 0 0 (if v1 < (h 328 0 0) then v1 else (h 328 0 0))) 320 0 ((hset h 325 0 0 (if v1 < (h 328 0 0) then v1 else (h 328 0 0))) 328 0 0))), hm, o))) rfl rfl trivial ?_
          exact T21_3 hd 1 (hset (hset h 325 0 0 (if v1 < (h 328 0 0) then v1 else (h 328 0 0))) 326 0 0 ((hset h 325 0 0 (if v1 < (h 328 0 0) then v1 else (h 328 0 0))) 320 0 ((hset h 325 0 0 (if v1 < (h 328 0 0) then v1 else (h 328 0 0))) 328 0 0))) _ e
        · refine zF_blk (m := []) (d := 0) (b := B21_10) (gs := [¬ (r3 = 0)]) (c' := (137, [some (15, 0), some (0, v1)], [(15, 0)], ((hset (hset h 325 0 0 (if v1 < (h 328 0 0) then v1 else (h 328 0 0))) 326 0 0 ((hset h 325 0 0 (if v1 < (h 328 0 0) then v1 else (h 328 0 0))) 320 0 ((hset h 325 0 0 (if v1 < (h 328 0 0) then v1 else (h 328 0 0))) 328 0 0))), hm, o))) K21_10 rfl ⟨q10, trivial⟩ ?_
          refine zF_blk (m := []) (d := 0) (b := B21_9) (gs := []) (c' := (142, [some (15, 0), some (0, v1)], [(0, 5), (15, 0)], ((hset (hset h 325 0 0 (if v1 < (h 328 0 0) then v1 else (h 328 0 0))) 326 0 0 ((hset h 325 0 0 (if v1 < (h 328 0 0) then v1 else (h 328 0 0))) 320 0 ((hset h 325 0 0 (if v1 < (h 328 0 0) then v1 else (h 328 0 0))) 328 0 0))), hm, o))) K21_9 rfl trivial ?_
          refine zF_blk (m := [true, false]) (d := 0) (b := []) (gs := []) (c' := (142, [some (15, 0), none], [(0, 5), (15, 0)], ((hset (hset h 325 0 0 (if v1 < (h 328 0 0) then v1 else (h 328 0 0))) 326 0 0 ((hset h 325 0 0 (if v1 < (h 328 0 0) then v1 else (h 328 0 0))) 320 0 ((hset h 325 0 0 (if v1 < (h 328 0 0) then v1 else (h 328 0 0))) 328 0 0))), hm, o))) rfl rfl trivial ?_
          exact T21_3 hd 5 (hset (hset h 325 0 0 (if v1 < (h 328 0 0) then v1 else (h 328 0 0))) 326 0 0 ((hset h 325 0 0 (if v1 < (h 328 0 0) then v1 else (h 328 0 0))) 320 0 ((hset h 325 0 0 (if v1 < (h 328 0 0) then v1 else (h 328 0 0))) 328 0 0))) _ e
      · refine zF_blk (m := []) (d := 0) (b := B21_11) (gs := [¬ (r2 = 0)]) (c' := (106, [some (15, 0), some (0, v1)], [], ((hset h 325 0 0 (if v1 < (h 328 0 0) then v1 else (h 328 0 0))), hm, o))) K21_11 rfl ⟨q7, trivial⟩ ?_
        refine zF_blk (m := [true, false]) (d := 0) (b := []) (gs := []) (c' := (106, [some (15, 0), none], [], ((hset h 325 0 0 (if v1 < (h 328 0 0) then v1 else (h 328 0 0))), hm, o))) rfl rfl trivial ?_
        exact T21_2 hd (hset h 325 0 0 (if v1 < (h 328 0 0) then v1 else (h 328 0 0))) _ e
  · refine zF_blk (m := []) (d := 0) (b := B21_14) (gs := [¬ (((hset h 325 0 0 (if v1 < (h 328 0 0) then v1 else (h 328 0 0))) 328 0 0) < v1)]) (c' := (68, [some (15, 0), some (0, v1)], [], ((hset h 325 0 0 (if v1 < (h 328 0 0) then v1 else (h 328 0 0))), hm, o))) K21_14 rfl ⟨q1, trivial⟩ ?_
    refine zF_blk (m := []) (d := 0) (b := B21_13) (gs := []) (c' := (155, [some (15, 0), some (0, v1)], [], ((hset (hset h 325 0 0 (if v1 < (h 328 0 0) then v1 else (h 328 0 0))) 324 0 0 0), hm, o))) K21_13 rfl trivial ?_
    cases e
    exact zF_rv (by decide +kernel)
def F21_0 : Nat → Int → zHC → Option zHC
  | 0, _, _ => none
  | n + 1, v1, h => if v1 ≤ (h 328 0 0) then F21_1 v1 h else zG (0 ≤ (h 328 0 0) ∧ (h 328 0 0) < 940) ((F23 (h 320 0 (h 328 0 0))).bind fun r1 => if r1 = 0 then F21_1 v1 h else (F21_0 n) v1 (hset h 328 0 0 (wadd (h 328 0 0) 1)))
set_option maxRecDepth 100000 in
theorem T21_0 {spec : zRn zH2} {hm : zHM} {o : Int → Int} {d : Nat} (hd : 2 ≤ d) : ∀ (n : Nat) (v1 : Int) (h : zHC) (v : zHC), F21_0 n v1 h = some v → zFin 0 (fun _ => 0) (zRu2 spec d) 21 none (v, hm, o) (12, [some (15, 0), some (0, v1)], [], (h, hm, o)) := by
  intro n
  induction n with
  | zero => intro v1 h v e; unfold F21_0 at e; cases e
  | succ n hk0 =>
    intro v1 h v e
    unfold F21_0 at e
    rcases zI_s e with ⟨q1, e⟩ | ⟨q1, e⟩
    · refine zF_blk (m := []) (d := 1) (b := B21_4) (gs := [v1 ≤ (h 328 0 0)]) (c' := (48, [some (15, 0), some (0, v1)], [], (h, hm, o))) K21_4 rfl ⟨q1, trivial⟩ ?_
      exact T21_1 hd v1 h _ e
    · refine zF_blk (m := []) (d := 0) (b := B21_4) (gs := [¬ (v1 ≤ (h 328 0 0))]) (c' := (20, [some (15, 0), some (0, v1)], [], (h, hm, o))) K21_4 rfl ⟨q1, trivial⟩ ?_
      obtain ⟨q2, e⟩ := zG_s e
      obtain ⟨r1, q3, e⟩ := zB_s e
      refine zF_blk (m := []) (d := 0) (b := B21_1) (gs := [0 ≤ (h 328 0 0) ∧ (h 328 0 0) < 940]) (c' := (29, [some (15, 0), some (0, v1)], [(0, (h 320 0 (h 328 0 0)))], (h, hm, o))) K21_1 rfl ⟨q2, trivial⟩ ?_
      refine zF_call (k := 23) (cl := 5) (n := 1) (i := .invokestatic 63) (args := [(0, (h 320 0 (h 328 0 0)))]) (rest := []) (g1 := (h, hm, o)) (r1 := some (0, r1)) (by decide +kernel) rfl rfl rfl (st' := [(0, r1)]) rfl (S23 (Nat.le_trans (by decide) hd) (h 320 0 (h 328 0 0)) h _ q3) ?_
      rcases zI_s e with ⟨q4, e⟩ | ⟨q4, e⟩
      · refine zF_blk (m := []) (d := 1) (b := B21_3) (gs := [r1 = 0]) (c' := (48, [some (15, 0), some (0, v1)], [], (h, hm, o))) K21_3 rfl ⟨q4, trivial⟩ ?_
        exact T21_1 hd v1 h _ e
      · refine zF_blk (m := []) (d := 0) (b := B21_3) (gs := [¬ (r1 = 0)]) (c' := (35, [some (15, 0), some (0, v1)], [], (h, hm, o))) K21_3 rfl ⟨q4, trivial⟩ ?_
        refine zF_blk (m := []) (d := 0) (b := B21_2) (gs := []) (c' := (12, [some (15, 0), some (0, v1)], [], ((hset h 328 0 0 (wadd (h 328 0 0) 1)), hm, o))) K21_2 rfl trivial ?_
        exact hk0 v1 (hset h 328 0 0 (wadd (h 328 0 0) 1)) _ e
/-- EchoVale$Reader.step()V -/
def F21 (h : zHC) : Option zHC := F21_0 zFu (if (h 329 0 0) < (h 321 0 0) then (h 329 0 0) else (h 321 0 0)) h
set_option maxRecDepth 100000 in
theorem S21 {spec : zRn zH2} {hm : zHM} {o : Int → Int} {d : Nat} (hd : 3 ≤ d) (h : zHC) (v : zHC) (e : F21 h = some v) : zRu2 spec d 21 [(15, 0)] (h, hm, o) none (v, hm, o) := by
  refine zF_in (D := 2) (mx := 2) (L := [some (15, 0), none]) (by decide +kernel) rfl rfl hd (fun d hd => ?_)
  unfold F21 at e
  refine zF_blk (m := []) (d := 0) (b := B21_0) (gs := []) (c' := (12, [some (15, 0), some (0, (if (h 329 0 0) < (h 321 0 0) then (h 329 0 0) else (h 321 0 0)))], [], (h, hm, o))) K21_0 rfl trivial ?_
  exact T21_0 hd zFu (if (h 329 0 0) < (h 321 0 0) then (h 329 0 0) else (h 321 0 0)) h _ e
def B20_0 : List zRow := [(0, .aload_n 0, 1, (0, 0, 0)), (1, .iload_n 1, 1, (0, 0, 0)), (2, .putfield 42, 3, (5, 9, 0)), (5, .aload_n 0, 1, (0, 0, 0)), (6, .iconst 0, 1, (0, 0, 0)), (7, .putfield 45, 3, (5, 8, 0)), (10, .aload_n 0, 1, (0, 0, 0)), (11, .iconst 0, 1, (0, 0, 0)), (12, .putfield 48, 3, (5, 2, 0)), (15, .aload_n 0, 1, (0, 0, 0)), (16, .iconst 0, 1, (0, 0, 0)), (17, .putfield 51, 3, (5, 3, 0)), (20, .aload_n 0, 1, (0, 0, 0))]
theorem K20_0 : zRk 20 B20_0 = true := by decide +kernel
/-- EchoVale$Reader.open(I)V -/
def F20 (v1 : Int) (h : zHC) : Option zHC := (F21 (hset (hset (hset (hset h 329 0 0 v1) 328 0 0 0) 322 0 0 0) 323 0 0 0)).bind fun r1 => some r1
set_option maxRecDepth 100000 in
theorem S20 {spec : zRn zH2} {hm : zHM} {o : Int → Int} {d : Nat} (hd : 4 ≤ d) (v1 : Int) (h : zHC) (v : zHC) (e : F20 v1 h = some v) : zRu2 spec d 20 [(15, 0), (0, v1)] (h, hm, o) none (v, hm, o) := by
  refine zF_in (D := 3) (mx := 2) (L := [some (15, 0), some (0, v1)]) (by decide +kernel) rfl rfl hd (fun d hd => ?_)
  unfold F20 at e
  obtain ⟨r1, q1, e⟩ := zB_s e
  refine zF_blk (m := []) (d := 0) (b := B20_0) (gs := []) (c' := (21, [some (15, 0), some (0, v1)], [(15, 0)], ((hset (hset (hset (hset h 329 0 0 v1) 328 0 0 0) 322 0 0 0) 323 0 0 0), hm, o))) K20_0 rfl trivial ?_
  refine zF_call (k := 21) (cl := 5) (n := 1) (i := .invokevirtual 54) (args := [(15, 0)]) (rest := []) (g1 := (r1, hm, o)) (r1 := none) (by decide +kernel) rfl rfl rfl (st' := []) rfl (S21 (Nat.le_trans (by decide) hd)  (hset (hset (hset (hset h 329 0 0 v1) 328 0 0 0) 322 0 0 0) 323 0 0 0) _ q1) ?_
  cases e
  exact zF_rv (by decide +kernel)
def B29_0 : List zRow := [(22, .iconst 0, 1, (0, 0, 0))]
theorem K29_0 : zRk 29 B29_0 = true := by decide +kernel
def B29_1 : List zRow := [(18, .iconst 1, 1, (0, 0, 0)), (19, .goto 4, 3, (0, 0, 0))]
theorem K29_1 : zRk 29 B29_1 = true := by decide +kernel
def B29_2 : List zRow := [(7, .aload_n 0, 1, (0, 0, 0)), (8, .getfield 39, 3, (5, 1, 0)), (11, .aload_n 0, 1, (0, 0, 0)), (12, .getfield 42, 3, (5, 9, 0)), (15, .if_icmp .gt 7, 3, (0, 0, 0))]
theorem K29_2 : zRk 29 B29_2 = true := by decide +kernel
def B29_3 : List zRow := [(0, .aload_n 0, 1, (0, 0, 0)), (1, .getfield 70, 3, (5, 4, 0)), (4, .ifCond .ne 18, 3, (0, 0, 0))]
theorem K29_3 : zRk 29 B29_3 = true := by decide +kernel
/-- EchoVale$Reader.isAtEnd()Z -/
def F29 (h : zHC) : Option Int := if ¬ (h 324 0 0) = 0 then some 0 else if (h 329 0 0) < (h 321 0 0) then some 0 else some 1
set_option maxRecDepth 100000 in
theorem S29 {spec : zRn zH2} {hm : zHM} {o : Int → Int} {d : Nat} (hd : 1 ≤ d) (h : zHC) (v : Int) (e : F29 h = some v) : zRu2 spec d 29 [(15, 0)] (h, hm, o) (some (0, v)) (h, hm, o) := by
  refine zF_in (D := 0) (mx := 1) (L := [some (15, 0)]) (by decide +kernel) rfl rfl hd (fun d hd => ?_)
  unfold F29 at e
  rcases zI_s e with ⟨q1, e⟩ | ⟨q1, e⟩
  · refine zF_blk (m := []) (d := 1) (b := B29_3) (gs := [¬ (h 324 0 0) = 0]) (c' := (22, [some (15, 0)], [], (h, hm, o))) K29_3 rfl ⟨q1, trivial⟩ ?_
    refine zF_blk (m := []) (d := 0) (b := B29_0) (gs := []) (c' := (23, [some (15, 0)], [(0, 0)], (h, hm, o))) K29_0 rfl trivial ?_
    cases e
    exact zF_rb (by decide +kernel) (Or.inl rfl)
  · refine zF_blk (m := []) (d := 0) (b := B29_3) (gs := [¬ (¬ (h 324 0 0) = 0)]) (c' := (7, [some (15, 0)], [], (h, hm, o))) K29_3 rfl ⟨q1, trivial⟩ ?_
    rcases zI_s e with ⟨q2, e⟩ | ⟨q2, e⟩
    · refine zF_blk (m := []) (d := 1) (b := B29_2) (gs := [(h 329 0 0) < (h 321 0 0)]) (c' := (22, [some (15, 0)], [], (h, hm, o))) K29_2 rfl ⟨q2, trivial⟩ ?_
      refine zF_blk (m := []) (d := 0) (b := B29_0) (gs := []) (c' := (23, [some (15, 0)], [(0, 0)], (h, hm, o))) K29_0 rfl trivial ?_
      cases e
      exact zF_rb (by decide +kernel) (Or.inl rfl)
    · refine zF_blk (m := []) (d := 0) (b := B29_2) (gs := [¬ ((h 329 0 0) < (h 321 0 0))]) (c' := (18, [some (15, 0)], [], (h, hm, o))) K29_2 rfl ⟨q2, trivial⟩ ?_
      refine zF_blk (m := []) (d := 0) (b := B29_1) (gs := []) (c' := (23, [some (15, 0)], [(0, 1)], (h, hm, o))) K29_1 rfl trivial ?_
      cases e
      exact zF_rb (by decide +kernel) (Or.inr rfl)
def B31_0 : List zRow := [(0, .aload_n 0, 1, (0, 0, 0)), (1, .iload_n 1, 1, (0, 0, 0)), (2, .putfield 48, 3, (5, 2, 0)), (5, .aload_n 0, 1, (0, 0, 0)), (6, .aload_n 0, 1, (0, 0, 0)), (7, .getfield 67, 3, (5, 5, 0)), (10, .putfield 51, 3, (5, 3, 0)), (13, .iconst 0, 1, (0, 0, 0))]
theorem K31_0 : zRk 31 B31_0 = true := by decide +kernel
/-- EchoVale$Reader.refuse(I)Z -/
def F31 (v1 : Int) (h : zHC) : Option (Int × zHC) := some (0, (hset (hset h 322 0 0 v1) 323 0 0 ((hset h 322 0 0 v1) 325 0 0)))
set_option maxRecDepth 100000 in
theorem S31 {spec : zRn zH2} {hm : zHM} {o : Int → Int} {d : Nat} (hd : 1 ≤ d) (v1 : Int) (h : zHC) (v : (Int × zHC)) (e : F31 v1 h = some v) : zRu2 spec d 31 [(15, 0), (0, v1)] (h, hm, o) (some (0, v.1)) (v.2, hm, o) := by
  refine zF_in (D := 0) (mx := 2) (L := [some (15, 0), some (0, v1)]) (by decide +kernel) rfl rfl hd (fun d hd => ?_)
  unfold F31 at e
  refine zF_blk (m := []) (d := 0) (b := B31_0) (gs := []) (c' := (14, [some (15, 0), some (0, v1)], [(0, 0)], ((hset (hset h 322 0 0 v1) 323 0 0 ((hset h 322 0 0 v1) 325 0 0)), hm, o))) K31_0 rfl trivial ?_
  cases e
  exact zF_rb (by decide +kernel) (Or.inl rfl)
def B33_0 : List zRow := [(22, .aload_n 0, 1, (0, 0, 0)), (23, .getfield 82, 3, (5, 6, 0)), (26, .iload_n 2, 1, (0, 0, 0)), (27, .if_icmp .le 11, 3, (0, 0, 0))]
theorem K33_0 : zRk 33 B33_0 = true := by decide +kernel
def B33_1 : List zRow := [(14, .aload_n 0, 1, (0, 0, 0)), (15, .getfield 82, 3, (5, 6, 0)), (18, .iload_n 1, 1, (0, 0, 0)), (19, .if_icmp .lt 11, 3, (0, 0, 0))]
theorem K33_1 : zRk 33 B33_1 = true := by decide +kernel
def B33_2 : List zRow := [(8, .aload_n 0, 1, (0, 0, 0)), (9, .iconst 1, 1, (0, 0, 0))]
theorem K33_2 : zRk 33 B33_2 = true := by decide +kernel
def B33_3 : List zRow := [(0, .aload_n 0, 1, (0, 0, 0)), (1, .getfield 70, 3, (5, 4, 0)), (4, .iconst 4, 1, (0, 0, 0)), (5, .if_icmp .eq 9, 3, (0, 0, 0))]
theorem K33_3 : zRk 33 B33_3 = true := by decide +kernel
def B33_4 : List zRow := [(38, .iconst 1, 1, (0, 0, 0)), (39, .goto 4, 3, (0, 0, 0))]
theorem K33_4 : zRk 33 B33_4 = true := by decide +kernel
def B33_5 : List zRow := [(30, .aload_n 0, 1, (0, 0, 0)), (31, .iconst 2, 1, (0, 0, 0))]
theorem K33_5 : zRk 33 B33_5 = true := by decide +kernel
def B33_6 : List zRow := [(42, .iconst 0, 1, (0, 0, 0))]
theorem K33_6 : zRk 33 B33_6 = true := by decide +kernel
def B33_7 : List zRow := [(35, .ifCond .eq 7, 3, (0, 0, 0))]
theorem K33_7 : zRk 33 B33_7 = true := by decide +kernel
def F33_1 (h : zHC) : Option (Int × zHC) := some (1, h)
set_option maxRecDepth 100000 in
theorem T33_1 {spec : zRn zH2} {hm : zHM} {o : Int → Int} {d : Nat} (hd : 1 ≤ d) (h : zHC) (v : (Int × zHC)) (e : F33_1 h = some v) : zFin 0 (fun _ => 0) (zRu2 spec d) 33 (some (0, v.1)) (v.2, hm, o) (38, [none, none, none], [], (h, hm, o)) := by
  unfold F33_1 at e
  refine zF_blk (m := []) (d := 0) (b := B33_4) (gs := []) (c' := (43, [none, none, none], [(0, 1)], (h, hm, o))) K33_4 rfl trivial ?_
  cases e
  exact zF_rb (by decide +kernel) (Or.inr rfl)
def F33_0 (h : zHC) : Option (Int × zHC) := (F31 2 h).bind fun r1 => if r1.1 = 0 then some (0, r1.2) else F33_1 r1.2
set_option maxRecDepth 100000 in
theorem T33_0 {spec : zRn zH2} {hm : zHM} {o : Int → Int} {d : Nat} (hd : 1 ≤ d) (h : zHC) (v : (Int × zHC)) (e : F33_0 h = some v) : zFin 0 (fun _ => 0) (zRu2 spec d) 33 (some (0, v.1)) (v.2, hm, o) (30, [some (15, 0), none, none], [], (h, hm, o)) := by
  unfold F33_0 at e
  obtain ⟨r1, q1, e⟩ := zB_s e
  refine zF_blk (m := []) (d := 0) (b := B33_5) (gs := []) (c' := (32, [some (15, 0), none, none], [(0, 2), (15, 0)], (h, hm, o))) K33_5 rfl trivial ?_
  refine zF_call (k := 31) (cl := 5) (n := 2) (i := .invokevirtual 96) (args := [(15, 0), (0, 2)]) (rest := []) (g1 := (r1.2, hm, o)) (r1 := some (0, r1.1)) (by decide +kernel) rfl rfl rfl (st' := [(0, r1.1)]) rfl (S31 (Nat.le_trans (by decide) hd) 2 h _ q1) ?_
  rcases zI_s e with ⟨q2, e⟩ | ⟨q2, e⟩
  · refine zF_blk (m := []) (d := 1) (b := B33_7) (gs := [r1.1 = 0]) (c' := (42, [some (15, 0), none, none], [], (r1.2, hm, o))) K33_7 rfl ⟨q2, trivial⟩ ?_
    refine zF_blk (m := []) (d := 0) (b := B33_6) (gs := []) (c' := (43, [some (15, 0), none, none], [(0, 0)], (r1.2, hm, o))) K33_6 rfl trivial ?_
    cases e
    exact zF_rb (by decide +kernel) (Or.inl rfl)
  · refine zF_blk (m := []) (d := 0) (b := B33_7) (gs := [¬ (r1.1 = 0)]) (c' := (38, [some (15, 0), none, none], [], (r1.2, hm, o))) K33_7 rfl ⟨q2, trivial⟩ ?_
    refine zF_blk (m := [false, false, false]) (d := 0) (b := []) (gs := []) (c' := (38, [none, none, none], [], (r1.2, hm, o))) rfl rfl trivial ?_
    exact T33_1 hd r1.2 _ e
/-- EchoVale$Reader.isNumber(II)Z -/
def F33 (v1 : Int) (v2 : Int) (h : zHC) : Option (Int × zHC) := if (h 324 0 0) = 4 then if (h 326 0 0) < v1 then F33_0 h else if (h 326 0 0) ≤ v2 then F33_1 h else F33_0 h else (F31 1 h).bind fun r1 => zG (r1.1 = 0 ∨ r1.1 = 1) (some (r1.1, r1.2))
set_option maxRecDepth 100000 in
theorem S33 {spec : zRn zH2} {hm : zHM} {o : Int → Int} {d : Nat} (hd : 2 ≤ d) (v1 : Int) (v2 : Int) (h : zHC) (v : (Int × zHC)) (e : F33 v1 v2 h = some v) : zRu2 spec d 33 [(15, 0), (0, v1), (0, v2)] (h, hm, o) (some (0, v.1)) (v.2, hm, o) := by
  refine zF_in (D := 1) (mx := 3) (L := [some (15, 0), some (0, v1), some (0, v2)]) (by decide +kernel) rfl rfl hd (fun d hd => ?_)
  unfold F33 at e
  rcases zI_s e with ⟨q1, e⟩ | ⟨q1, e⟩
  · refine zF_blk (m := []) (d := 1) (b := B33_3) (gs := [(h 324 0 0) = 4]) (c' := (14, [some (15, 0), some (0, v1), some (0, v2)], [], (h, hm, o))) K33_3 rfl ⟨q1, trivial⟩ ?_
    rcases zI_s e with ⟨q2, e⟩ | ⟨q2, e⟩
    · refine zF_blk (m := []) (d := 1) (b := B33_1) (gs := [(h 326 0 0) < v1]) (c' := (30, [some (15, 0), some (0, v1), some (0, v2)], [], (h, hm, o))) K33_1 rfl ⟨q2, trivial⟩ ?_
      refine zF_blk (m := [true, false, false]) (d := 0) (b := []) (gs := []) (c' := (30, [some (15, 0), none, none], [], (h, hm, o))) rfl rfl trivial ?_
      exact T33_0 hd h _ e
    · refine zF_blk (m := []) (d := 0) (b := B33_1) (gs := [¬ ((h 326 0 0) < v1)]) (c' := (22, [some (15, 0), some (0, v1), some (0, v2)], [], (h, hm, o))) K33_1 rfl ⟨q2, trivial⟩ ?_
      rcases zI_s e with ⟨q3, e⟩ | ⟨q3, e⟩
      · refine zF_blk (m := []) (d := 1) (b := B33_0) (gs := [(h 326 0 0) ≤ v2]) (c' := (38, [some (15, 0), some (0, v1), some (0, v2)], [], (h, hm, o))) K33_0 rfl ⟨q3, trivial⟩ ?_
        refine zF_blk (m := [false, false, false]) (d := 0) (b := []) (gs := []) (c' := (38, [none, none, none], [], (h, hm, o))) rfl rfl trivial ?_
        exact T33_1 hd h _ e
      · refine zF_blk (m := []) (d := 0) (b := B33_0) (gs := [¬ ((h 326 0 0) ≤ v2)]) (c' := (30, [some (15, 0), some (0, v1), some (0, v2)], [], (h, hm, o))) K33_0 rfl ⟨q3, trivial⟩ ?_
        refine zF_blk (m := [true, false, false]) (d := 0) (b := []) (gs := []) (c' := (30, [some (15, 0), none, none], [], (h, hm, o))) rfl rfl trivial ?_
        exact T33_0 hd h _ e
  · refine zF_blk (m := []) (d := 0) (b := B33_3) (gs := [¬ ((h 324 0 0) = 4)]) (c' := (8, [some (15, 0), some (0, v1), some (0, v2)], [], (h, hm, o))) K33_3 rfl ⟨q1, trivial⟩ ?_
    obtain ⟨r1, q4, e⟩ := zB_s e
    refine zF_blk (m := []) (d := 0) (b := B33_2) (gs := []) (c' := (10, [some (15, 0), some (0, v1), some (0, v2)], [(0, 1), (15, 0)], (h, hm, o))) K33_2 rfl trivial ?_
    refine zF_call (k := 31) (cl := 5) (n := 2) (i := .invokevirtual 96) (args := [(15, 0), (0, 1)]) (rest := []) (g1 := (r1.2, hm, o)) (r1 := some (0, r1.1)) (by decide +kernel) rfl rfl rfl (st' := [(0, r1.1)]) rfl (S31 (Nat.le_trans (by decide) hd) 1 h _ q4) ?_
    obtain ⟨q5, e⟩ := zG_s e
    cases e
    exact zF_rb (by decide +kernel) q5
def B32_0 : List zRow := [(19, .aload_n 0, 1, (0, 0, 0)), (20, .getfield 18, 3, (10, 2, 23))]
theorem K32_0 : zRk 32 B32_0 = true := by decide +kernel
def B32_1 : List zRow := [(26, .aload_n 0, 1, (0, 0, 0)), (27, .getfield 18, 3, (10, 2, 23)), (30, .iconst 2, 1, (0, 0, 0)), (31, .bipush 10, 2, (0, 0, 0))]
theorem K32_1 : zRk 32 B32_1 = true := by decide +kernel
def B32_2 : List zRow := [(41, .aload_n 0, 1, (0, 0, 0)), (42, .getfield 18, 3, (10, 2, 23)), (45, .getfield 52, 3, (5, 6, 0)), (48, .istore_n 1, 1, (0, 0, 0)), (49, .aload_n 0, 1, (0, 0, 0)), (50, .getfield 18, 3, (10, 2, 23))]
theorem K32_2 : zRk 32 B32_2 = true := by decide +kernel
def B32_3 : List zRow := [(56, .aload_n 0, 1, (0, 0, 0)), (57, .getfield 18, 3, (10, 2, 23)), (60, .iconst 2, 1, (0, 0, 0)), (61, .bipush 10, 2, (0, 0, 0))]
theorem K32_3 : zRk 32 B32_3 = true := by decide +kernel
def B32_4 : List zRow := [(71, .aload_n 0, 1, (0, 0, 0)), (72, .getfield 12, 3, (10, 0, 167)), (75, .iload_n 1, 1, (0, 0, 0)), (76, .putfield 76, 3, (9, 0, 0)), (79, .aload_n 0, 1, (0, 0, 0)), (80, .getfield 12, 3, (10, 0, 167)), (83, .aload_n 0, 1, (0, 0, 0)), (84, .getfield 18, 3, (10, 2, 23)), (87, .getfield 52, 3, (5, 6, 0)), (90, .putfield 86, 3, (9, 1, 0)), (93, .aload_n 0, 1, (0, 0, 0)), (94, .getfield 18, 3, (10, 2, 23))]
theorem K32_4 : zRk 32 B32_4 = true := by decide +kernel
def B32_5 : List zRow := [(100, .iconst 1, 1, (0, 0, 0))]
theorem K32_5 : zRk 32 B32_5 = true := by decide +kernel
def B32_6 : List zRow := [(69, .iconst 0, 1, (0, 0, 0))]
theorem K32_6 : zRk 32 B32_6 = true := by decide +kernel
def B32_7 : List zRow := [(66, .ifCond .ne 5, 3, (0, 0, 0))]
theorem K32_7 : zRk 32 B32_7 = true := by decide +kernel
def B32_8 : List zRow := [(39, .iconst 0, 1, (0, 0, 0))]
theorem K32_8 : zRk 32 B32_8 = true := by decide +kernel
def B32_9 : List zRow := [(36, .ifCond .ne 5, 3, (0, 0, 0))]
theorem K32_9 : zRk 32 B32_9 = true := by decide +kernel
def B32_10 : List zRow := [(10, .aload_n 0, 1, (0, 0, 0)), (11, .getfield 18, 3, (10, 2, 23)), (14, .iconst 3, 1, (0, 0, 0))]
theorem K32_10 : zRk 32 B32_10 = true := by decide +kernel
def B32_11 : List zRow := [(0, .aload_n 0, 1, (0, 0, 0)), (1, .getfield 12, 3, (10, 0, 167)), (4, .getfield 76, 3, (9, 0, 0)), (7, .ifCond .le 12, 3, (0, 0, 0))]
theorem K32_11 : zRk 32 B32_11 = true := by decide +kernel
/-- EchoVale$ValleyText.readLand()Z -/
def F32 (h : zHC) : Option (Int × zHC) := if (h 576 1 0) ≤ 0 then (F21 h).bind fun r1 => (F33 2 10 r1).bind fun r2 => if ¬ r2.1 = 0 then (F21 r2.2).bind fun r3 => (F33 2 10 r3).bind fun r4 => if ¬ r4.1 = 0 then (F21 (hset (hset r4.2 576 1 0 (r2.2 326 0 0)) 577 1 0 ((hset r4.2 576 1 0 (r2.2 326 0 0)) 326 0 0))).bind fun r5 => some (1, r5) else some (0, r4.2) else some (0, r2.2) else (F31 3 h).bind fun r6 => zG (r6.1 = 0 ∨ r6.1 = 1) (some (r6.1, r6.2))
set_option maxRecDepth 100000 in
theorem S32 {spec : zRn zH2} {hm : zHM} {o : Int → Int} {d : Nat} (hd : 4 ≤ d) (h : zHC) (v : (Int × zHC)) (e : F32 h = some v) : zRu2 spec d 32 [(20, 0)] (h, hm, o) (some (0, v.1)) (v.2, hm, o) := by
  refine zF_in (D := 3) (mx := 2) (L := [some (20, 0), none]) (by decide +kernel) rfl rfl hd (fun d hd => ?_)
  unfold F32 at e
  rcases zI_s e with ⟨q1, e⟩ | ⟨q1, e⟩
  · refine zF_blk (m := []) (d := 1) (b := B32_11) (gs := [(h 576 1 0) ≤ 0]) (c' := (19, [some (20, 0), none], [], (h, hm, o))) K32_11 rfl ⟨q1, trivial⟩ ?_
    obtain ⟨r1, q2, e⟩ := zB_s e
    refine zF_blk (m := []) (d := 0) (b := B32_0) (gs := []) (c' := (23, [some (20, 0), none], [(15, 0)], (h, hm, o))) K32_0 rfl trivial ?_
    refine zF_call (k := 21) (cl := 5) (n := 1) (i := .invokevirtual 79) (args := [(15, 0)]) (rest := []) (g1 := (r1, hm, o)) (r1 := none) (by decide +kernel) rfl rfl rfl (st' := []) rfl (S21 (Nat.le_trans (by decide) hd)  h _ q2) ?_
    obtain ⟨r2, q3, e⟩ := zB_s e
    refine zF_blk (m := []) (d := 0) (b := B32_1) (gs := []) (c' := (33, [some (20, 0), none], [(0, 10), (0, 2), (15, 0)], (r1, hm, o))) K32_1 rfl trivial ?_
    refine zF_call (k := 33) (cl := 5) (n := 3) (i := .invokevirtual 82) (args := [(15, 0), (0, 2), (0, 10)]) (rest := []) (g1 := (r2.2, hm, o)) (r1 := some (0, r2.1)) (by decide +kernel) rfl rfl rfl (st' := [(0, r2.1)]) rfl (S33 (Nat.le_trans (by decide) hd) 2 10 r1 _ q3) ?_
    rcases zI_s e with ⟨q4, e⟩ | ⟨q4, e⟩
    · refine zF_blk (m := []) (d := 1) (b := B32_9) (gs := [¬ r2.1 = 0]) (c' := (41, [some (20, 0), none], [], (r2.2, hm, o))) K32_9 rfl ⟨q4, trivial⟩ ?_
      obtain ⟨r3, q5, e⟩ := zB_s e
      refine zF_blk (m := []) (d := 0) (b := B32_2) (gs := []) (c' := (53, [some (20, 0), some (0, (r2.2 326 0 0))], [(15, 0)], (r2.2, hm, o))) K32_2 rfl trivial ?_
      refine zF_call (k := 21) (cl := 5) (n := 1) (i := .invokevirtual 79) (args := [(15, 0)]) (rest := []) (g1 := (r3, hm, o)) (r1 := none) (by decide +kernel) rfl rfl rfl (st' := []) rfl (S21 (Nat.le_trans (by decide) hd)  r2.2 _ q5) ?_
      obtain ⟨r4, q6, e⟩ := zB_s e
      refine zF_blk (m := []) (d := 0) (b := B32_3) (gs := []) (c' := (63, [some (20, 0), some (0, (r2.2 326 0 0))], [(0, 10), (0, 2), (15, 0)], (r3, hm, o))) K32_3 rfl trivial ?_
      refine zF_call (k := 33) (cl := 5) (n := 3) (i := .invokevirtual 82) (args := [(15, 0), (0, 2), (0, 10)]) (rest := []) (g1 := (r4.2, hm, o)) (r1 := some (0, r4.1)) (by decide +kernel) rfl rfl rfl (st' := [(0, r4.1)]) rfl (S33 (Nat.le_trans (by decide) hd) 2 10 r3 _ q6) ?_
      rcases zI_s e with ⟨q7, e⟩ | ⟨q7, e⟩
      · refine zF_blk (m := []) (d := 1) (b := B32_7) (gs := [¬ r4.1 = 0]) (c' := (71, [some (20, 0), some (0, (r2.2 326 0 0))], [], (r4.2, hm, o))) K32_7 rfl ⟨q7, trivial⟩ ?_
        obtain ⟨r5, q8, e⟩ := zB_s e
        refine zF_blk (m := []) (d := 0) (b := B32_4) (gs := []) (c' := (97, [some (20, 0), some (0, (r2.2 326 0 0))], [(15, 0)], ((hset (hset r4.2 576 1 0 (r2.2 326 0 0)) 577 1 0 ((hset r4.2 576 1 0 (r2.2 326 0 0)) 326 0 0)), hm, o))) K32_4 rfl trivial ?_
        refine zF_call (k := 21) (cl := 5) (n := 1) (i := .invokevirtual 79) (args := [(15, 0)]) (rest := []) (g1 := (r5, hm, o)) (r1 := none) (by decide +kernel) rfl rfl rfl (st' := []) rfl (S21 (Nat.le_trans (by decide) hd)  (hset (hset r4.2 576 1 0 (r2.2 326 0 0)) 577 1 0 ((hset r4.2 576 1 0 (r2.2 326 0 0)) 326 0 0)) _ q8) ?_
        refine zF_blk (m := []) (d := 0) (b := B32_5) (gs := []) (c' := (101, [some (20, 0), some (0, (r2.2 326 0 0))], [(0, 1)], (r5, hm, o))) K32_5 rfl trivial ?_
        cases e
        exact zF_rb (by decide +kernel) (Or.inr rfl)
      · refine zF_blk (m := []) (d := 0) (b := B32_7) (gs := [¬ (¬ r4.1 = 0)]) (c' := (69, [some (20, 0), some (0, (r2.2 326 0 0))], [], (r4.2, hm, o))) K32_7 rfl ⟨q7, trivial⟩ ?_
        refine zF_blk (m := []) (d := 0) (b := B32_6) (gs := []) (c' := (70, [some (20, 0), some (0, (r2.2 326 0 0))], [(0, 0)], (r4.2, hm, o))) K32_6 rfl trivial ?_
        cases e
        exact zF_rb (by decide +kernel) (Or.inl rfl)
    · refine zF_blk (m := []) (d := 0) (b := B32_9) (gs := [¬ (¬ r2.1 = 0)]) (c' := (39, [some (20, 0), none], [], (r2.2, hm, o))) K32_9 rfl ⟨q4, trivial⟩ ?_
      refine zF_blk (m := []) (d := 0) (b := B32_8) (gs := []) (c' := (40, [some (20, 0), none], [(0, 0)], (r2.2, hm, o))) K32_8 rfl trivial ?_
      cases e
      exact zF_rb (by decide +kernel) (Or.inl rfl)
  · refine zF_blk (m := []) (d := 0) (b := B32_11) (gs := [¬ ((h 576 1 0) ≤ 0)]) (c' := (10, [some (20, 0), none], [], (h, hm, o))) K32_11 rfl ⟨q1, trivial⟩ ?_
    obtain ⟨r6, q9, e⟩ := zB_s e
    refine zF_blk (m := []) (d := 0) (b := B32_10) (gs := []) (c' := (15, [some (20, 0), none], [(0, 3), (15, 0)], (h, hm, o))) K32_10 rfl trivial ?_
    refine zF_call (k := 31) (cl := 5) (n := 2) (i := .invokevirtual 49) (args := [(15, 0), (0, 3)]) (rest := []) (g1 := (r6.2, hm, o)) (r1 := some (0, r6.1)) (by decide +kernel) rfl rfl rfl (st' := [(0, r6.1)]) rfl (S31 (Nat.le_trans (by decide) hd) 3 h _ q9) ?_
    obtain ⟨q10, e⟩ := zG_s e
    cases e
    exact zF_rb (by decide +kernel) q10
def B37_0 : List zRow := [(0, .iconst 0, 1, (0, 0, 0)), (1, .istore_n 3, 1, (0, 0, 0))]
theorem K37_0 : zRk 37 B37_0 = true := by decide +kernel
def B37_1 : List zRow := [(29, .iconst (-1), 1, (0, 0, 0))]
theorem K37_1 : zRk 37 B37_1 = true := by decide +kernel
def B37_2 : List zRow := [(23, .iinc 3 1, 3, (0, 0, 0)), (26, .goto (-24), 3, (0, 0, 0))]
theorem K37_2 : zRk 37 B37_2 = true := by decide +kernel
def B37_3 : List zRow := [(21, .iload_n 3, 1, (0, 0, 0))]
theorem K37_3 : zRk 37 B37_3 = true := by decide +kernel
def B37_4 : List zRow := [(10, .aload_n 0, 1, (0, 0, 0)), (11, .getfield 9, 3, (9, 7, 5505050)), (14, .iload_n 3, 1, (0, 0, 0)), (15, .laload, 1, (0, 0, 0)), (16, .lload_n 1, 1, (0, 0, 0)), (17, .lcmp, 1, (0, 0, 0)), (18, .ifCond .ne 5, 3, (0, 0, 0))]
theorem K37_4 : zRk 37 B37_4 = true := by decide +kernel
def B37_5 : List zRow := [(2, .iload_n 3, 1, (0, 0, 0)), (3, .aload_n 0, 1, (0, 0, 0)), (4, .getfield 59, 3, (9, 2, 0)), (7, .if_icmp .ge 22, 3, (0, 0, 0))]
theorem K37_5 : zRk 37 B37_5 = true := by decide +kernel
def F37_0 (h : zHC) : Nat → Int → Int → Option Int
  | 0, _, _ => none
  | n + 1, v1, v3 => if (h 578 1 0) ≤ v3 then some (-1) else zG (0 ≤ v3 ∧ v3 < 6) (if ¬ (qcmp (h 583 1 v3) v1) = 0 then (F37_0 h n) v1 (wadd v3 1) else some v3)
set_option maxRecDepth 100000 in
theorem T37_0 {spec : zRn zH2} {hm : zHM} {o : Int → Int} {d : Nat} (hd : 0 ≤ d) (h : zHC) : ∀ (n : Nat) (v1 : Int) (v3 : Int) (v : Int), F37_0 h n v1 v3 = some v → zFin 0 (fun _ => 0) (zRu2 spec d) 37 (some (0, v)) (h, hm, o) (2, [some (19, 1), some (1, v1), none, some (0, v3)], [], (h, hm, o)) := by
  intro n
  induction n with
  | zero => intro v1 v3 v e; unfold F37_0 at e; cases e
  | succ n hk0 =>
    intro v1 v3 v e
    unfold F37_0 at e
    rcases zI_s e with ⟨q1, e⟩ | ⟨q1, e⟩
    · refine zF_blk (m := []) (d := 1) (b := B37_5) (gs := [(h 578 1 0) ≤ v3]) (c' := (29, [some (19, 1), some (1, v1), none, some (0, v3)], [], (h, hm, o))) K37_5 rfl ⟨q1, trivial⟩ ?_
      refine zF_blk (m := []) (d := 0) (b := B37_1) (gs := []) (c' := (30, [some (19, 1), some (1, v1), none, some (0, v3)], [(0, (-1))], (h, hm, o))) K37_1 rfl trivial ?_
      cases e
      exact zF_ri (by decide +kernel)
    · refine zF_blk (m := []) (d := 0) (b := B37_5) (gs := [¬ ((h 578 1 0) ≤ v3)]) (c' := (10, [some (19, 1), some (1, v1), none, some (0, v3)], [], (h, hm, o))) K37_5 rfl ⟨q1, trivial⟩ ?_
      obtain ⟨q2, e⟩ := zG_s e
      rcases zI_s e with ⟨q3, e⟩ | ⟨q3, e⟩
      · refine zF_blk (m := []) (d := 1) (b := B37_4) (gs := [0 ≤ v3 ∧ v3 < 6, ¬ (qcmp (h 583 1 v3) v1) = 0]) (c' := (23, [some (19, 1), some (1, v1), none, some (0, v3)], [], (h, hm, o))) K37_4 rfl ⟨q2, q3, trivial⟩ ?_
        refine zF_blk (m := []) (d := 0) (b := B37_2) (gs := []) (c' := (2, [some (19, 1), some (1, v1), none, some (0, (wadd v3 1))], [], (h, hm, o))) K37_2 rfl trivial ?_
        exact hk0 v1 (wadd v3 1) _ e
      · refine zF_blk (m := []) (d := 0) (b := B37_4) (gs := [0 ≤ v3 ∧ v3 < 6, ¬ (¬ (qcmp (h 583 1 v3) v1) = 0)]) (c' := (21, [some (19, 1), some (1, v1), none, some (0, v3)], [], (h, hm, o))) K37_4 rfl ⟨q2, q3, trivial⟩ ?_
        refine zF_blk (m := []) (d := 0) (b := B37_3) (gs := []) (c' := (22, [some (19, 1), some (1, v1), none, some (0, v3)], [(0, v3)], (h, hm, o))) K37_3 rfl trivial ?_
        cases e
        exact zF_ri (by decide +kernel)
/-- EchoVale$Valley.cliffNamed(J)I -/
def F37 (v1 : Int) (h : zHC) : Option Int := F37_0 h zFu v1 0
set_option maxRecDepth 100000 in
theorem S37 {spec : zRn zH2} {hm : zHM} {o : Int → Int} {d : Nat} (hd : 1 ≤ d) (v1 : Int) (h : zHC) (v : Int) (e : F37 v1 h = some v) : zRu2 spec d 37 [(19, 1), (1, v1)] (h, hm, o) (some (0, v)) (h, hm, o) := by
  refine zF_in (D := 0) (mx := 4) (L := [some (19, 1), some (1, v1), none, none]) (by decide +kernel) rfl rfl hd (fun d hd => ?_)
  unfold F37 at e
  refine zF_blk (m := []) (d := 0) (b := B37_0) (gs := []) (c' := (2, [some (19, 1), some (1, v1), none, some (0, 0)], [], (h, hm, o))) K37_0 rfl trivial ?_
  exact T37_0 hd h zFu v1 0 _ e
def B38_0 : List zRow := [(0, .iconst 0, 1, (0, 0, 0)), (1, .istore_n 3, 1, (0, 0, 0))]
theorem K38_0 : zRk 38 B38_0 = true := by decide +kernel
def B38_1 : List zRow := [(29, .iconst (-1), 1, (0, 0, 0))]
theorem K38_1 : zRk 38 B38_1 = true := by decide +kernel
def B38_2 : List zRow := [(23, .iinc 3 1, 3, (0, 0, 0)), (26, .goto (-24), 3, (0, 0, 0))]
theorem K38_2 : zRk 38 B38_2 = true := by decide +kernel
def B38_3 : List zRow := [(21, .iload_n 3, 1, (0, 0, 0))]
theorem K38_3 : zRk 38 B38_3 = true := by decide +kernel
def B38_4 : List zRow := [(10, .aload_n 0, 1, (0, 0, 0)), (11, .getfield 25, 3, (9, 11, 5505050)), (14, .iload_n 3, 1, (0, 0, 0)), (15, .laload, 1, (0, 0, 0)), (16, .lload_n 1, 1, (0, 0, 0)), (17, .lcmp, 1, (0, 0, 0)), (18, .ifCond .ne 5, 3, (0, 0, 0))]
theorem K38_4 : zRk 38 B38_4 = true := by decide +kernel
def B38_5 : List zRow := [(2, .iload_n 3, 1, (0, 0, 0)), (3, .aload_n 0, 1, (0, 0, 0)), (4, .getfield 62, 3, (9, 3, 0)), (7, .if_icmp .ge 22, 3, (0, 0, 0))]
theorem K38_5 : zRk 38 B38_5 = true := by decide +kernel
def F38_0 (h : zHC) : Nat → Int → Int → Option Int
  | 0, _, _ => none
  | n + 1, v1, v3 => if (h 579 1 0) ≤ v3 then some (-1) else zG (0 ≤ v3 ∧ v3 < 6) (if ¬ (qcmp (h 587 1 v3) v1) = 0 then (F38_0 h n) v1 (wadd v3 1) else some v3)
set_option maxRecDepth 100000 in
theorem T38_0 {spec : zRn zH2} {hm : zHM} {o : Int → Int} {d : Nat} (hd : 0 ≤ d) (h : zHC) : ∀ (n : Nat) (v1 : Int) (v3 : Int) (v : Int), F38_0 h n v1 v3 = some v → zFin 0 (fun _ => 0) (zRu2 spec d) 38 (some (0, v)) (h, hm, o) (2, [some (19, 1), some (1, v1), none, some (0, v3)], [], (h, hm, o)) := by
  intro n
  induction n with
  | zero => intro v1 v3 v e; unfold F38_0 at e; cases e
  | succ n hk0 =>
    intro v1 v3 v e
    unfold F38_0 at e
    rcases zI_s e with ⟨q1, e⟩ | ⟨q1, e⟩
    · refine zF_blk (m := []) (d := 1) (b := B38_5) (gs := [(h 579 1 0) ≤ v3]) (c' := (29, [some (19, 1), some (1, v1), none, some (0, v3)], [], (h, hm, o))) K38_5 rfl ⟨q1, trivial⟩ ?_
      refine zF_blk (m := []) (d := 0) (b := B38_1) (gs := []) (c' := (30, [some (19, 1), some (1, v1), none, some (0, v3)], [(0, (-1))], (h, hm, o))) K38_1 rfl trivial ?_
      cases e
      exact zF_ri (by decide +kernel)
    · refine zF_blk (m := []) (d := 0) (b := B38_5) (gs := [¬ ((h 579 1 0) ≤ v3)]) (c' := (10, [some (19, 1), some (1, v1), none, some (0, v3)], [], (h, hm, o))) K38_5 rfl ⟨q1, trivial⟩ ?_
      obtain ⟨q2, e⟩ := zG_s e
      rcases zI_s e with ⟨q3, e⟩ | ⟨q3, e⟩
      · refine zF_blk (m := []) (d := 1) (b := B38_4) (gs := [0 ≤ v3 ∧ v3 < 6, ¬ (qcmp (h 587 1 v3) v1) = 0]) (c' := (23, [some (19, 1), some (1, v1), none, some (0, v3)], [], (h, hm, o))) K38_4 rfl ⟨q2, q3, trivial⟩ ?_
        refine zF_blk (m := []) (d := 0) (b := B38_2) (gs := []) (c' := (2, [some (19, 1), some (1, v1), none, some (0, (wadd v3 1))], [], (h, hm, o))) K38_2 rfl trivial ?_
        exact hk0 v1 (wadd v3 1) _ e
      · refine zF_blk (m := []) (d := 0) (b := B38_4) (gs := [0 ≤ v3 ∧ v3 < 6, ¬ (¬ (qcmp (h 587 1 v3) v1) = 0)]) (c' := (21, [some (19, 1), some (1, v1), none, some (0, v3)], [], (h, hm, o))) K38_4 rfl ⟨q2, q3, trivial⟩ ?_
        refine zF_blk (m := []) (d := 0) (b := B38_3) (gs := []) (c' := (22, [some (19, 1), some (1, v1), none, some (0, v3)], [(0, v3)], (h, hm, o))) K38_3 rfl trivial ?_
        cases e
        exact zF_ri (by decide +kernel)
/-- EchoVale$Valley.personNamed(J)I -/
def F38 (v1 : Int) (h : zHC) : Option Int := F38_0 h zFu v1 0
set_option maxRecDepth 100000 in
theorem S38 {spec : zRn zH2} {hm : zHM} {o : Int → Int} {d : Nat} (hd : 1 ≤ d) (v1 : Int) (h : zHC) (v : Int) (e : F38 v1 h = some v) : zRu2 spec d 38 [(19, 1), (1, v1)] (h, hm, o) (some (0, v)) (h, hm, o) := by
  refine zF_in (D := 0) (mx := 4) (L := [some (19, 1), some (1, v1), none, none]) (by decide +kernel) rfl rfl hd (fun d hd => ?_)
  unfold F38 at e
  refine zF_blk (m := []) (d := 0) (b := B38_0) (gs := []) (c' := (2, [some (19, 1), some (1, v1), none, some (0, 0)], [], (h, hm, o))) K38_0 rfl trivial ?_
  exact T38_0 hd h zFu v1 0 _ e
def B36_0 : List zRow := [(0, .aload_n 0, 1, (0, 0, 0)), (1, .lload_n 1, 1, (0, 0, 0))]
theorem K36_0 : zRk 36 B36_0 = true := by decide +kernel
def B36_1 : List zRow := [(9, .aload_n 0, 1, (0, 0, 0)), (10, .lload_n 1, 1, (0, 0, 0))]
theorem K36_1 : zRk 36 B36_1 = true := by decide +kernel
def B36_2 : List zRow := [(22, .iconst 0, 1, (0, 0, 0))]
theorem K36_2 : zRk 36 B36_2 = true := by decide +kernel
def B36_3 : List zRow := [(14, .iconst (-1), 1, (0, 0, 0)), (15, .if_icmp .eq 7, 3, (0, 0, 0))]
theorem K36_3 : zRk 36 B36_3 = true := by decide +kernel
def B36_4 : List zRow := [(5, .iconst (-1), 1, (0, 0, 0)), (6, .if_icmp .ne 12, 3, (0, 0, 0))]
theorem K36_4 : zRk 36 B36_4 = true := by decide +kernel
def B36_5 : List zRow := [(18, .iconst 1, 1, (0, 0, 0)), (19, .goto 4, 3, (0, 0, 0))]
theorem K36_5 : zRk 36 B36_5 = true := by decide +kernel
def F36_0 (h : zHC) : Option Int := some 1
set_option maxRecDepth 100000 in
theorem T36_0 {spec : zRn zH2} {hm : zHM} {o : Int → Int} {d : Nat} (hd : 1 ≤ d) (h : zHC) (v : Int) (e : F36_0 h = some v) : zFin 0 (fun _ => 0) (zRu2 spec d) 36 (some (0, v)) (h, hm, o) (18, [none, none, none], [], (h, hm, o)) := by
  unfold F36_0 at e
  refine zF_blk (m := []) (d := 0) (b := B36_5) (gs := []) (c' := (23, [none, none, none], [(0, 1)], (h, hm, o))) K36_5 rfl trivial ?_
  cases e
  exact zF_rb (by decide +kernel) (Or.inr rfl)
/-- EchoVale$Valley.isTaken(J)Z -/
def F36 (v1 : Int) (h : zHC) : Option Int := (F37 v1 h).bind fun r1 => if ¬ r1 = (-1) then F36_0 h else (F38 v1 h).bind fun r2 => if r2 = (-1) then some 0 else F36_0 h
set_option maxRecDepth 100000 in
theorem S36 {spec : zRn zH2} {hm : zHM} {o : Int → Int} {d : Nat} (hd : 2 ≤ d) (v1 : Int) (h : zHC) (v : Int) (e : F36 v1 h = some v) : zRu2 spec d 36 [(19, 1), (1, v1)] (h, hm, o) (some (0, v)) (h, hm, o) := by
  refine zF_in (D := 1) (mx := 3) (L := [some (19, 1), some (1, v1), none]) (by decide +kernel) rfl rfl hd (fun d hd => ?_)
  unfold F36 at e
  obtain ⟨r1, q1, e⟩ := zB_s e
  refine zF_blk (m := []) (d := 0) (b := B36_0) (gs := []) (c' := (2, [some (19, 1), some (1, v1), none], [(1, v1), (19, 1)], (h, hm, o))) K36_0 rfl trivial ?_
  refine zF_call (k := 37) (cl := 9) (n := 2) (i := .invokevirtual 86) (args := [(19, 1), (1, v1)]) (rest := []) (g1 := (h, hm, o)) (r1 := some (0, r1)) (by decide +kernel) rfl rfl rfl (st' := [(0, r1)]) rfl (S37 (Nat.le_trans (by decide) hd) v1 h _ q1) ?_
  rcases zI_s e with ⟨q2, e⟩ | ⟨q2, e⟩
  · refine zF_blk (m := []) (d := 1) (b := B36_4) (gs := [¬ r1 = (-1)]) (c' := (18, [some (19, 1), some (1, v1), none], [], (h, hm, o))) K36_4 rfl ⟨q2, trivial⟩ ?_
    refine zF_blk (m := [false, false, false]) (d := 0) (b := []) (gs := []) (c' := (18, [none, none, none], [], (h, hm, o))) rfl rfl trivial ?_
    exact T36_0 hd h _ e
  · refine zF_blk (m := []) (d := 0) (b := B36_4) (gs := [¬ (¬ r1 = (-1))]) (c' := (9, [some (19, 1), some (1, v1), none], [], (h, hm, o))) K36_4 rfl ⟨q2, trivial⟩ ?_
    obtain ⟨r2, q3, e⟩ := zB_s e
    refine zF_blk (m := []) (d := 0) (b := B36_1) (gs := []) (c' := (11, [some (19, 1), some (1, v1), none], [(1, v1), (19, 1)], (h, hm, o))) K36_1 rfl trivial ?_
    refine zF_call (k := 38) (cl := 9) (n := 2) (i := .invokevirtual 90) (args := [(19, 1), (1, v1)]) (rest := []) (g1 := (h, hm, o)) (r1 := some (0, r2)) (by decide +kernel) rfl rfl rfl (st' := [(0, r2)]) rfl (S38 (Nat.le_trans (by decide) hd) v1 h _ q3) ?_
    rcases zI_s e with ⟨q4, e⟩ | ⟨q4, e⟩
    · refine zF_blk (m := []) (d := 1) (b := B36_3) (gs := [r2 = (-1)]) (c' := (22, [some (19, 1), some (1, v1), none], [], (h, hm, o))) K36_3 rfl ⟨q4, trivial⟩ ?_
      refine zF_blk (m := []) (d := 0) (b := B36_2) (gs := []) (c' := (23, [some (19, 1), some (1, v1), none], [(0, 0)], (h, hm, o))) K36_2 rfl trivial ?_
      cases e
      exact zF_rb (by decide +kernel) (Or.inl rfl)
    · refine zF_blk (m := []) (d := 0) (b := B36_3) (gs := [¬ (r2 = (-1))]) (c' := (18, [some (19, 1), some (1, v1), none], [], (h, hm, o))) K36_3 rfl ⟨q4, trivial⟩ ?_
      refine zF_blk (m := [false, false, false]) (d := 0) (b := []) (gs := []) (c' := (18, [none, none, none], [], (h, hm, o))) rfl rfl trivial ?_
      exact T36_0 hd h _ e
def B35_0 : List zRow := [(20, .aload_n 0, 1, (0, 0, 0)), (21, .getfield 12, 3, (10, 0, 167)), (24, .aload_n 0, 1, (0, 0, 0)), (25, .getfield 18, 3, (10, 2, 23)), (28, .getfield 95, 3, (5, 7, 1))]
theorem K35_0 : zRk 35 B35_0 = true := by decide +kernel
def B35_1 : List zRow := [(37, .aload_n 0, 1, (0, 0, 0)), (38, .getfield 18, 3, (10, 2, 23)), (41, .iconst 3, 1, (0, 0, 0))]
theorem K35_1 : zRk 35 B35_1 = true := by decide +kernel
def B35_2 : List zRow := [(52, .iconst 0, 1, (0, 0, 0))]
theorem K35_2 : zRk 35 B35_2 = true := by decide +kernel
def B35_3 : List zRow := [(45, .ifCond .eq 7, 3, (0, 0, 0))]
theorem K35_3 : zRk 35 B35_3 = true := by decide +kernel
def B35_4 : List zRow := [(34, .ifCond .eq 14, 3, (0, 0, 0))]
theorem K35_4 : zRk 35 B35_4 = true := by decide +kernel
def B35_5 : List zRow := [(11, .aload_n 0, 1, (0, 0, 0)), (12, .getfield 18, 3, (10, 2, 23)), (15, .iconst 1, 1, (0, 0, 0))]
theorem K35_5 : zRk 35 B35_5 = true := by decide +kernel
def B35_6 : List zRow := [(0, .aload_n 0, 1, (0, 0, 0)), (1, .getfield 18, 3, (10, 2, 23)), (4, .getfield 46, 3, (5, 4, 0)), (7, .iconst 2, 1, (0, 0, 0)), (8, .if_icmp .eq 12, 3, (0, 0, 0))]
theorem K35_6 : zRk 35 B35_6 = true := by decide +kernel
def B35_7 : List zRow := [(48, .iconst 1, 1, (0, 0, 0)), (49, .goto 4, 3, (0, 0, 0))]
theorem K35_7 : zRk 35 B35_7 = true := by decide +kernel
def F35_0 (h : zHC) : Option (Int × zHC) := some (1, h)
set_option maxRecDepth 100000 in
theorem T35_0 {spec : zRn zH2} {hm : zHM} {o : Int → Int} {d : Nat} (hd : 2 ≤ d) (h : zHC) (v : (Int × zHC)) (e : F35_0 h = some v) : zFin 0 (fun _ => 0) (zRu2 spec d) 35 (some (0, v.1)) (v.2, hm, o) (48, [none], [], (h, hm, o)) := by
  unfold F35_0 at e
  refine zF_blk (m := []) (d := 0) (b := B35_7) (gs := []) (c' := (53, [none], [(0, 1)], (h, hm, o))) K35_7 rfl trivial ?_
  cases e
  exact zF_rb (by decide +kernel) (Or.inr rfl)
/-- EchoVale$ValleyText.isNewName()Z -/
def F35 (h : zHC) : Option (Int × zHC) := if (h 324 0 0) = 2 then (F36 (h 327 0 0) h).bind fun r1 => if r1 = 0 then F35_0 h else (F31 3 h).bind fun r2 => if r2.1 = 0 then some (0, r2.2) else F35_0 r2.2 else (F31 1 h).bind fun r3 => zG (r3.1 = 0 ∨ r3.1 = 1) (some (r3.1, r3.2))
set_option maxRecDepth 100000 in
theorem S35 {spec : zRn zH2} {hm : zHM} {o : Int → Int} {d : Nat} (hd : 3 ≤ d) (h : zHC) (v : (Int × zHC)) (e : F35 h = some v) : zRu2 spec d 35 [(20, 0)] (h, hm, o) (some (0, v.1)) (v.2, hm, o) := by
  refine zF_in (D := 2) (mx := 1) (L := [some (20, 0)]) (by decide +kernel) rfl rfl hd (fun d hd => ?_)
  unfold F35 at e
  rcases zI_s e with ⟨q1, e⟩ | ⟨q1, e⟩
  · refine zF_blk (m := []) (d := 1) (b := B35_6) (gs := [(h 324 0 0) = 2]) (c' := (20, [some (20, 0)], [], (h, hm, o))) K35_6 rfl ⟨q1, trivial⟩ ?_
    obtain ⟨r1, q2, e⟩ := zB_s e
    refine zF_blk (m := []) (d := 0) (b := B35_0) (gs := []) (c' := (31, [some (20, 0)], [(1, (h 327 0 0)), (19, 1)], (h, hm, o))) K35_0 rfl trivial ?_
    refine zF_call (k := 36) (cl := 9) (n := 2) (i := .invokevirtual 172) (args := [(19, 1), (1, (h 327 0 0))]) (rest := []) (g1 := (h, hm, o)) (r1 := some (0, r1)) (by decide +kernel) rfl rfl rfl (st' := [(0, r1)]) rfl (S36 (Nat.le_trans (by decide) hd) (h 327 0 0) h _ q2) ?_
    rcases zI_s e with ⟨q3, e⟩ | ⟨q3, e⟩
    · refine zF_blk (m := []) (d := 1) (b := B35_4) (gs := [r1 = 0]) (c' := (48, [some (20, 0)], [], (h, hm, o))) K35_4 rfl ⟨q3, trivial⟩ ?_
      refine zF_blk (m := [false]) (d := 0) (b := []) (gs := []) (c' := (48, [none], [], (h, hm, o))) rfl rfl trivial ?_
      exact T35_0 hd h _ e
    · refine zF_blk (m := []) (d := 0) (b := B35_4) (gs := [¬ (r1 = 0)]) (c' := (37, [some (20, 0)], [], (h, hm, o))) K35_4 rfl ⟨q3, trivial⟩ ?_
      obtain ⟨r2, q4, e⟩ := zB_s e
      refine zF_blk (m := []) (d := 0) (b := B35_1) (gs := []) (c' := (42, [some (20, 0)], [(0, 3), (15, 0)], (h, hm, o))) K35_1 rfl trivial ?_
      refine zF_call (k := 31) (cl := 5) (n := 2) (i := .invokevirtual 49) (args := [(15, 0), (0, 3)]) (rest := []) (g1 := (r2.2, hm, o)) (r1 := some (0, r2.1)) (by decide +kernel) rfl rfl rfl (st' := [(0, r2.1)]) rfl (S31 (Nat.le_trans (by decide) hd) 3 h _ q4) ?_
      rcases zI_s e with ⟨q5, e⟩ | ⟨q5, e⟩
      · refine zF_blk (m := []) (d := 1) (b := B35_3) (gs := [r2.1 = 0]) (c' := (52, [some (20, 0)], [], (r2.2, hm, o))) K35_3 rfl ⟨q5, trivial⟩ ?_
        refine zF_blk (m := []) (d := 0) (b := B35_2) (gs := []) (c' := (53, [some (20, 0)], [(0, 0)], (r2.2, hm, o))) K35_2 rfl trivial ?_
        cases e
        exact zF_rb (by decide +kernel) (Or.inl rfl)
      · refine zF_blk (m := []) (d := 0) (b := B35_3) (gs := [¬ (r2.1 = 0)]) (c' := (48, [some (20, 0)], [], (r2.2, hm, o))) K35_3 rfl ⟨q5, trivial⟩ ?_
        refine zF_blk (m := [false]) (d := 0) (b := []) (gs := []) (c' := (48, [none], [], (r2.2, hm, o))) rfl rfl trivial ?_
        exact T35_0 hd r2.2 _ e
  · refine zF_blk (m := []) (d := 0) (b := B35_6) (gs := [¬ ((h 324 0 0) = 2)]) (c' := (11, [some (20, 0)], [], (h, hm, o))) K35_6 rfl ⟨q1, trivial⟩ ?_
    obtain ⟨r3, q6, e⟩ := zB_s e
    refine zF_blk (m := []) (d := 0) (b := B35_5) (gs := []) (c' := (16, [some (20, 0)], [(0, 1), (15, 0)], (h, hm, o))) K35_5 rfl trivial ?_
    refine zF_call (k := 31) (cl := 5) (n := 2) (i := .invokevirtual 49) (args := [(15, 0), (0, 1)]) (rest := []) (g1 := (r3.2, hm, o)) (r1 := some (0, r3.1)) (by decide +kernel) rfl rfl rfl (st' := [(0, r3.1)]) rfl (S31 (Nat.le_trans (by decide) hd) 1 h _ q6) ?_
    obtain ⟨q7, e⟩ := zG_s e
    cases e
    exact zF_rb (by decide +kernel) q7
def B39_0 : List zRow := [(0, .aload_n 0, 1, (0, 0, 0)), (1, .getfield 18, 3, (10, 2, 23)), (4, .iconst 0, 1, (0, 0, 0)), (5, .aload_n 0, 1, (0, 0, 0)), (6, .getfield 12, 3, (10, 0, 167)), (9, .getfield 76, 3, (9, 0, 0)), (12, .iconst 1, 1, (0, 0, 0)), (13, .isub, 1, (0, 0, 0))]
theorem K39_0 : zRk 39 B39_0 = true := by decide +kernel
def B39_1 : List zRow := [(22, .aload_n 0, 1, (0, 0, 0)), (23, .getfield 18, 3, (10, 2, 23)), (26, .getfield 52, 3, (5, 6, 0)), (29, .istore_n 1, 1, (0, 0, 0)), (30, .aload_n 0, 1, (0, 0, 0)), (31, .getfield 18, 3, (10, 2, 23))]
theorem K39_1 : zRk 39 B39_1 = true := by decide +kernel
def B39_2 : List zRow := [(37, .aload_n 0, 1, (0, 0, 0)), (38, .getfield 18, 3, (10, 2, 23)), (41, .iconst 0, 1, (0, 0, 0)), (42, .aload_n 0, 1, (0, 0, 0)), (43, .getfield 12, 3, (10, 0, 167)), (46, .getfield 86, 3, (9, 1, 0)), (49, .iconst 1, 1, (0, 0, 0)), (50, .isub, 1, (0, 0, 0))]
theorem K39_2 : zRk 39 B39_2 = true := by decide +kernel
def B39_3 : List zRow := [(72, .iconst (-1), 1, (0, 0, 0))]
theorem K39_3 : zRk 39 B39_3 = true := by decide +kernel
def B39_4 : List zRow := [(57, .aload_n 0, 1, (0, 0, 0)), (58, .getfield 18, 3, (10, 2, 23)), (61, .getfield 52, 3, (5, 6, 0)), (64, .bipush 10, 2, (0, 0, 0)), (66, .imul, 1, (0, 0, 0)), (67, .iload_n 1, 1, (0, 0, 0)), (68, .iadd, 1, (0, 0, 0)), (69, .goto 4, 3, (0, 0, 0))]
theorem K39_4 : zRk 39 B39_4 = true := by decide +kernel
def B39_5 : List zRow := [(54, .ifCond .eq 18, 3, (0, 0, 0))]
theorem K39_5 : zRk 39 B39_5 = true := by decide +kernel
def B39_6 : List zRow := [(20, .iconst (-1), 1, (0, 0, 0))]
theorem K39_6 : zRk 39 B39_6 = true := by decide +kernel
def B39_7 : List zRow := [(17, .ifCond .ne 5, 3, (0, 0, 0))]
theorem K39_7 : zRk 39 B39_7 = true := by decide +kernel
/-- EchoVale$ValleyText.cellHere()I -/
def F39 (h : zHC) : Option (Int × zHC) := (F33 0 (wsub (h 576 1 0) 1) h).bind fun r1 => if ¬ r1.1 = 0 then (F21 r1.2).bind fun r2 => (F33 0 (wsub (r2 577 1 0) 1) r2).bind fun r3 => if r3.1 = 0 then some ((-1), r3.2) else some ((wadd (wmul (r3.2 326 0 0) 10) (r1.2 326 0 0)), r3.2) else some ((-1), r1.2)
set_option maxRecDepth 100000 in
theorem S39 {spec : zRn zH2} {hm : zHM} {o : Int → Int} {d : Nat} (hd : 4 ≤ d) (h : zHC) (v : (Int × zHC)) (e : F39 h = some v) : zRu2 spec d 39 [(20, 0)] (h, hm, o) (some (0, v.1)) (v.2, hm, o) := by
  refine zF_in (D := 3) (mx := 2) (L := [some (20, 0), none]) (by decide +kernel) rfl rfl hd (fun d hd => ?_)
  unfold F39 at e
  obtain ⟨r1, q1, e⟩ := zB_s e
  refine zF_blk (m := []) (d := 0) (b := B39_0) (gs := []) (c' := (14, [some (20, 0), none], [(0, (wsub (h 576 1 0) 1)), (0, 0), (15, 0)], (h, hm, o))) K39_0 rfl trivial ?_
  refine zF_call (k := 33) (cl := 5) (n := 3) (i := .invokevirtual 82) (args := [(15, 0), (0, 0), (0, (wsub (h 576 1 0) 1))]) (rest := []) (g1 := (r1.2, hm, o)) (r1 := some (0, r1.1)) (by decide +kernel) rfl rfl rfl (st' := [(0, r1.1)]) rfl (S33 (Nat.le_trans (by decide) hd) 0 (wsub (h 576 1 0) 1) h _ q1) ?_
  rcases zI_s e with ⟨q2, e⟩ | ⟨q2, e⟩
  · refine zF_blk (m := []) (d := 1) (b := B39_7) (gs := [¬ r1.1 = 0]) (c' := (22, [some (20, 0), none], [], (r1.2, hm, o))) K39_7 rfl ⟨q2, trivial⟩ ?_
    obtain ⟨r2, q3, e⟩ := zB_s e
    refine zF_blk (m := []) (d := 0) (b := B39_1) (gs := []) (c' := (34, [some (20, 0), some (0, (r1.2 326 0 0))], [(15, 0)], (r1.2, hm, o))) K39_1 rfl trivial ?_
    refine zF_call (k := 21) (cl := 5) (n := 1) (i := .invokevirtual 79) (args := [(15, 0)]) (rest := []) (g1 := (r2, hm, o)) (r1 := none) (by decide +kernel) rfl rfl rfl (st' := []) rfl (S21 (Nat.le_trans (by decide) hd)  r1.2 _ q3) ?_
    obtain ⟨r3, q4, e⟩ := zB_s e
    refine zF_blk (m := []) (d := 0) (b := B39_2) (gs := []) (c' := (51, [some (20, 0), some (0, (r1.2 326 0 0))], [(0, (wsub (r2 577 1 0) 1)), (0, 0), (15, 0)], (r2, hm, o))) K39_2 rfl trivial ?_
    refine zF_call (k := 33) (cl := 5) (n := 3) (i := .invokevirtual 82) (args := [(15, 0), (0, 0), (0, (wsub (r2 577 1 0) 1))]) (rest := []) (g1 := (r3.2, hm, o)) (r1 := some (0, r3.1)) (by decide +kernel) rfl rfl rfl (st' := [(0, r3.1)]) rfl (S33 (Nat.le_trans (by decide) hd) 0 (wsub (r2 577 1 0) 1) r2 _ q4) ?_
    rcases zI_s e with ⟨q5, e⟩ | ⟨q5, e⟩
    · refine zF_blk (m := []) (d := 1) (b := B39_5) (gs := [r3.1 = 0]) (c' := (72, [some (20, 0), some (0, (r1.2 326 0 0))], [], (r3.2, hm, o))) K39_5 rfl ⟨q5, trivial⟩ ?_
      refine zF_blk (m := []) (d := 0) (b := B39_3) (gs := []) (c' := (73, [some (20, 0), some (0, (r1.2 326 0 0))], [(0, (-1))], (r3.2, hm, o))) K39_3 rfl trivial ?_
      cases e
      exact zF_ri (by decide +kernel)
    · refine zF_blk (m := []) (d := 0) (b := B39_5) (gs := [¬ (r3.1 = 0)]) (c' := (57, [some (20, 0), some (0, (r1.2 326 0 0))], [], (r3.2, hm, o))) K39_5 rfl ⟨q5, trivial⟩ ?_
      refine zF_blk (m := []) (d := 0) (b := B39_4) (gs := []) (c' := (73, [some (20, 0), some (0, (r1.2 326 0 0))], [(0, (wadd (wmul (r3.2 326 0 0) 10) (r1.2 326 0 0)))], (r3.2, hm, o))) K39_4 rfl trivial ?_
      cases e
      exact zF_ri (by decide +kernel)
  · refine zF_blk (m := []) (d := 0) (b := B39_7) (gs := [¬ (¬ r1.1 = 0)]) (c' := (20, [some (20, 0), none], [], (r1.2, hm, o))) K39_7 rfl ⟨q2, trivial⟩ ?_
    refine zF_blk (m := []) (d := 0) (b := B39_6) (gs := []) (c' := (21, [some (20, 0), none], [(0, (-1))], (r1.2, hm, o))) K39_6 rfl trivial ?_
    cases e
    exact zF_ri (by decide +kernel)
def B40_0 : List zRow := [(0, .iconst 0, 1, (0, 0, 0)), (1, .istore_n 2, 1, (0, 0, 0))]
theorem K40_0 : zRk 40 B40_0 = true := by decide +kernel
def B40_1 : List zRow := [(28, .iconst 0, 1, (0, 0, 0))]
theorem K40_1 : zRk 40 B40_1 = true := by decide +kernel
def B40_2 : List zRow := [(22, .iinc 2 1, 3, (0, 0, 0)), (25, .goto (-23), 3, (0, 0, 0))]
theorem K40_2 : zRk 40 B40_2 = true := by decide +kernel
def B40_3 : List zRow := [(20, .iconst 1, 1, (0, 0, 0))]
theorem K40_3 : zRk 40 B40_3 = true := by decide +kernel
def B40_4 : List zRow := [(10, .aload_n 0, 1, (0, 0, 0)), (11, .getfield 15, 3, (9, 8, 5242906)), (14, .iload_n 2, 1, (0, 0, 0)), (15, .iaload, 1, (0, 0, 0)), (16, .iload_n 1, 1, (0, 0, 0)), (17, .if_icmp .ne 5, 3, (0, 0, 0))]
theorem K40_4 : zRk 40 B40_4 = true := by decide +kernel
def B40_5 : List zRow := [(2, .iload_n 2, 1, (0, 0, 0)), (3, .aload_n 0, 1, (0, 0, 0)), (4, .getfield 59, 3, (9, 2, 0)), (7, .if_icmp .ge 21, 3, (0, 0, 0))]
theorem K40_5 : zRk 40 B40_5 = true := by decide +kernel
def F40_0 (h : zHC) : Nat → Int → Int → Option Int
  | 0, _, _ => none
  | n + 1, v1, v2 => if (h 578 1 0) ≤ v2 then some 0 else zG (0 ≤ v2 ∧ v2 < 6) (if ¬ (h 584 1 v2) = v1 then (F40_0 h n) v1 (wadd v2 1) else some 1)
set_option maxRecDepth 100000 in
theorem T40_0 {spec : zRn zH2} {hm : zHM} {o : Int → Int} {d : Nat} (hd : 0 ≤ d) (h : zHC) : ∀ (n : Nat) (v1 : Int) (v2 : Int) (v : Int), F40_0 h n v1 v2 = some v → zFin 0 (fun _ => 0) (zRu2 spec d) 40 (some (0, v)) (h, hm, o) (2, [some (19, 1), some (0, v1), some (0, v2)], [], (h, hm, o)) := by
  intro n
  induction n with
  | zero => intro v1 v2 v e; unfold F40_0 at e; cases e
  | succ n hk0 =>
    intro v1 v2 v e
    unfold F40_0 at e
    rcases zI_s e with ⟨q1, e⟩ | ⟨q1, e⟩
    · refine zF_blk (m := []) (d := 1) (b := B40_5) (gs := [(h 578 1 0) ≤ v2]) (c' := (28, [some (19, 1), some (0, v1), some (0, v2)], [], (h, hm, o))) K40_5 rfl ⟨q1, trivial⟩ ?_
      refine zF_blk (m := []) (d := 0) (b := B40_1) (gs := []) (c' := (29, [some (19, 1), some (0, v1), some (0, v2)], [(0, 0)], (h, hm, o))) K40_1 rfl trivial ?_
      cases e
      exact zF_rb (by decide +kernel) (Or.inl rfl)
    · refine zF_blk (m := []) (d := 0) (b := B40_5) (gs := [¬ ((h 578 1 0) ≤ v2)]) (c' := (10, [some (19, 1), some (0, v1), some (0, v2)], [], (h, hm, o))) K40_5 rfl ⟨q1, trivial⟩ ?_
      obtain ⟨q2, e⟩ := zG_s e
      rcases zI_s e with ⟨q3, e⟩ | ⟨q3, e⟩
      · refine zF_blk (m := []) (d := 1) (b := B40_4) (gs := [0 ≤ v2 ∧ v2 < 6, ¬ (h 584 1 v2) = v1]) (c' := (22, [some (19, 1), some (0, v1), some (0, v2)], [], (h, hm, o))) K40_4 rfl ⟨q2, q3, trivial⟩ ?_
        refine zF_blk (m := []) (d := 0) (b := B40_2) (gs := []) (c' := (2, [some (19, 1), some (0, v1), some (0, (wadd v2 1))], [], (h, hm, o))) K40_2 rfl trivial ?_
        exact hk0 v1 (wadd v2 1) _ e
      · refine zF_blk (m := []) (d := 0) (b := B40_4) (gs := [0 ≤ v2 ∧ v2 < 6, ¬ (¬ (h 584 1 v2) = v1)]) (c' := (20, [some (19, 1), some (0, v1), some (0, v2)], [], (h, hm, o))) K40_4 rfl ⟨q2, q3, trivial⟩ ?_
        refine zF_blk (m := []) (d := 0) (b := B40_3) (gs := []) (c' := (21, [some (19, 1), some (0, v1), some (0, v2)], [(0, 1)], (h, hm, o))) K40_3 rfl trivial ?_
        cases e
        exact zF_rb (by decide +kernel) (Or.inr rfl)
/-- EchoVale$Valley.hasCliff(I)Z -/
def F40 (v1 : Int) (h : zHC) : Option Int := F40_0 h zFu v1 0
set_option maxRecDepth 100000 in
theorem S40 {spec : zRn zH2} {hm : zHM} {o : Int → Int} {d : Nat} (hd : 1 ≤ d) (v1 : Int) (h : zHC) (v : Int) (e : F40 v1 h = some v) : zRu2 spec d 40 [(19, 1), (0, v1)] (h, hm, o) (some (0, v)) (h, hm, o) := by
  refine zF_in (D := 0) (mx := 3) (L := [some (19, 1), some (0, v1), none]) (by decide +kernel) rfl rfl hd (fun d hd => ?_)
  unfold F40 at e
  refine zF_blk (m := []) (d := 0) (b := B40_0) (gs := []) (c' := (2, [some (19, 1), some (0, v1), some (0, 0)], [], (h, hm, o))) K40_0 rfl trivial ?_
  exact T40_0 hd h zFu v1 0 _ e
def B34_0 : List zRow := [(23, .aload_n 0, 1, (0, 0, 0)), (24, .getfield 18, 3, (10, 2, 23))]
theorem K34_0 : zRk 34 B34_0 = true := by decide +kernel
def B34_1 : List zRow := [(30, .aload_n 0, 1, (0, 0, 0))]
theorem K34_1 : zRk 34 B34_1 = true := by decide +kernel
def B34_2 : List zRow := [(39, .aload_n 0, 1, (0, 0, 0)), (40, .getfield 18, 3, (10, 2, 23)), (43, .getfield 95, 3, (5, 7, 1)), (46, .lstore_n 2, 1, (0, 0, 0)), (47, .aload_n 0, 1, (0, 0, 0)), (48, .getfield 18, 3, (10, 2, 23))]
theorem K34_2 : zRk 34 B34_2 = true := by decide +kernel
def B34_3 : List zRow := [(54, .aload_n 0, 1, (0, 0, 0))]
theorem K34_3 : zRk 34 B34_3 = true := by decide +kernel
def B34_4 : List zRow := [(68, .aload_n 0, 1, (0, 0, 0)), (69, .getfield 12, 3, (10, 0, 167)), (72, .iload 4, 2, (0, 0, 0))]
theorem K34_4 : zRk 34 B34_4 = true := by decide +kernel
def B34_5 : List zRow := [(89, .aload_n 0, 1, (0, 0, 0)), (90, .getfield 18, 3, (10, 2, 23))]
theorem K34_5 : zRk 34 B34_5 = true := by decide +kernel
def B34_6 : List zRow := [(96, .aload_n 0, 1, (0, 0, 0)), (97, .getfield 18, 3, (10, 2, 23)), (100, .iconst 1, 1, (0, 0, 0)), (101, .bipush 40, 2, (0, 0, 0))]
theorem K34_6 : zRk 34 B34_6 = true := by decide +kernel
def B34_7 : List zRow := [(111, .aload_n 0, 1, (0, 0, 0)), (112, .getfield 18, 3, (10, 2, 23)), (115, .getfield 52, 3, (5, 6, 0)), (118, .istore 5, 2, (0, 0, 0)), (120, .aload_n 0, 1, (0, 0, 0)), (121, .getfield 18, 3, (10, 2, 23))]
theorem K34_7 : zRk 34 B34_7 = true := by decide +kernel
def B34_8 : List zRow := [(127, .aload_n 0, 1, (0, 0, 0)), (128, .getfield 18, 3, (10, 2, 23)), (131, .iconst 1, 1, (0, 0, 0)), (132, .bipush 9, 2, (0, 0, 0))]
theorem K34_8 : zRk 34 B34_8 = true := by decide +kernel
def B34_9 : List zRow := [(142, .aload_n 0, 1, (0, 0, 0)), (143, .getfield 12, 3, (10, 0, 167)), (146, .getfield 106, 3, (9, 7, 5505050)), (149, .iload_n 1, 1, (0, 0, 0)), (150, .lload_n 2, 1, (0, 0, 0)), (151, .lastore, 1, (0, 0, 0)), (152, .aload_n 0, 1, (0, 0, 0)), (153, .getfield 12, 3, (10, 0, 167)), (156, .getfield 110, 3, (9, 8, 5242906)), (159, .iload_n 1, 1, (0, 0, 0)), (160, .iload 4, 2, (0, 0, 0)), (162, .iastore, 1, (0, 0, 0)), (163, .aload_n 0, 1, (0, 0, 0)), (164, .getfield 12, 3, (10, 0, 167)), (167, .getfield 114, 3, (9, 9, 5242906)), (170, .iload_n 1, 1, (0, 0, 0)), (171, .iload 5, 2, (0, 0, 0)), (173, .iastore, 1, (0, 0, 0)), (174, .aload_n 0, 1, (0, 0, 0)), (175, .getfield 12, 3, (10, 0, 167)), (178, .getfield 117, 3, (9, 10, 5242906)), (181, .iload_n 1, 1, (0, 0, 0)), (182, .aload_n 0, 1, (0, 0, 0)), (183, .getfield 18, 3, (10, 2, 23)), (186, .getfield 52, 3, (5, 6, 0)), (189, .iastore, 1, (0, 0, 0)), (190, .aload_n 0, 1, (0, 0, 0)), (191, .getfield 12, 3, (10, 0, 167)), (194, .iload_n 1, 1, (0, 0, 0)), (195, .iconst 1, 1, (0, 0, 0)), (196, .iadd, 1, (0, 0, 0)), (197, .putfield 89, 3, (9, 2, 0)), (200, .aload_n 0, 1, (0, 0, 0)), (201, .getfield 18, 3, (10, 2, 23))]
theorem K34_9 : zRk 34 B34_9 = true := by decide +kernel
def B34_10 : List zRow := [(207, .iconst 1, 1, (0, 0, 0))]
theorem K34_10 : zRk 34 B34_10 = true := by decide +kernel
def B34_11 : List zRow := [(140, .iconst 0, 1, (0, 0, 0))]
theorem K34_11 : zRk 34 B34_11 = true := by decide +kernel
def B34_12 : List zRow := [(137, .ifCond .ne 5, 3, (0, 0, 0))]
theorem K34_12 : zRk 34 B34_12 = true := by decide +kernel
def B34_13 : List zRow := [(109, .iconst 0, 1, (0, 0, 0))]
theorem K34_13 : zRk 34 B34_13 = true := by decide +kernel
def B34_14 : List zRow := [(106, .ifCond .ne 5, 3, (0, 0, 0))]
theorem K34_14 : zRk 34 B34_14 = true := by decide +kernel
def B34_15 : List zRow := [(80, .aload_n 0, 1, (0, 0, 0)), (81, .getfield 18, 3, (10, 2, 23)), (84, .iconst 3, 1, (0, 0, 0))]
theorem K34_15 : zRk 34 B34_15 = true := by decide +kernel
def B34_16 : List zRow := [(77, .ifCond .eq 12, 3, (0, 0, 0))]
theorem K34_16 : zRk 34 B34_16 = true := by decide +kernel
def B34_17 : List zRow := [(66, .iconst 0, 1, (0, 0, 0))]
theorem K34_17 : zRk 34 B34_17 = true := by decide +kernel
def B34_18 : List zRow := [(58, .istore 4, 2, (0, 0, 0)), (60, .iload 4, 2, (0, 0, 0)), (62, .iconst (-1), 1, (0, 0, 0)), (63, .if_icmp .ne 5, 3, (0, 0, 0))]
theorem K34_18 : zRk 34 B34_18 = true := by decide +kernel
def B34_19 : List zRow := [(37, .iconst 0, 1, (0, 0, 0))]
theorem K34_19 : zRk 34 B34_19 = true := by decide +kernel
def B34_20 : List zRow := [(34, .ifCond .ne 5, 3, (0, 0, 0))]
theorem K34_20 : zRk 34 B34_20 = true := by decide +kernel
def B34_21 : List zRow := [(14, .aload_n 0, 1, (0, 0, 0)), (15, .getfield 18, 3, (10, 2, 23)), (18, .iconst 4, 1, (0, 0, 0))]
theorem K34_21 : zRk 34 B34_21 = true := by decide +kernel
def B34_22 : List zRow := [(0, .aload_n 0, 1, (0, 0, 0)), (1, .getfield 12, 3, (10, 0, 167)), (4, .getfield 89, 3, (9, 2, 0)), (7, .istore_n 1, 1, (0, 0, 0)), (8, .iload_n 1, 1, (0, 0, 0)), (9, .bipush 6, 2, (0, 0, 0)), (11, .if_icmp .lt 12, 3, (0, 0, 0))]
theorem K34_22 : zRk 34 B34_22 = true := by decide +kernel
/-- EchoVale$ValleyText.readCliff()Z -/
def F34 (h : zHC) : Option (Int × zHC) := if (h 578 1 0) < 6 then (F21 h).bind fun r1 => (F35 r1).bind fun r2 => if ¬ r2.1 = 0 then (F21 r2.2).bind fun r3 => (F39 r3).bind fun r4 => if ¬ r4.1 = (-1) then (F40 r4.1 r4.2).bind fun r5 => if r5 = 0 then (F21 r4.2).bind fun r6 => (F33 1 40 r6).bind fun r7 => if ¬ r7.1 = 0 then (F21 r7.2).bind fun r8 => (F33 1 9 r8).bind fun r9 => if ¬ r9.1 = 0 then zG (0 ≤ (h 578 1 0) ∧ (h 578 1 0) < 6) (zG (0 ≤ (h 578 1 0) ∧ (h 578 1 0) < 6) (zG (0 ≤ (h 578 1 0) ∧ (h 578 1 0) < 6) (zG (0 ≤ (h 578 1 0) ∧ (h 578 1 0) < 6) ((F21 (hset (hset (hset (hset (hset r9.2 583 1 (h 578 1 0) (r2.2 327 0 0)) 584 1 (h 578 1 0) r4.1) 585 1 (h 578 1 0) (r7.2 326 0 0)) 586 1 (h 578 1 0) ((hset (hset (hset r9.2 583 1 (h 578 1 0) (r2.2 327 0 0)) 584 1 (h 578 1 0) r4.1) 585 1 (h 578 1 0) (r7.2 326 0 0)) 326 0 0)) 578 1 0 (wadd (h 578 1 0) 1))).bind fun r10 => some (1, r10))))) else some (0, r9.2) else some (0, r7.2) else (F31 3 r4.2).bind fun r11 => zG (r11.1 = 0 ∨ r11.1 = 1) (some (r11.1, r11.2)) else some (0, r4.2) else some (0, r2.2) else (F31 4 h).bind fun r12 => zG (r12.1 = 0 ∨ r12.1 = 1) (some (r12.1, r12.2))
set_option maxRecDepth 100000 in
theorem S34 {spec : zRn zH2} {hm : zHM} {o : Int → Int} {d : Nat} (hd : 5 ≤ d) (h : zHC) (v : (Int × zHC)) (e : F34 h = some v) : zRu2 spec d 34 [(20, 0)] (h, hm, o) (some (0, v.1)) (v.2, hm, o) := by
  refine zF_in (D := 4) (mx := 6) (L := [some (20, 0), none, none, none, none, none]) (by decide +kernel) rfl rfl hd (fun d hd => ?_)
  unfold F34 at e
  rcases zI_s e with ⟨q1, e⟩ | ⟨q1, e⟩
  · refine zF_blk (m := []) (d := 1) (b := B34_22) (gs := [(h 578 1 0) < 6]) (c' := (23, [some (20, 0), some (0, (h 578 1 0)), none, none, none, none], [], (h, hm, o))) K34_22 rfl ⟨q1, trivial⟩ ?_
    obtain ⟨r1, q2, e⟩ := zB_s e
    refine zF_blk (m := []) (d := 0) (b := B34_0) (gs := []) (c' := (27, [some (20, 0), some (0, (h 578 1 0)), none, none, none, none], [(15, 0)], (h, hm, o))) K34_0 rfl trivial ?_
    refine zF_call (k := 21) (cl := 5) (n := 1) (i := .invokevirtual 79) (args := [(15, 0)]) (rest := []) (g1 := (r1, hm, o)) (r1 := none) (by decide +kernel) rfl rfl rfl (st' := []) rfl (S21 (Nat.le_trans (by decide) hd)  h _ q2) ?_
    obtain ⟨r2, q3, e⟩ := zB_s e
    refine zF_blk (m := []) (d := 0) (b := B34_1) (gs := []) (c' := (31, [some (20, 0), some (0, (h 578 1 0)), none, none, none, none], [(20, 0)], (r1, hm, o))) K34_1 rfl trivial ?_
    refine zF_call (k := 35) (cl := 10) (n := 1) (i := .invokevirtual 92) (args := [(20, 0)]) (rest := []) (g1 := (r2.2, hm, o)) (r1 := some (0, r2.1)) (by decide +kernel) rfl rfl rfl (st' := [(0, r2.1)]) rfl (S35 (Nat.le_trans (by decide) hd)  r1 _ q3) ?_
    rcases zI_s e with ⟨q4, e⟩ | ⟨q4, e⟩
    · refine zF_blk (m := []) (d := 1) (b := B34_20) (gs := [¬ r2.1 = 0]) (c' := (39, [some (20, 0), some (0, (h 578 1 0)), none, none, none, none], [], (r2.2, hm, o))) K34_20 rfl ⟨q4, trivial⟩ ?_
      obtain ⟨r3, q5, e⟩ := zB_s e
      refine zF_blk (m := []) (d := 0) (b := B34_2) (gs := []) (c' := (51, [some (20, 0), some (0, (h 578 1 0)), some (1, (r2.2 327 0 0)), none, none, none], [(15, 0)], (r2.2, hm, o))) K34_2 rfl trivial ?_
      refine zF_call (k := 21) (cl := 5) (n := 1) (i := .invokevirtual 79) (args := [(15, 0)]) (rest := []) (g1 := (r3, hm, o)) (r1 := none) (by decide +kernel) rfl rfl rfl (st' := []) rfl (S21 (Nat.le_trans (by decide) hd)  r2.2 _ q5) ?_
      obtain ⟨r4, q6, e⟩ := zB_s e
      refine zF_blk (m := []) (d := 0) (b := B34_3) (gs := []) (c' := (55, [some (20, 0), some (0, (h 578 1 0)), some (1, (r2.2 327 0 0)), none, none, none], [(20, 0)], (r3, hm, o))) K34_3 rfl trivial ?_
      refine zF_call (k := 39) (cl := 10) (n := 1) (i := .invokevirtual 99) (args := [(20, 0)]) (rest := []) (g1 := (r4.2, hm, o)) (r1 := some (0, r4.1)) (by decide +kernel) rfl rfl rfl (st' := [(0, r4.1)]) rfl (S39 (Nat.le_trans (by decide) hd)  r3 _ q6) ?_
      rcases zI_s e with ⟨q7, e⟩ | ⟨q7, e⟩
      · refine zF_blk (m := []) (d := 1) (b := B34_18) (gs := [¬ r4.1 = (-1)]) (c' := (68, [some (20, 0), some (0, (h 578 1 0)), some (1, (r2.2 327 0 0)), none, some (0, r4.1), none], [], (r4.2, hm, o))) K34_18 rfl ⟨q7, trivial⟩ ?_
        obtain ⟨r5, q8, e⟩ := zB_s e
        refine zF_blk (m := []) (d := 0) (b := B34_4) (gs := []) (c' := (74, [some (20, 0), some (0, (h 578 1 0)), some (1, (r2.2 327 0 0)), none, some (0, r4.1), none], [(0, r4.1), (19, 1)], (r4.2, hm, o))) K34_4 rfl trivial ?_
        refine zF_call (k := 40) (cl := 9) (n := 2) (i := .invokevirtual 103) (args := [(19, 1), (0, r4.1)]) (rest := []) (g1 := (r4.2, hm, o)) (r1 := some (0, r5)) (by decide +kernel) rfl rfl rfl (st' := [(0, r5)]) rfl (S40 (Nat.le_trans (by decide) hd) r4.1 r4.2 _ q8) ?_
        rcases zI_s e with ⟨q9, e⟩ | ⟨q9, e⟩
        · refine zF_blk (m := []) (d := 1) (b := B34_16) (gs := [r5 = 0]) (c' := (89, [some (20, 0), some (0, (h 578 1 0)), some (1, (r2.2 327 0 0)), none, some (0, r4.1), none], [], (r4.2, hm, o))) K34_16 rfl ⟨q9, trivial⟩ ?_
          obtain ⟨r6, q10, e⟩ := zB_s e
          refine zF_blk (m := []) (d := 0) (b := B34_5) (gs := []) (c' := (93, [some (20, 0), some (0, (h 578 1 0)), some (1, (r2.2 327 0 0)), none, some (0, r4.1), none], [(15, 0)], (r4.2, hm, o))) K34_5 rfl trivial ?_
          refine zF_call (k := 21) (cl := 5) (n := 1) (i := .invokevirtual 79) (args := [(15, 0)]) (rest := []) (g1 := (r6, hm, o)) (r1 := none) (by decide +kernel) rfl rfl rfl (st' := []) rfl (S21 (Nat.le_trans (by decide) hd)  r4.2 _ q10) ?_
          obtain ⟨r7, q11, e⟩ := zB_s e
          refine zF_blk (m := []) (d := 0) (b := B34_6) (gs := []) (c' := (103, [some (20, 0), some (0, (h 578 1 0)), some (1, (r2.2 327 0 0)), none, some (0, r4.1), none], [(0, 40), (0, 1), (15, 0)], (r6, hm, o))) K34_6 rfl trivial ?_
          refine zF_call (k := 33) (cl := 5) (n := 3) (i := .invokevirtual 82) (args := [(15, 0), (0, 1), (0, 40)]) (rest := []) (g1 := (r7.2, hm, o)) (r1 := some (0, r7.1)) (by decide +kernel) rfl rfl rfl (st' := [(0, r7.1)]) rfl (S33 (Nat.le_trans (by decide) hd) 1 40 r6 _ q11) ?_
          rcases zI_s e with ⟨q12, e⟩ | ⟨q12, e⟩
          · refine zF_blk (m := []) (d := 1) (b := B34_14) (gs := [¬ r7.1 = 0]) (c' := (111, [some (20, 0), some (0, (h 578 1 0)), some (1, (r2.2 327 0 0)), none, some (0, r4.1), none], [], (r7.2, hm, o))) K34_14 rfl ⟨q12, trivial⟩ ?_
            obtain ⟨r8, q13, e⟩ := zB_s e
            refine zF_blk (m := []) (d := 0) (b := B34_7) (gs := []) (c' := (124, [some (20, 0), some (0, (h 578 1 0)), some (1, (r2.2 327 0 0)), none, some (0, r4.1), some (0, (r7.2 326 0 0))], [(15, 0)], (r7.2, hm, o))) K34_7 rfl trivial ?_
            refine zF_call (k := 21) (cl := 5) (n := 1) (i := .invokevirtual 79) (args := [(15, 0)]) (rest := []) (g1 := (r8, hm, o)) (r1 := none) (by decide +kernel) rfl rfl rfl (st' := []) rfl (S21 (Nat.le_trans (by decide) hd)  r7.2 _ q13) ?_
            obtain ⟨r9, q14, e⟩ := zB_s e
            refine zF_blk (m := []) (d := 0) (b := B34_8) (gs := []) (c' := (134, [some (20, 0), some (0, (h 578 1 0)), some (1, (r2.2 327 0 0)), none, some (0, r4.1), some (0, (r7.2 326 0 0))], [(0, 9), (0, 1), (15, 0)], (r8, hm, o))) K34_8 rfl trivial ?_
            refine zF_call (k := 33) (cl := 5) (n := 3) (i := .invokevirtual 82) (args := [(15, 0), (0, 1), (0, 9)]) (rest := []) (g1 := (r9.2, hm, o)) (r1 := some (0, r9.1)) (by decide +kernel) rfl rfl rfl (st' := [(0, r9.1)]) rfl (S33 (Nat.le_trans (by decide) hd) 1 9 r8 _ q14) ?_
            rcases zI_s e with ⟨q15, e⟩ | ⟨q15, e⟩
            · refine zF_blk (m := []) (d := 1) (b := B34_12) (gs := [¬ r9.1 = 0]) (c' := (142, [some (20, 0), some (0, (h 578 1 0)), some (1, (r2.2 327 0 0)), none, some (0, r4.1), some (0, (r7.2 326 0 0))], [], (r9.2, hm, o))) K34_12 rfl ⟨q15, trivial⟩ ?_
              obtain ⟨q16, e⟩ := zG_s e
              obtain ⟨q16, e⟩ := zG_s e
              obtain ⟨q16, e⟩ := zG_s e
              obtain ⟨q16, e⟩ := zG_s e
              obtain ⟨r10, q17, e⟩ := zB_s e
              refine zF_blk (m := []) (d := 0) (b := B34_9) (gs := [0 ≤ (h 578 1 0) ∧ (h 578 1 0) < 6, 0 ≤ (h 578 1 0) ∧ (h 578 1 0) < 6, 0 ≤ (h 578 1 0) ∧ (h 578 1 0) < 6, 0 ≤ (h 578 1 0) ∧ (h 578 1 0) < 6]) (c' := (204, [some (20, 0), some (0, (h 578 1 0)), some (1, (r2.2 327 0 0)), none, some (0, r4.1), some (0, (r7.2 326 0 0))], [(15, 0)], ((hset (hset (hset (hset (hset r9.2 583 1 (h 578 1 0) (r2.2 327 0 0)) 584 1 (h 578 1 0) r4.1) 585 1 (h 578 1 0) (r7.2 326 0 0)) 586 1 (h 578 1 0) ((hset (hset (hset r9.2 583 1 (h 578 1 0) (r2.2 327 0 0)) 584 1 (h 578 1 0) r4.1) 585 1 (h 578 1 0) (r7.2 326 0 0)) 326 0 0)) 578 1 0 (wadd (h 578 1 0) 1)), hm, o))) K34_9 rfl ⟨q16, q16, q16, q16, trivial⟩ ?_
              refine zF_call (k := 21) (cl := 5) (n := 1) (i := .invokevirtual 79) (args := [(15, 0)]) (rest := []) (g1 := (r10, hm, o)) (r1 := none) (by decide +kernel) rfl rfl rfl (st' := []) rfl (S21 (Nat.le_trans (by decide) hd)  (hset (hset (hset (hset (hset r9.2 583 1 (h 578 1 0) (r2.2 327 0 0)) 584 1 (h 578 1 0) r4.1) 585 1 (h 578 1 0) (r7.2 326 0 0)) 586 1 (h 578 1 0) ((hset (hset (hset r9.2 583 1 (h 578 1 0) (r2.2 327 0 0)) 584 1 (h 578 1 0) r4.1) 585 1 (h 578 1 0) (r7.2 326 0 0)) 326 0 0)) 578 1 0 (wadd (h 578 1 0) 1)) _ q17) ?_
              refine zF_blk (m := []) (d := 0) (b := B34_10) (gs := []) (c' := (208, [some (20, 0), some (0, (h 578 1 0)), some (1, (r2.2 327 0 0)), none, some (0, r4.1), some (0, (r7.2 326 0 0))], [(0, 1)], (r10, hm, o))) K34_10 rfl trivial ?_
              cases e
              exact zF_rb (by decide +kernel) (Or.inr rfl)
            · refine zF_blk (m := []) (d := 0) (b := B34_12) (gs := [¬ (¬ r9.1 = 0)]) (c' := (140, [some (20, 0), some (0, (h 578 1 0)), some (1, (r2.2 327 0 0)), none, some (0, r4.1), some (0, (r7.2 326 0 0))], [], (r9.2, hm, o))) K34_12 rfl ⟨q15, trivial⟩ ?_
              refine zF_blk (m := []) (d := 0) (b := B34_11) (gs := []) (c' := (141, [some (20, 0), some (0, (h 578 1 0)), some (1, (r2.2 327 0 0)), none, some (0, r4.1), some (0, (r7.2 326 0 0))], [(0, 0)], (r9.2, hm, o))) K34_11 rfl trivial ?_
              cases e
              exact zF_rb (by decide +kernel) (Or.inl rfl)
          · refine zF_blk (m := []) (d := 0) (b := B34_14) (gs := [¬ (¬ r7.1 = 0)]) (c' := (109, [some (20, 0), some (0, (h 578 1 0)), some (1, (r2.2 327 0 0)), none, some (0, r4.1), none], [], (r7.2, hm, o))) K34_14 rfl ⟨q12, trivial⟩ ?_
            refine zF_blk (m := []) (d := 0) (b := B34_13) (gs := []) (c' := (110, [some (20, 0), some (0, (h 578 1 0)), some (1, (r2.2 327 0 0)), none, some (0, r4.1), none], [(0, 0)], (r7.2, hm, o))) K34_13 rfl trivial ?_
            cases e
            exact zF_rb (by decide +kernel) (Or.inl rfl)
        · refine zF_blk (m := []) (d := 0) (b := B34_16) (gs := [¬ (r5 = 0)]) (c' := (80, [some (20, 0), some (0, (h 578 1 0)), some (1, (r2.2 327 0 0)), none, some (0, r4.1), none], [], (r4.2, hm, o))) K34_16 rfl ⟨q9, trivial⟩ ?_
          obtain ⟨r11, q18, e⟩ := zB_s e
          refine zF_blk (m := []) (d := 0) (b := B34_15) (gs := []) (c' := (85, [some (20, 0), some (0, (h 578 1 0)), some (1, (r2.2 327 0 0)), none, some (0, r4.1), none], [(0, 3), (15, 0)], (r4.2, hm, o))) K34_15 rfl trivial ?_
          refine zF_call (k := 31) (cl := 5) (n := 2) (i := .invokevirtual 49) (args := [(15, 0), (0, 3)]) (rest := []) (g1 := (r11.2, hm, o)) (r1 := some (0, r11.1)) (by decide +kernel) rfl rfl rfl (st' := [(0, r11.1)]) rfl (S31 (Nat.le_trans (by decide) hd) 3 r4.2 _ q18) ?_
          obtain ⟨q19, e⟩ := zG_s e
          cases e
          exact zF_rb (by decide +kernel) q19
      · refine zF_blk (m := []) (d := 0) (b := B34_18) (gs := [¬ (¬ r4.1 = (-1))]) (c' := (66, [some (20, 0), some (0, (h 578 1 0)), some (1, (r2.2 327 0 0)), none, some (0, r4.1), none], [], (r4.2, hm, o))) K34_18 rfl ⟨q7, trivial⟩ ?_
        refine zF_blk (m := []) (d := 0) (b := B34_17) (gs := []) (c' := (67, [some (20, 0), some (0, (h 578 1 0)), some (1, (r2.2 327 0 0)), none, some (0, r4.1), none], [(0, 0)], (r4.2, hm, o))) K34_17 rfl trivial ?_
        cases e
        exact zF_rb (by decide +kernel) (Or.inl rfl)
    · refine zF_blk (m := []) (d := 0) (b := B34_20) (gs := [¬ (¬ r2.1 = 0)]) (c' := (37, [some (20, 0), some (0, (h 578 1 0)), none, none, none, none], [], (r2.2, hm, o))) K34_20 rfl ⟨q4, trivial⟩ ?_
      refine zF_blk (m := []) (d := 0) (b := B34_19) (gs := []) (c' := (38, [some (20, 0), some (0, (h 578 1 0)), none, none, none, none], [(0, 0)], (r2.2, hm, o))) K34_19 rfl trivial ?_
      cases e
      exact zF_rb (by decide +kernel) (Or.inl rfl)
  · refine zF_blk (m := []) (d := 0) (b := B34_22) (gs := [¬ ((h 578 1 0) < 6)]) (c' := (14, [some (20, 0), some (0, (h 578 1 0)), none, none, none, none], [], (h, hm, o))) K34_22 rfl ⟨q1, trivial⟩ ?_
    obtain ⟨r12, q20, e⟩ := zB_s e
    refine zF_blk (m := []) (d := 0) (b := B34_21) (gs := []) (c' := (19, [some (20, 0), some (0, (h 578 1 0)), none, none, none, none], [(0, 4), (15, 0)], (h, hm, o))) K34_21 rfl trivial ?_
    refine zF_call (k := 31) (cl := 5) (n := 2) (i := .invokevirtual 49) (args := [(15, 0), (0, 4)]) (rest := []) (g1 := (r12.2, hm, o)) (r1 := some (0, r12.1)) (by decide +kernel) rfl rfl rfl (st' := [(0, r12.1)]) rfl (S31 (Nat.le_trans (by decide) hd) 4 h _ q20) ?_
    obtain ⟨q21, e⟩ := zG_s e
    cases e
    exact zF_rb (by decide +kernel) q21
end
