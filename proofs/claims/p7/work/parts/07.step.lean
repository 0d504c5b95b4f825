/-! One instruction of the abstract machine is one of the real one. -/
def zLn (i : Instr) : Nat := match i with
  | .aload _ => 2
  | .iload _ => 2
  | .lload _ => 2
  | .astore _ => 2
  | .istore _ => 2
  | .lstore _ => 2
  | .bipush _ => 2
  | .ldc _ => 2
  | .newarray _ => 2
  | .sipush _ => 3
  | .ldc_w _ => 3
  | .ldc2_w _ => 3
  | .iinc _ _ => 3
  | .ifCond _ _ => 3
  | .if_icmp _ _ => 3
  | .goto _ => 3
  | .getfield _ => 3
  | .putfield _ => 3
  | .new _ => 3
  | .anewarray _ => 3
  | .invokestatic _ => 3
  | .invokespecial _ => 3
  | .invokevirtual _ => 3
  | .tableswitch _ _ _ _ => 0
  | .lookupswitch _ _ => 0
  | _ => 1
def zLnOk (i : Instr) (len : Nat) : Bool := Nat.beq (zLn i) len || Nat.beq (zLn i) 0
def zKnS (s : State) : Prop := va_AO "EchoVale$Course" s ∧ va_AO "EchoVale$Image" s ∧ (∀ r ∈ zLSN, va_Nw (.methodLinkNest (zOw r.1) r.2.1 (zmY r.2.2.1) "EchoVale") s) ∧ ∀ r ∈ zLPN, va_Nw (.methodLinkNest (zOw r.1) r.2.1 (zmY r.2.2.1) "EchoVale") s
def zIsI (mi : Nat) : Bool := decide ((zmY mi).name = "<init>")
section ZS
variable {p : Program} {l : Launch} {e : Env} {R : Room} {s : State} {m : MethodId} {args : Array Value} {below : List Frame} {meth : Method} {c : Code} {Q : State → Prop}
variable {D : va_G} {A : Nat → Prop} {H0 : Heap} {b Ls : Nat} {xs : Nat → Int32} {mi n0 s0 : Nat}
def zCx (p : Program) (R : Room) (s : State) (m : MethodId) (args : Array Value) (meth : Method) (c : Code) (A : Nat → Prop) (H0 : Heap) (b Ls : Nat) (xs : Nat → Int32) (mi : Nat) : Prop :=
  p.tables.exec = Jvm.exec ∧ c.code = zmCode mi ∧ c.maxLocals = zmMax mi ∧ s.vm.findClass (zOw (zmC mi)) = some m.cls ∧ (∀ w ∈ zGW, w.before args s = true) ∧ zKnS s ∧ (∀ q, H0.size ≤ q → A q) ∧ meth.name = (zmY mi).name ∧ (zmC mi = 16 → va_X b Ls xs s H0 ∧ b < H0.size ∧ ¬ A b ∧ Ls < 2 ^ 31) ∧ 1 ≤ R.frames ∧ 40 ≤ R.locals
/-- what is still to be shown of a place of the method -/
def zGoal (p : Program) (l : Launch) (e : Env) (R : Room) (s : State) (m : MethodId) (args : Array Value) (below : List Frame) (meth : Method) (c : Code) (Q : State → Prop) (D : va_G) (A : Nat → Prop) (H0 : Heap) (b mi n0 s0 : Nat) (as0 : List Nat) (cf : zCf zH1) : Prop :=
  ∀ (as : List Nat) (ca : Nat → ClassId) (ls : Array Slot) (H : Heap) (locs : List Loc), zHR s D A H0 as ca cf.2.2.2 H locs → zFR b (zmC mi = 16) as cf.2.2.2.length cf.2.1 cf.2.2.1 ls (zmMax mi) → as0 <+: as →
    W p l e R s m args below meth c H locs (cf.2.2.2.length - n0) (zSl cf.2.2.2 - s0) Q (F0 m cf.1 ls (cf.2.2.1.map (cv b as)))
theorem zGoal.mono {as0 as1 : List Nat} {cf : zCf zH1} (h : as0 <+: as1) (g : zGoal p l e R s m args below meth c Q D A H0 b mi n0 s0 as0 cf) : zGoal p l e R s m args below meth c Q D A H0 b mi n0 s0 as1 cf :=
  fun as ca ls H locs hH hF hp => g as ca ls H locs hH hF (h.trans hp)
theorem cv_ref {as : List Nat} {t : Nat} {x : Int} (h : zGe2 t = true) : ∃ r : Nat, cv b as (t, x) = .ref r := by
  have h2 := Nat.le_of_ble_eq_true h
  unfold cv
  simp only
  split
  · omega
  · omega
  · exact ⟨_, rfl⟩
  · exact ⟨_, rfl⟩
theorem zFR.push {sc : Prop} {as : List Nat} {n nL : Nat} {L : zLo} {st : List zAv} {ls : Array Slot} {a : zAv} (h : zFR b sc as n L st ls nL) (ha : wfv n sc a) : zFR b sc as n L (a :: st) ls nL :=
  ⟨h.1, h.2.1, h.2.2.1, fun x hx => by
    rcases List.mem_cons.mp hx with rfl | hx
    · exact ha
    · exact h.2.2.2 x hx⟩
theorem zFR.tl {sc : Prop} {as : List Nat} {n nL : Nat} {L : zLo} {st : List zAv} {ls : Array Slot} {a : zAv} (h : zFR b sc as n L (a :: st) ls nL) : zFR b sc as n L st ls nL :=
  ⟨h.1, h.2.1, h.2.2.1, fun x hx => h.2.2.2 x (List.mem_cons_of_mem _ hx)⟩
theorem zFR.hd {sc : Prop} {as : List Nat} {n nL : Nat} {L : zLo} {st : List zAv} {ls : Array Slot} {a : zAv} (h : zFR b sc as n L (a :: st) ls nL) : wfv n sc a := h.2.2.2 a List.mem_cons_self
theorem zFR.sto {sc : Prop} {as : List Nat} {n nL k : Nat} {L L' : zLo} {st : List zAv} {ls ls' : Array Slot} {a : zAv} (h : zFR b sc as n L st ls nL) (ha : wfv n sc a) (h1 : lvF b as ls' nL L') (h2 : L'.length = L.length) (h3 : ∀ i c, zGl L' i = some c → (c = a) ∨ zGl L i = some c) : zFR b sc as n L' st ls' nL :=
  ⟨h1, h2.trans h.2.1, fun i c hc => by
    rcases h3 i c hc with rfl | h4
    · exact ha
    · exact h.2.2.1 i c h4, h.2.2.2⟩
theorem zSt_or {L : zLo} {k : Nat} {a : zAv} : ∀ i c, zGl (zSt L k a) i = some c → (c = a) ∨ zGl L i = some c := by
  intro i c hc
  rcases zGl_set hc with ⟨-, h2⟩ | ⟨-, h2⟩
  · cases h2; exact Or.inl rfl
  · exact Or.inr (zGl_kl h2).1
theorem zStL_or {L : zLo} {k : Nat} {a : zAv} : ∀ i c, zGl (zStL L k a) i = some c → (c = a) ∨ zGl L i = some c := by
  intro i c hc
  rcases zGl_set hc with ⟨-, h2⟩ | ⟨-, h2⟩
  · cases h2
  · rcases zGl_set h2 with ⟨-, h2⟩ | ⟨-, h2⟩
    · cases h2; exact Or.inl rfl
    · exact Or.inr (zGl_kl h2).1
theorem zSt_len {L : zLo} {k : Nat} {a : zAv} : (zSt L k a).length = L.length := by simp [zSt, zKl_len]
theorem zStL_len {L : zLo} {k : Nat} {a : zAv} : (zStL L k a).length = L.length := by simp [zStL, zKl_len]
theorem lvF.at {as : List Nat} {ls : Array Slot} {nL i : Nat} {L : zLo} {a : zAv} (h : lvF b as ls nL L) (e : zGl L i = some a) : ls[i]? = some (.val (cv b as a)) := h.2.2 i a e
/-- loads -/
theorem z_ld {pc len n : Nat} {L : zLo} {st : List zAv} {h : zH1} {gs : List Prop} {cf : zCf zH1} {ok : Nat → Bool} {as0 : List Nat}
    (row : ∀ (as : List Nat) (t : Nat) (x : Int) (ls : Array Slot) (H : Heap) (locs : List Loc) (rest : List Value) (k1 k2 : Nat), ok t = true → ls[n]? = some (.val (cv b as (t, x))) → W p l e R s m args below meth c H locs k1 k2 Q (F0 m (pc + len) ls (cv b as (t, x) :: rest)) → W p l e R s m args below meth c H locs k1 k2 Q (F0 m pc ls rest))
    (hE : zLd ok n len (pc, L, st, h) = some (gs, cf)) (kk : zGoal p l e R s m args below meth c Q D A H0 b mi n0 s0 as0 cf) : zGoal p l e R s m args below meth c Q D A H0 b mi n0 s0 as0 (pc, L, st, h) := by
  unfold zLd at hE
  simp only at hE
  split at hE
  · rename_i t x e1
    split at hE
    · rename_i e2
      cases hE
      intro as ca ls H locs hH hF hp
      exact row as t x ls H locs _ _ _ e2 (hF.1.at e1) (kk as ca ls H locs hH (hF.push (hF.2.2.1 n _ e1)) hp)
    · cases hE
  · cases hE
/-- a push -/
theorem z_pu {pc len : Nat} {L : zLo} {st : List zAv} {h : zH1} {gs : List Prop} {cf : zCf zH1} {v : zAv} {as0 : List Nat} (hv : ∀ n, wfv n (zmC mi = 16) v)
    (row : ∀ (as : List Nat) (ls : Array Slot) (H : Heap) (locs : List Loc) (rest : List Value) (k1 k2 : Nat), W p l e R s m args below meth c H locs k1 k2 Q (F0 m (pc + len) ls (cv b as v :: rest)) → W p l e R s m args below meth c H locs k1 k2 Q (F0 m pc ls rest))
    (hE : zPu v len (pc, L, st, h) = some (gs, cf)) (kk : zGoal p l e R s m args below meth c Q D A H0 b mi n0 s0 as0 cf) : zGoal p l e R s m args below meth c Q D A H0 b mi n0 s0 as0 (pc, L, st, h) := by
  cases hE
  intro as ca ls H locs hH hF hp
  exact row as ls H locs _ _ _ (kk as ca ls H locs hH (hF.push (hv _)) hp)
/-- stores -/
theorem z_sto {pc len n : Nat} {L : zLo} {st : List zAv} {h : zH1} {gs : List Prop} {cf : zCf zH1} {ok : Nat → Bool} {as0 : List Nat}
    (row : ∀ (as : List Nat) (t : Nat) (x : Int) (ls : Array Slot) (H : Heap) (locs : List Loc) (rest : List Value) (k1 k2 : Nat), ok t = true → n < zmMax mi → lv_has ls (zmMax mi) (zAs b as L) → (∀ ls' : Array Slot, lv_has ls' (zmMax mi) ((n, cv b as (t, x)) :: (zAs b as L).filter (fun q => !(q.1 == n) && !(q.1 + 1 == n && q.2.category == 2))) → W p l e R s m args below meth c H locs k1 k2 Q (F0 m (pc + len) ls' rest)) → W p l e R s m args below meth c H locs k1 k2 Q (F0 m pc ls (cv b as (t, x) :: rest)))
    (hE : zSto ok n len (pc, L, st, h) = some (gs, cf)) (kk : zGoal p l e R s m args below meth c Q D A H0 b mi n0 s0 as0 cf) : zGoal p l e R s m args below meth c Q D A H0 b mi n0 s0 as0 (pc, L, st, h) := by
  unfold zSto at hE
  simp only at hE
  split at hE
  · rename_i t x r
    split at hE
    · rename_i e2
      cases hE
      rw [Bool.and_eq_true] at e2
      intro as ca ls H locs hH hF hp
      have hn : n < zmMax mi := by rw [← hF.2.1]; exact Nat.le_of_ble_eq_true e2.2
      exact row as t x ls H locs _ _ _ e2.1 hn hF.1.has (fun ls' hl => kk as ca ls' H locs hH (hF.tl.sto (k := 0) hF.hd (lvF.sto hl) zSt_len zSt_or) hp)
    · cases hE
  · cases hE
theorem z_stoL {pc len n : Nat} {L : zLo} {st : List zAv} {h : zH1} {gs : List Prop} {cf : zCf zH1} {as0 : List Nat}
    (row : ∀ (as : List Nat) (x : Int) (ls : Array Slot) (H : Heap) (locs : List Loc) (rest : List Value) (k1 k2 : Nat), n + 1 < zmMax mi → lv_has ls (zmMax mi) (zAs b as L) → (∀ ls' : Array Slot, lv_has ls' (zmMax mi) ((n, .long (Int64.ofInt x)) :: (zAs b as L).filter (fun q => !(q.1 == n) && (!(q.1 == n + 1) && !(q.1 + 1 == n && q.2.category == 2)))) → W p l e R s m args below meth c H locs k1 k2 Q (F0 m (pc + len) ls' rest)) → W p l e R s m args below meth c H locs k1 k2 Q (F0 m pc ls (.long (Int64.ofInt x) :: rest)))
    (hE : zStoL n len (pc, L, st, h) = some (gs, cf)) (kk : zGoal p l e R s m args below meth c Q D A H0 b mi n0 s0 as0 cf) : zGoal p l e R s m args below meth c Q D A H0 b mi n0 s0 as0 (pc, L, st, h) := by
  unfold zStoL at hE
  simp only at hE
  split at hE
  · rename_i x r
    split at hE
    · rename_i e2
      cases hE
      intro as ca ls H locs hH hF hp
      have hn : n + 1 < zmMax mi := by rw [← hF.2.1]; exact Nat.le_of_ble_eq_true e2
      exact row as x ls H locs _ _ _ hn hF.1.has (fun ls' hl => kk as ca ls' H locs hH (hF.tl.sto (k := 0) hF.hd (lvF.stoL hl) zStL_len zStL_or) hp)
    · cases hE
  · cases hE
theorem z_b0 {pc : Nat} {L : zLo} {st : List zAv} {h : zH1} {gs : List Prop} {cf : zCf zH1} {f : Int → Int → Int} {as0 : List Nat} {F : Int32 → Int32 → Int32} (hf : ∀ x y, f x y = (F (Int32.ofInt x) (Int32.ofInt y)).toInt)
    (row : ∀ (x y : Int32) (ls : Array Slot) (H : Heap) (locs : List Loc) (rest : List Value) (k1 k2 : Nat), W p l e R s m args below meth c H locs k1 k2 Q (F0 m (pc + 1) ls (.int (F x y) :: rest)) → W p l e R s m args below meth c H locs k1 k2 Q (F0 m pc ls (.int y :: .int x :: rest)))
    (hE : zB0 f (pc, L, st, h) = some (gs, cf)) (kk : zGoal p l e R s m args below meth c Q D A H0 b mi n0 s0 as0 cf) : zGoal p l e R s m args below meth c Q D A H0 b mi n0 s0 as0 (pc, L, st, h) := by
  unfold zB0 at hE
  simp only at hE
  split at hE
  · rename_i y x r
    cases hE
    intro as ca ls H locs hH hF hp
    refine row (Int32.ofInt x) (Int32.ofInt y) ls H locs _ _ _ ?_
    have := kk as ca ls H locs hH (hF.tl.tl.push (a := (0, f x y)) (by rw [hf]; exact r32 _)) hp
    simpa only [List.map_cons, cv, hf, Int32.ofInt_toInt] using this
  · cases hE
theorem z_b0d {pc : Nat} {L : zLo} {st : List zAv} {h : zH1} {gs : List Prop} {cf : zCf zH1} {f : Int → Int → Int} {as0 : List Nat} {F : Int32 → Int32 → Int32} (hf : ∀ x y, f x y = (F (Int32.ofInt x) (Int32.ofInt y)).toInt)
    (row : ∀ (x y : Int32) (ls : Array Slot) (H : Heap) (locs : List Loc) (rest : List Value) (k1 k2 : Nat), ¬ y = 0 → W p l e R s m args below meth c H locs k1 k2 Q (F0 m (pc + 1) ls (.int (F x y) :: rest)) → W p l e R s m args below meth c H locs k1 k2 Q (F0 m pc ls (.int y :: .int x :: rest)))
    (hE : zB0d f (pc, L, st, h) = some (gs, cf)) (hg : zAll gs) (kk : zGoal p l e R s m args below meth c Q D A H0 b mi n0 s0 as0 cf) : zGoal p l e R s m args below meth c Q D A H0 b mi n0 s0 as0 (pc, L, st, h) := by
  unfold zB0d at hE
  simp only at hE
  split at hE
  · rename_i y x r
    cases hE
    intro as ca ls H locs hH hF hp
    have hy : ¬ Int32.ofInt y = 0 := by
      rw [← o32_0, o32_eq hF.hd r32_0]; exact hg.1
    refine row (Int32.ofInt x) (Int32.ofInt y) ls H locs _ _ _ hy ?_
    have := kk as ca ls H locs hH (hF.tl.tl.push (a := (0, f x y)) (by rw [hf]; exact r32 _)) hp
    simpa only [List.map_cons, cv, hf, Int32.ofInt_toInt] using this
  · cases hE
theorem z_b1 {pc : Nat} {L : zLo} {st : List zAv} {h : zH1} {gs : List Prop} {cf : zCf zH1} {f : Int → Int → Int} {as0 : List Nat} {F : Int64 → Int64 → Int64} (hf : ∀ x y, f x y = (F (Int64.ofInt x) (Int64.ofInt y)).toInt)
    (row : ∀ (x y : Int64) (ls : Array Slot) (H : Heap) (locs : List Loc) (rest : List Value) (k1 k2 : Nat), W p l e R s m args below meth c H locs k1 k2 Q (F0 m (pc + 1) ls (.long (F x y) :: rest)) → W p l e R s m args below meth c H locs k1 k2 Q (F0 m pc ls (.long y :: .long x :: rest)))
    (hE : zB1 f (pc, L, st, h) = some (gs, cf)) (kk : zGoal p l e R s m args below meth c Q D A H0 b mi n0 s0 as0 cf) : zGoal p l e R s m args below meth c Q D A H0 b mi n0 s0 as0 (pc, L, st, h) := by
  unfold zB1 at hE
  simp only at hE
  split at hE
  · rename_i y x r
    cases hE
    intro as ca ls H locs hH hF hp
    refine row (Int64.ofInt x) (Int64.ofInt y) ls H locs _ _ _ ?_
    have := kk as ca ls H locs hH (hF.tl.tl.push (a := (1, f x y)) (by rw [hf]; exact r64 _)) hp
    simpa only [List.map_cons, cv, hf, Int64.ofInt_toInt] using this
  · cases hE
theorem z_b1d {pc : Nat} {L : zLo} {st : List zAv} {h : zH1} {gs : List Prop} {cf : zCf zH1} {f : Int → Int → Int} {as0 : List Nat} {F : Int64 → Int64 → Int64} (hf : ∀ x y, f x y = (F (Int64.ofInt x) (Int64.ofInt y)).toInt)
    (row : ∀ (x y : Int64) (ls : Array Slot) (H : Heap) (locs : List Loc) (rest : List Value) (k1 k2 : Nat), ¬ y = 0 → W p l e R s m args below meth c H locs k1 k2 Q (F0 m (pc + 1) ls (.long (F x y) :: rest)) → W p l e R s m args below meth c H locs k1 k2 Q (F0 m pc ls (.long y :: .long x :: rest)))
    (hE : zB1d f (pc, L, st, h) = some (gs, cf)) (hg : zAll gs) (kk : zGoal p l e R s m args below meth c Q D A H0 b mi n0 s0 as0 cf) : zGoal p l e R s m args below meth c Q D A H0 b mi n0 s0 as0 (pc, L, st, h) := by
  unfold zB1d at hE
  simp only at hE
  split at hE
  · rename_i y x r
    cases hE
    intro as ca ls H locs hH hF hp
    have hy : ¬ Int64.ofInt y = 0 := by
      rw [show (0 : Int64) = Int64.ofInt 0 from rfl, o64_eq hF.hd ⟨by decide, by decide⟩]; exact hg.1
    refine row (Int64.ofInt x) (Int64.ofInt y) ls H locs _ _ _ hy ?_
    have := kk as ca ls H locs hH (hF.tl.tl.push (a := (1, f x y)) (by rw [hf]; exact r64 _)) hp
    simpa only [List.map_cons, cv, hf, Int64.ofInt_toInt] using this
  · cases hE
theorem z_b10 {pc : Nat} {L : zLo} {st : List zAv} {h : zH1} {gs : List Prop} {cf : zCf zH1} {f : Int → Int → Int} {as0 : List Nat} {F : Int64 → Int32 → Int64} (hf : ∀ x y, f x y = (F (Int64.ofInt x) (Int32.ofInt y)).toInt)
    (row : ∀ (x : Int64) (y : Int32) (ls : Array Slot) (H : Heap) (locs : List Loc) (rest : List Value) (k1 k2 : Nat), W p l e R s m args below meth c H locs k1 k2 Q (F0 m (pc + 1) ls (.long (F x y) :: rest)) → W p l e R s m args below meth c H locs k1 k2 Q (F0 m pc ls (.int y :: .long x :: rest)))
    (hE : zB10 f (pc, L, st, h) = some (gs, cf)) (kk : zGoal p l e R s m args below meth c Q D A H0 b mi n0 s0 as0 cf) : zGoal p l e R s m args below meth c Q D A H0 b mi n0 s0 as0 (pc, L, st, h) := by
  unfold zB10 at hE
  simp only at hE
  split at hE
  · rename_i y x r
    cases hE
    intro as ca ls H locs hH hF hp
    refine row (Int64.ofInt x) (Int32.ofInt y) ls H locs _ _ _ ?_
    have := kk as ca ls H locs hH (hF.tl.tl.push (a := (1, f x y)) (by rw [hf]; exact r64 _)) hp
    simpa only [List.map_cons, cv, hf, Int64.ofInt_toInt] using this
  · cases hE
end ZS
