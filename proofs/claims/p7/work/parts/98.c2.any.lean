/-! A run of the law's own places that makes nothing new, at any counts: seen from a rebased start. -/
section ZANY
variable {p : Program} {l : Launch} {e : Env} {R : Room} {s : State} {m : MethodId} {args : Array Value} {below : List Frame} {meth : Method} {c : Code} {Q : State → Prop}
variable {D : va_G} {A : Nat → Prop} {H0 : Heap} {b Ls : Nat} {xs : Nat → Int32} {mi : Nat} {bs : Nat} {K : State → Heap → Prop}
theorem zb_back {T S : State} {R' : Room} {locs locs' : List Loc} {cells slots k n : Nat} (X : Stand p l e R s m args below meth c T locs cells slots) (Y : Stand p l e R' ((T.setVm s.vm).setFrames (.invoking m args :: below)) m args below meth c T [] 0 0) (Z : Stand p l e R' ((T.setVm s.vm).setFrames (.invoking m args :: below)) m args below meth c S locs' k n) :
    Stand p l e R s m args below meth c S (locs ++ locs') (cells + k) (slots + n) := by
  have hW0 : s.WarmedH ((T.setVm s.vm).setFrames (.invoking m args :: below)).vm := State.WarmedH.refl s
  refine { admits := X.admits, cas := X.cas, clock := X.clock, frames := X.frames, room := X.room, hears := X.hears, method := X.method, code := X.code, here := Z.here, tail := Z.tail, warmed := State.WarmedH.trans hW0 Z.warmed, limits := Z.limits.trans (Y.limits.symm.trans X.limits), bytes := Z.bytes.trans (Y.bytes.symm.trans X.bytes), same := ?_ }
  obtain ⟨e1, e2⟩ := Z.same
  rw [State.setFrames_setFrames] at e1
  have h2 : (T.setVm s.vm).sameButNew (S.setVm s.vm) locs' k n := ⟨e1, e2⟩
  exact X.same.trans h2
theorem z_any {d n : Nat} {cf cf' : zCf zH1} {run : zRn zH1} {as : List Nat} {ca : Nat → ClassId} {ls : Array Slot} {H : Heap} {locs : List Loc} {k1 k2 : Nat} (hRf : d + 1 ≤ R.frames) (hRl : 60 * d + 40 ≤ R.locals) (hk1 : k1 ≤ R.cells) (hk2 : k2 ≤ R.slots)
    (hkp : zKeep bs K) (XK : K s H0 ∧ bs ≤ H0.size ∧ ∀ q, A q → bs ≤ q) (X : zCx p R s m args meth c A H0 b Ls xs mi) (hm : ∀ k args h r h', run k args h r h' → zMetK l bs K d k args h r h') (hS : zReach (zHop1 Ls (fun j => (xs j).toInt)) zRc1 run mi n cf cf')
    (e1 : cf'.2.2.2.length = cf.2.2.2.length) (e2 : zSl cf'.2.2.2 = zSl cf.2.2.2) (hH : zHR s D A H0 as ca cf.2.2.2 H locs) (hF : zFR b (zmC mi = 16) as cf.2.2.2.length cf.2.1 cf.2.2.1 ls (zmMax mi))
    (kk : ∀ (as' : List Nat) (ca' : Nat → ClassId) (ls' : Array Slot) (H' : Heap) (locs' : List Loc), zHR s D A H0 as' ca' cf'.2.2.2 H' locs' → zFR b (zmC mi = 16) as' cf'.2.2.2.length cf'.2.1 cf'.2.2.1 ls' (zmMax mi) → as <+: as' → W p l e R s m args below meth c H' locs' k1 k2 Q (F0 m cf'.1 ls' (cf'.2.2.1.map (cv b as')))) :
    W p l e R s m args below meth c H locs k1 k2 Q (F0 m cf.1 ls (cf.2.2.1.map (cv b as))) := by
  intro T hT XT
  have Y := vx_rebase XT (R' := { frames := R.frames, locals := R.locals, cells := 0, slots := 0 }) (Nat.le_refl _) (Nat.le_refl _) hk1 hk2
  have hW0 : s.WarmedH ((T.setVm s.vm).setFrames (.invoking m args :: below)).vm := State.WarmedH.refl s
  obtain ⟨g1, g2, g3, g4, g5, g6, g7, g8, g9, g10, g11⟩ := X
  obtain ⟨h1, h2, h3, h4, h5, h6⟩ := hH
  have X' : zCx p { frames := R.frames, locals := R.locals, cells := 0, slots := 0 } ((T.setVm s.vm).setFrames (.invoking m args :: below)) m args meth c A H b Ls xs mi := by
    refine ⟨g1, g2, g3, g4, fun w hw => vx_ot_at hW0 rfl (by rw [vx_ot, (List.mem_filter.mp hw).2, Bool.or_true]) (g5 w hw), zKnS_same (u := s) rfl g6, fun q hq => g7 q (Nat.le_trans h5.1 hq), g8, fun q => ?_, g10, g11⟩
    obtain ⟨a1, a2, a3, a4⟩ := g9 q
    exact ⟨va_X.moved (u := s) hW0.alike (a1.kept (h5.2.1 b a2 a3)), Nat.lt_of_lt_of_le a2 h5.1, a3, a4⟩
  have XK' : K ((T.setVm s.vm).setFrames (.invoking m args :: below)) H ∧ bs ≤ H.size ∧ ∀ q, A q → bs ≤ q := ⟨hkp s _ H0 H hW0 XK.1 (fun a ha hb => h5.2.1 a ha (fun z => hb (XK.2.2 a z))), Nat.le_trans XK.2.1 h5.1, XK.2.2⟩
  have hH' : zHR ((T.setVm s.vm).setFrames (.invoking m args :: below)) D A H as ca cf.2.2.2 H [] := ⟨h1, zKnH.moved (u := s) hW0.alike h2, h3, h4, va_S.rf, h6⟩
  have key : zGoal p l e { frames := R.frames, locals := R.locals, cells := 0, slots := 0 } ((T.setVm s.vm).setFrames (.invoking m args :: below)) m args below meth c (fun t => ∃ (T' : State) (as' : List Nat) (ca' : Nat → ClassId) (ls' : Array Slot) (locs' : List Loc), t = T'.setTop (F0 m cf'.1 ls' (cf'.2.2.1.map (cv b as'))) ∧ zHR ((T.setVm s.vm).setFrames (.invoking m args :: below)) D A H as' ca' cf'.2.2.2 T'.heap locs' ∧ zFR b (zmC mi = 16) as' cf'.2.2.2.length cf'.2.1 cf'.2.2.1 ls' (zmMax mi) ∧ as <+: as' ∧ Stand p l e { frames := R.frames, locals := R.locals, cells := 0, slots := 0 } ((T.setVm s.vm).setFrames (.invoking m args :: below)) m args below meth c T' locs' 0 0) D A H b mi cf.2.2.2.length (zSl cf.2.2.2) as cf := by
    refine z_reachK (d := d) (n := n) hRf hRl hkp XK' X' hm hS (Nat.le_refl _) (Nat.le_refl _) (by rw [e1, Nat.sub_self]; exact Nat.le_refl _) (by rw [e2, Nat.sub_self]; exact Nat.le_refl _) ?_
    intro as' ca' ls' H' locs' hH2 hF2 hp2 T' hT' Z
    subst hT'
    rw [e1, e2, Nat.sub_self, Nat.sub_self] at Z
    exact ⟨_, Steps.refl _, T', as', ca', ls', locs', rfl, hH2, hF2, hp2, Z⟩
  have r := key as ca ls H [] hH' hF (List.prefix_refl _)
  rw [Nat.sub_self, Nat.sub_self] at r
  obtain ⟨t, st, T', as', ca', ls', locs', rfl, k3, k4, k5, Z⟩ := r T hT Y
  have ZZ := zb_back XT Y Z
  obtain ⟨j1, j2, j3, j4, j5, j6⟩ := k3
  obtain ⟨t2, st2, q2⟩ := kk as' ca' ls' T'.heap (locs ++ locs') ⟨j1, zKnH.moved (u := (T.setVm s.vm).setFrames (.invoking m args :: below)) (U := s) (Vm.Alike.refl s.vm) j2, j3, j4, ⟨Nat.le_trans h5.1 j5.1, fun q c1 c2 => (j5.2.1 q (Nat.lt_of_lt_of_le c1 h5.1) c2).trans (h5.2.1 q c1 c2), fun q hq => by
    rcases List.mem_append.mp hq with hq | hq
    · exact h5.2.2 q hq
    · exact j5.2.2 q hq⟩, j6⟩ k4 k5 T' rfl ZZ
  exact ⟨t2, st.trans st2, q2⟩
end ZANY
