-- ===== PART A: goes FIRST, ahead of the names: the tables' words, and 'selects' of the private methods out of them =====
/-- a private method of a class that the tables say can be made, by its rows of tables_1 -/
def lw_okq (q : MethodName × Nat) : Prop := (q.1.cls ≠ "java/lang/invoke/MethodHandle" ∧ q.1.cls ≠ "java/lang/invoke/VarHandle") ∧ Cond.instantiable q.1.cls q.2 ∈ tables_1 ∧ Cond.privateMethod q.1 ∈ tables_1 ∧ Cond.instanceMethod q.1 ∈ tables_1
def lw_T (k : Nat) : List Cond := match k with
  | 0 => tables_1_1
  | 1 => tables_1_2
  | 2 => tables_1_3
  | 3 => tables_1_4
  | 4 => tables_1_5
  | 5 => tables_1_6
  | 6 => tables_1_7
  | 7 => tables_1_8
  | _ => []
def lw_U (k : Nat) : Nat → List Cond
  | 0 => lw_T k
  | j + 1 => (lw_U k j).drop 16
def lw_q (p : Nat × Nat) : Option Cond := (lw_U p.1 (p.2 / 16))[p.2 % 16]?
theorem lw_Um {k j : Nat} {w : Cond} (h : w ∈ lw_U k j) : w ∈ lw_T k := by
  induction j with
  | zero => exact h
  | succ j ih => exact ih (List.mem_of_mem_drop h)
theorem lw_qm {p : Nat × Nat} {w : Cond} (h : lw_q p = some w) : w ∈ tables_1 := by
  have h1 : w ∈ lw_T p.1 := lw_Um (List.mem_of_getElem? h)
  clear h
  unfold tables_1
  unfold lw_T at h1
  split at h1 <;> first | exact absurd h1 List.not_mem_nil | (simp only [List.mem_append]; simp only [h1, true_or, or_true])
def lw_cls : List String := ["EchoVale$Reader", "EchoVale$ValleyText", "EchoVale", "EchoVale$Course", "EchoVale$Pieces", "EchoVale$ClaimsText", "EchoVale$Draws", "EchoVale$SentenceText", "EchoVale$Sentence", "java/lang/Throwable", "EchoValeModel"]
theorem lw_ne : ∀ c ∈ lw_cls, c ≠ "java/lang/invoke/MethodHandle" ∧ c ≠ "java/lang/invoke/VarHandle" := by decide +kernel
theorem lw_in {J : List ((Nat × Nat) × (Nat × Nat) × (Nat × Nat) × Nat)} {l : List (MethodName × Nat)} (h : J.map (fun r => (lw_q r.1, lw_q r.2.1, lw_q r.2.2.1, lw_cls[r.2.2.2]?)) = l.map (fun q => (some (Cond.instantiable q.1.cls q.2), some (Cond.privateMethod q.1), some (Cond.instanceMethod q.1), some q.1.cls))) : ∀ q ∈ l, lw_okq q := by
  intro q hq
  have h1 := List.mem_map_of_mem (f := fun q : MethodName × Nat => (some (Cond.instantiable q.1.cls q.2), some (Cond.privateMethod q.1), some (Cond.instanceMethod q.1), some q.1.cls)) hq
  rw [← h] at h1
  obtain ⟨r, _, e⟩ := List.mem_map.mp h1
  have e1 := congrArg Prod.fst e
  have e2 := congrArg (fun x => x.2.1) e
  have e3 := congrArg (fun x => x.2.2.1) e
  have e4 := congrArg (fun x => x.2.2.2) e
  exact ⟨lw_ne _ (List.mem_of_getElem? e4), lw_qm e1, lw_qm e2, lw_qm e3⟩
def lw_key (s : String) : Nat := s.toByteArray.data.toList.foldl (fun n b => n * 256 + b.toNat) 0
theorem lw_nm {T : u_T} {n : Nat} (K : List Nat) (h1 : ∀ a, a < n → lw_key (T a).2.1 = K.getD a 0) (h2 : ∀ a, a < n → ∀ b, b < n → a ≠ b → K.getD a 0 ≠ K.getD b 0) : ∀ a, a < n → ∀ b, b < n → a ≠ b → (T a).2.1 ≠ (T b).2.1 := fun a ha b hb hab e => h2 a ha b hb hab ((h1 a ha).symm.trans ((congrArg lw_key e).trans (h1 b hb)))
def lw_privs_1 : List (MethodName × Nat) := [(⟨"EchoVale$Reader", "readRun", "()V"⟩, 11), (⟨"EchoVale$Reader", "keywordOf", "(J)I"⟩, 11), (⟨"EchoVale$ValleyText", "readLine", "()Z"⟩, 3), (⟨"EchoVale$ValleyText", "readLand", "()Z"⟩, 3), (⟨"EchoVale$ValleyText", "readCliff", "()Z"⟩, 3), (⟨"EchoVale$ValleyText", "isNewName", "()Z"⟩, 3), (⟨"EchoVale$ValleyText", "cellHere", "()I"⟩, 3), (⟨"EchoVale$ValleyText", "readPerson", "()Z"⟩, 3), (⟨"EchoVale$ValleyText", "readMove", "()Z"⟩, 3), (⟨"EchoVale$ValleyText", "readCamp", "()Z"⟩, 3), (⟨"EchoVale$ValleyText", "readFelt", "()Z"⟩, 3), (⟨"EchoVale$ValleyText", "readSnow", "()Z"⟩, 3), (⟨"EchoVale", "isSaying", "(I)Z"⟩, 17), (⟨"EchoVale", "isCliff", "(I)Z"⟩, 17), (⟨"EchoVale", "isPerson", "(I)Z"⟩, 17), (⟨"EchoVale$Course", "offer", "(LEchoVale$Valley;III)V"⟩, 9)]
def lw_J_1 : List ((Nat × Nat) × (Nat × Nat) × (Nat × Nat) × Nat) := [((0, 35), (2, 79), (2, 80), 0), ((0, 35), (2, 83), (2, 84), 0), ((1, 12), (2, 94), (2, 95), 1), ((1, 12), (2, 102), (2, 103), 1), ((1, 12), (2, 112), (2, 113), 1), ((1, 12), (2, 116), (2, 117), 1), ((1, 12), (2, 132), (2, 133), 1), ((1, 12), (2, 140), (2, 141), 1), ((1, 12), (2, 144), (2, 145), 1), ((1, 12), (2, 157), (2, 158), 1), ((1, 12), (2, 161), (2, 162), 1), ((1, 12), (2, 169), (2, 170), 1), ((0, 27), (2, 213), (2, 214), 2), ((0, 27), (2, 217), (2, 218), 2), ((0, 27), (2, 225), (2, 226), 2), ((1, 84), (3, 77), (3, 78), 3)]
set_option maxRecDepth 100000 in
theorem lw_a_1 : lw_J_1.map (fun r => (lw_q r.1, lw_q r.2.1, lw_q r.2.2.1, lw_cls[r.2.2.2]?)) = lw_privs_1.map (fun q => (some (Cond.instantiable q.1.cls q.2), some (Cond.privateMethod q.1), some (Cond.instanceMethod q.1), some q.1.cls)) := rfl
theorem lw_r1 : ∀ q ∈ lw_privs_1, lw_okq q := lw_in lw_a_1
def lw_privs_2 : List (MethodName × Nat) := [(⟨"EchoVale$Course", "findSoonest", "(I)V"⟩, 9), (⟨"EchoVale$Course", "giveBack", "(LEchoVale$Valley;II)V"⟩, 9), (⟨"EchoVale$Course", "sound", "(LEchoVale$Valley;III)V"⟩, 9), (⟨"EchoVale$Course", "enterLog", "(IIII)V"⟩, 9), (⟨"EchoVale", "wealthByCamping", "(III)I"⟩, 17), (⟨"EchoVale", "areCamps", "(I)Z"⟩, 17), (⟨"EchoVale", "passByCamps", "(II)V"⟩, 17), (⟨"EchoVale", "keepOutcome", "(I)V"⟩, 17), (⟨"EchoVale", "isRest", "(I)Z"⟩, 17), (⟨"EchoVale", "passOneSaying", "(IIII)V"⟩, 17), (⟨"EchoVale$Pieces", "canBegin", "(LEchoVale$Valley;I)Z"⟩, 6), (⟨"EchoVale$Pieces", "isWay", "(LEchoVale$Valley;LEchoVale$Course;III)Z"⟩, 6), (⟨"EchoVale$Pieces", "isLogged", "(LEchoVale$Course;I)Z"⟩, 6), (⟨"EchoVale$Pieces", "addWay", "(I)V"⟩, 6), (⟨"EchoVale$ClaimsText", "readLine", "(LEchoVale$Valley;LEchoVale$Course;I)Z"⟩, 2), (⟨"EchoVale$Draws", "draw", "(I)I"⟩, 3)]
def lw_J_2 : List ((Nat × Nat) × (Nat × Nat) × (Nat × Nat) × Nat) := [((1, 84), (3, 81), (3, 82), 3), ((1, 84), (3, 98), (3, 99), 3), ((1, 84), (3, 107), (3, 108), 3), ((1, 84), (3, 115), (3, 116), 3), ((0, 27), (3, 138), (3, 139), 2), ((0, 27), (3, 156), (3, 157), 2), ((0, 27), (3, 164), (3, 165), 2), ((0, 27), (3, 173), (3, 174), 2), ((0, 27), (3, 177), (3, 178), 2), ((0, 27), (3, 185), (3, 186), 2), ((1, 178), (3, 233), (3, 234), 4), ((1, 178), (4, 2), (4, 3), 4), ((1, 178), (4, 15), (4, 16), 4), ((1, 178), (4, 20), (4, 21), 4), ((1, 32), (4, 38), (4, 39), 5), ((1, 205), (4, 60), (4, 61), 6)]
set_option maxRecDepth 100000 in
theorem lw_a_2 : lw_J_2.map (fun r => (lw_q r.1, lw_q r.2.1, lw_q r.2.2.1, lw_cls[r.2.2.2]?)) = lw_privs_2.map (fun q => (some (Cond.instantiable q.1.cls q.2), some (Cond.privateMethod q.1), some (Cond.instanceMethod q.1), some q.1.cls)) := rfl
theorem lw_r2 : ∀ q ∈ lw_privs_2, lw_okq q := lw_in lw_a_2
def lw_privs_3 : List (MethodName × Nat) := [(⟨"EchoVale$Draws", "speak", "(LEchoVale$Valley;LEchoVale$Course;)V"⟩, 3), (⟨"EchoVale", "putName", "(J)V"⟩, 17), (⟨"EchoVale", "put", "(I)V"⟩, 17), (⟨"EchoVale", "putNumber", "(I)V"⟩, 17), (⟨"EchoVale$SentenceText", "readCondition", "(LEchoVale$Valley;I)Z"⟩, 2), (⟨"EchoVale$SentenceText", "readJoined", "(LEchoVale$Valley;I)Z"⟩, 2), (⟨"EchoVale$SentenceText", "readOne", "(LEchoVale$Valley;I)Z"⟩, 2), (⟨"EchoVale$SentenceText", "readPlain", "(LEchoVale$Valley;)Z"⟩, 2), (⟨"EchoVale$Sentence", "isSo", "(LEchoVale$Course;II)Z"⟩, 4), (⟨"java/lang/Throwable", "fillInStackTrace", "(I)Ljava/lang/Throwable;"⟩, 6), (⟨"EchoValeModel", "come", "(I)V"⟩, 50), (⟨"EchoValeModel", "begin", "(I)V"⟩, 50), (⟨"EchoValeModel", "take", "()I"⟩, 50), (⟨"EchoValeModel", "go", "()V"⟩, 50), (⟨"EchoValeModel", "tapeAt", "(I)I"⟩, 50), (⟨"EchoValeModel", "readLine", "()Z"⟩, 50)]
def lw_J_3 : List ((Nat × Nat) × (Nat × Nat) × (Nat × Nat) × Nat) := [((1, 205), (4, 66), (4, 67), 6), ((0, 27), (4, 97), (4, 98), 2), ((0, 27), (4, 101), (4, 102), 2), ((0, 27), (4, 105), (4, 106), 2), ((1, 68), (4, 123), (4, 124), 7), ((1, 68), (4, 127), (4, 128), 7), ((1, 68), (4, 131), (4, 132), 7), ((1, 68), (4, 147), (4, 148), 7), ((1, 46), (4, 166), (4, 167), 8), ((4, 234), (4, 232), (4, 233), 9), ((5, 47), (5, 212), (5, 213), 10), ((5, 47), (5, 224), (5, 225), 10), ((5, 47), (5, 228), (5, 229), 10), ((5, 47), (5, 232), (5, 233), 10), ((5, 47), (6, 2), (6, 3), 10), ((5, 47), (6, 8), (6, 9), 10)]
set_option maxRecDepth 100000 in
theorem lw_a_3 : lw_J_3.map (fun r => (lw_q r.1, lw_q r.2.1, lw_q r.2.2.1, lw_cls[r.2.2.2]?)) = lw_privs_3.map (fun q => (some (Cond.instantiable q.1.cls q.2), some (Cond.privateMethod q.1), some (Cond.instanceMethod q.1), some q.1.cls)) := rfl
theorem lw_r3 : ∀ q ∈ lw_privs_3, lw_okq q := lw_in lw_a_3
def lw_privs_4 : List (MethodName × Nat) := [(⟨"EchoValeModel", "isWord", "(I)Z"⟩, 50), (⟨"EchoValeModel", "readLand", "()Z"⟩, 50), (⟨"EchoValeModel", "bad", "(I)Z"⟩, 50), (⟨"EchoValeModel", "readNumber", "(II)Z"⟩, 50), (⟨"EchoValeModel", "isNumber", "(II)Z"⟩, 50), (⟨"EchoValeModel", "readCliff", "()Z"⟩, 50), (⟨"EchoValeModel", "readNew", "(I)Z"⟩, 50), (⟨"EchoValeModel", "isName", "()Z"⟩, 50), (⟨"EchoValeModel", "holdCell", "()Z"⟩, 50), (⟨"EchoValeModel", "readPerson", "()Z"⟩, 50), (⟨"EchoValeModel", "readCell", "()Z"⟩, 50), (⟨"EchoValeModel", "readMove", "()Z"⟩, 50), (⟨"EchoValeModel", "isOne", "()Z"⟩, 50), (⟨"EchoValeModel", "readCamp", "()Z"⟩, 50), (⟨"EchoValeModel", "readFelt", "()Z"⟩, 50), (⟨"EchoValeModel", "readSnow", "()Z"⟩, 50)]
def lw_J_4 : List ((Nat × Nat) × (Nat × Nat) × (Nat × Nat) × Nat) := [((5, 47), (6, 12), (6, 13), 10), ((5, 47), (6, 22), (6, 23), 10), ((5, 47), (6, 26), (6, 27), 10), ((5, 47), (6, 30), (6, 31), 10), ((5, 47), (6, 34), (6, 35), 10), ((5, 47), (6, 41), (6, 42), 10), ((5, 47), (6, 45), (6, 46), 10), ((5, 47), (6, 49), (6, 50), 10), ((5, 47), (6, 56), (6, 57), 10), ((5, 47), (6, 60), (6, 61), 10), ((5, 47), (6, 64), (6, 65), 10), ((5, 47), (6, 68), (6, 69), 10), ((5, 47), (6, 72), (6, 73), 10), ((5, 47), (6, 76), (6, 77), 10), ((5, 47), (6, 80), (6, 81), 10), ((5, 47), (6, 84), (6, 85), 10)]
set_option maxRecDepth 100000 in
theorem lw_a_4 : lw_J_4.map (fun r => (lw_q r.1, lw_q r.2.1, lw_q r.2.2.1, lw_cls[r.2.2.2]?)) = lw_privs_4.map (fun q => (some (Cond.instantiable q.1.cls q.2), some (Cond.privateMethod q.1), some (Cond.instanceMethod q.1), some q.1.cls)) := rfl
theorem lw_r4 : ∀ q ∈ lw_privs_4, lw_okq q := lw_in lw_a_4
def lw_privs_5 : List (MethodName × Nat) := [(⟨"EchoValeModel", "readEnd", "()Z"⟩, 50), (⟨"EchoValeModel", "isSign", "(I)Z"⟩, 50), (⟨"EchoValeModel", "isCliff", "(I)Z"⟩, 50), (⟨"EchoValeModel", "refuse", "()I"⟩, 50), (⟨"EchoValeModel", "strength", "(I)I"⟩, 50), (⟨"EchoValeModel", "snowAt", "(I)I"⟩, 50), (⟨"EchoValeModel", "isPerson", "(I)Z"⟩, 50), (⟨"EchoValeModel", "hasAll", "(I)I"⟩, 50), (⟨"EchoValeModel", "shareOf", "(II)I"⟩, 50), (⟨"EchoValeModel", "of", "(II)I"⟩, 50), (⟨"EchoValeModel", "isSaying", "(I)Z"⟩, 50), (⟨"EchoValeModel", "comesAt", "(III)I"⟩, 50), (⟨"EchoValeModel", "isAt", "(I)Z"⟩, 50), (⟨"EchoValeModel", "snap", "()V"⟩, 50), (⟨"EchoValeModel", "sayIt", "(III)I"⟩, 50), (⟨"EchoValeModel", "loudAt", "(II)I"⟩, 50)]
def lw_J_5 : List ((Nat × Nat) × (Nat × Nat) × (Nat × Nat) × Nat) := [((5, 47), (6, 88), (6, 89), 10), ((5, 47), (6, 92), (6, 93), 10), ((5, 47), (6, 104), (6, 105), 10), ((5, 47), (6, 108), (6, 109), 10), ((5, 47), (6, 112), (6, 113), 10), ((5, 47), (6, 116), (6, 117), 10), ((5, 47), (6, 124), (6, 125), 10), ((5, 47), (6, 128), (6, 129), 10), ((5, 47), (6, 132), (6, 133), 10), ((5, 47), (6, 136), (6, 137), 10), ((5, 47), (6, 150), (6, 151), 10), ((5, 47), (6, 158), (6, 159), 10), ((5, 47), (6, 178), (6, 179), 10), ((5, 47), (6, 182), (6, 183), 10), ((5, 47), (6, 190), (6, 191), 10), ((5, 47), (6, 194), (6, 195), 10)]
set_option maxRecDepth 100000 in
theorem lw_a_5 : lw_J_5.map (fun r => (lw_q r.1, lw_q r.2.1, lw_q r.2.2.1, lw_cls[r.2.2.2]?)) = lw_privs_5.map (fun q => (some (Cond.instantiable q.1.cls q.2), some (Cond.privateMethod q.1), some (Cond.instanceMethod q.1), some q.1.cls)) := rfl
theorem lw_r5 : ∀ q ∈ lw_privs_5, lw_okq q := lw_in lw_a_5
def lw_privs_6 : List (MethodName × Nat) := [(⟨"EchoValeModel", "cliffAt", "(I)I"⟩, 50), (⟨"EchoValeModel", "delay", "(I)I"⟩, 50), (⟨"EchoValeModel", "comeTo", "(IIII)V"⟩, 50), (⟨"EchoValeModel", "passHours", "(I)I"⟩, 50), (⟨"EchoValeModel", "pass", "(I)V"⟩, 50), (⟨"EchoValeModel", "moveAll", "(I)V"⟩, 50), (⟨"EchoValeModel", "sound", "(III)V"⟩, 50), (⟨"EchoValeModel", "hearersOf", "(II)I"⟩, 50), (⟨"EchoValeModel", "campingBy", "(III)I"⟩, 50), (⟨"EchoValeModel", "layAside", "()V"⟩, 50), (⟨"EchoValeModel", "layBack", "()V"⟩, 50), (⟨"EchoValeModel", "campers", "()I"⟩, 50), (⟨"EchoValeModel", "layHas", "(II)V"⟩, 50), (⟨"EchoValeModel", "isRest", "(II)Z"⟩, 50), (⟨"EchoValeModel", "wouldCome", "(III)I"⟩, 50), (⟨"EchoValeModel", "takePieces", "()Z"⟩, 50)]
def lw_J_6 : List ((Nat × Nat) × (Nat × Nat) × (Nat × Nat) × Nat) := [((5, 47), (6, 198), (6, 199), 10), ((5, 47), (6, 208), (6, 209), 10), ((5, 47), (6, 212), (6, 213), 10), ((5, 47), (6, 220), (6, 221), 10), ((5, 47), (6, 224), (6, 225), 10), ((5, 47), (6, 228), (6, 229), 10), ((5, 47), (6, 235), (6, 236), 10), ((5, 47), (6, 239), (7, 0), 10), ((5, 47), (7, 10), (7, 11), 10), ((5, 47), (7, 14), (7, 15), 10), ((5, 47), (7, 18), (7, 19), 10), ((5, 47), (7, 30), (7, 31), 10), ((5, 47), (7, 34), (7, 35), 10), ((5, 47), (7, 42), (7, 43), 10), ((5, 47), (7, 74), (7, 75), 10), ((5, 47), (7, 90), (7, 91), 10)]
set_option maxRecDepth 100000 in
theorem lw_a_6 : lw_J_6.map (fun r => (lw_q r.1, lw_q r.2.1, lw_q r.2.2.1, lw_cls[r.2.2.2]?)) = lw_privs_6.map (fun q => (some (Cond.instantiable q.1.cls q.2), some (Cond.privateMethod q.1), some (Cond.instanceMethod q.1), some q.1.cls)) := rfl
theorem lw_r6 : ∀ q ∈ lw_privs_6, lw_okq q := lw_in lw_a_6
def lw_privs_7 : List (MethodName × Nat) := [(⟨"EchoValeModel", "soundAll", "(III)V"⟩, 50), (⟨"EchoValeModel", "cometh", "(III)V"⟩, 50), (⟨"EchoValeModel", "allSound", "()Z"⟩, 50), (⟨"EchoValeModel", "readClaim", "()Z"⟩, 50), (⟨"EchoValeModel", "drawnBy", "(II)I"⟩, 50), (⟨"EchoValeModel", "draw", "(I)I"⟩, 50), (⟨"EchoValeModel", "put", "(I)V"⟩, 50), (⟨"EchoValeModel", "putNumber", "(I)V"⟩, 50), (⟨"EchoValeModel", "readOr", "()Z"⟩, 50), (⟨"EchoValeModel", "readAnd", "()Z"⟩, 50), (⟨"EchoValeModel", "readOne", "()Z"⟩, 50), (⟨"EchoValeModel", "readBracket", "()Z"⟩, 50), (⟨"EchoValeModel", "readNot", "()Z"⟩, 50), (⟨"EchoValeModel", "saysOne", "(IIII)I"⟩, 50), (⟨"EchoValeModel", "readOf", "(I)Z"⟩, 50), (⟨"EchoValeModel", "readCompare", "(I)Z"⟩, 50)]
def lw_J_7 : List ((Nat × Nat) × (Nat × Nat) × (Nat × Nat) × Nat) := [((5, 47), (7, 94), (7, 95), 10), ((5, 47), (7, 98), (7, 99), 10), ((5, 47), (7, 102), (7, 103), 10), ((5, 47), (7, 114), (7, 115), 10), ((5, 47), (7, 122), (7, 123), 10), ((5, 47), (7, 126), (7, 127), 10), ((5, 47), (7, 147), (7, 148), 10), ((5, 47), (7, 151), (7, 152), 10), ((5, 47), (7, 163), (7, 164), 10), ((5, 47), (7, 167), (7, 168), 10), ((5, 47), (7, 171), (7, 172), 10), ((5, 47), (7, 175), (7, 176), 10), ((5, 47), (7, 179), (7, 180), 10), ((5, 47), (7, 183), (7, 184), 10), ((5, 47), (7, 187), (7, 188), 10), ((5, 47), (7, 191), (7, 192), 10)]
set_option maxRecDepth 100000 in
theorem lw_a_7 : lw_J_7.map (fun r => (lw_q r.1, lw_q r.2.1, lw_q r.2.2.1, lw_cls[r.2.2.2]?)) = lw_privs_7.map (fun q => (some (Cond.instantiable q.1.cls q.2), some (Cond.privateMethod q.1), some (Cond.instanceMethod q.1), some q.1.cls)) := rfl
theorem lw_r7 : ∀ q ∈ lw_privs_7, lw_okq q := lw_in lw_a_7
def lw_privs_8 : List (MethodName × Nat) := [(⟨"EchoValeModel", "holds", "(II)Z"⟩, 50), (⟨"EchoValeModel", "isLost", "(I)Z"⟩, 50)]
def lw_J_8 : List ((Nat × Nat) × (Nat × Nat) × (Nat × Nat) × Nat) := [((5, 47), (7, 199), (7, 200), 10), ((5, 47), (7, 203), (7, 204), 10)]
set_option maxRecDepth 100000 in
theorem lw_a_8 : lw_J_8.map (fun r => (lw_q r.1, lw_q r.2.1, lw_q r.2.2.1, lw_cls[r.2.2.2]?)) = lw_privs_8.map (fun q => (some (Cond.instantiable q.1.cls q.2), some (Cond.privateMethod q.1), some (Cond.instanceMethod q.1), some q.1.cls)) := rfl
theorem lw_r8 : ∀ q ∈ lw_privs_8, lw_okq q := lw_in lw_a_8
def lw_privs : List (MethodName × Nat) := lw_privs_1 ++ (lw_privs_2 ++ (lw_privs_3 ++ (lw_privs_4 ++ (lw_privs_5 ++ (lw_privs_6 ++ (lw_privs_7 ++ (lw_privs_8)))))))
def lw_tbl : List Cond := k2_sels lw_privs ++ tables_1
theorem lw_privs_ok : ∀ q ∈ lw_privs, lw_okq q := by
  show ∀ q ∈ lw_privs_1 ++ (lw_privs_2 ++ (lw_privs_3 ++ (lw_privs_4 ++ (lw_privs_5 ++ (lw_privs_6 ++ (lw_privs_7 ++ (lw_privs_8))))))), lw_okq q
  exact List.forall_mem_append.mpr ⟨lw_r1, List.forall_mem_append.mpr ⟨lw_r2, List.forall_mem_append.mpr ⟨lw_r3, List.forall_mem_append.mpr ⟨lw_r4, List.forall_mem_append.mpr ⟨lw_r5, List.forall_mem_append.mpr ⟨lw_r6, List.forall_mem_append.mpr ⟨lw_r7, lw_r8⟩⟩⟩⟩⟩⟩⟩
def RX0 : String := "EchoVale$ClaimsText"
def TX0 : u_T := fun k => match k with
  | 0 => ("EchoVale$ClaimsText", "wrongLine", "I", false)
  | _ => ("EchoVale$ClaimsText", "reader", "LEchoVale$Reader;", true)
def tyX0 : Nat → FieldType := fun k => match k with
  | 0 => .int
  | _ => .object "EchoVale$Reader"
theorem nmX0 : ∀ a, a < 2 → ∀ b, b < 2 → a ≠ b → (TX0 a).2.1 ≠ (TX0 b).2.1 := by decide +kernel
theorem tyX0_ok : ∀ k, k < 2 → parseFieldDescriptor (TX0 k).2.2.1 = some (tyX0 k) := by decide +kernel
def RX1 : String := "EchoVale$Course"
def TX1 : u_T := fun k => match k with
  | 0 => ("EchoVale$Course", "hour", "I", false)
  | 1 => ("EchoVale$Course", "sayings", "I", false)
  | 2 => ("EchoVale$Course", "echoes", "I", false)
  | 3 => ("EchoVale$Course", "place", "[I", true)
  | 4 => ("EchoVale$Course", "due", "[I", true)
  | 5 => ("EchoVale$Course", "force", "[I", true)
  | 6 => ("EchoVale$Course", "facts", "[I", true)
  | 7 => ("EchoVale$Course", "log", "[I", true)
  | _ => ("EchoVale$Course", "soonest", "[I", true)
def tyX1 : Nat → FieldType := fun k => match k with
  | 0 => .int
  | 1 => .int
  | 2 => .int
  | 3 => .array .int
  | 4 => .array .int
  | 5 => .array .int
  | 6 => .array .int
  | 7 => .array .int
  | _ => .array .int
theorem nmX1 : ∀ a, a < 9 → ∀ b, b < 9 → a ≠ b → (TX1 a).2.1 ≠ (TX1 b).2.1 := lw_nm [1752135026, 32476796409505651, 111477628298611, 482854658917, 6583653, 439956431717, 439720572019, 7106407, 32492146705920884] (by decide +kernel) (by decide +kernel)
theorem tyX1_ok : ∀ k, k < 9 → parseFieldDescriptor (TX1 k).2.2.1 = some (tyX1 k) := by decide +kernel
def RX2 : String := "EchoVale$Draws"
def TX2 : u_T := fun k => match k with
  | 0 => ("EchoVale$Draws", "storms", "I", false)
  | 1 => ("EchoVale$Draws", "sayings", "I", false)
  | _ => ("EchoVale$Draws", "seed", "I", false)
def tyX2 : Nat → FieldType := fun k => match k with
  | 0 => .int
  | 1 => .int
  | _ => .int
theorem nmX2 : ∀ a, a < 3 → ∀ b, b < 3 → a ≠ b → (TX2 a).2.1 ≠ (TX2 b).2.1 := by decide +kernel
theorem tyX2_ok : ∀ k, k < 3 → parseFieldDescriptor (TX2 k).2.2.1 = some (tyX2 k) := by decide +kernel
def RX3 : String := "EchoVale$Image"
def TX3 : u_T := fun k => match k with
  | 0 => ("EchoVale$Image", "kept", "Z", false)
  | 1 => ("EchoVale$Image", "valley", "LEchoVale$Valley;", true)
  | 2 => ("EchoVale$Image", "course", "LEchoVale$Course;", true)
  | _ => ("EchoVale$Image", "sentence", "LEchoVale$Sentence;", true)
def tyX3 : Nat → FieldType := fun k => match k with
  | 0 => .boolean
  | 1 => .object "EchoVale$Valley"
  | 2 => .object "EchoVale$Course"
  | _ => .object "EchoVale$Sentence"
theorem nmX3 : ∀ a, a < 4 → ∀ b, b < 4 → a ≠ b → (TX3 a).2.1 ≠ (TX3 b).2.1 := by decide +kernel
theorem tyX3_ok : ∀ k, k < 4 → parseFieldDescriptor (TX3 k).2.2.1 = some (tyX3 k) := by decide +kernel
def RX4 : String := "EchoVale$Pieces"
def TX4 : u_T := fun k => match k with
  | 0 => ("EchoVale$Pieces", "found", "I", false)
  | 1 => ("EchoVale$Pieces", "ways", "[I", true)
  | 2 => ("EchoVale$Pieces", "heard", "I", false)
  | 3 => ("EchoVale$Pieces", "cliff", "[I", true)
  | 4 => ("EchoVale$Pieces", "hour", "[I", true)
  | _ => ("EchoVale$Pieces", "force", "[I", true)
def tyX4 : Nat → FieldType := fun k => match k with
  | 0 => .int
  | 1 => .array .int
  | 2 => .int
  | 3 => .array .int
  | 4 => .array .int
  | _ => .array .int
theorem nmX4 : ∀ a, a < 6 → ∀ b, b < 6 → a ≠ b → (TX4 a).2.1 ≠ (TX4 b).2.1 := lw_nm [439956631140, 2002876787, 448377483876, 427020609126, 1752135026, 439956431717] (by decide +kernel) (by decide +kernel)
theorem tyX4_ok : ∀ k, k < 6 → parseFieldDescriptor (TX4 k).2.2.1 = some (tyX4 k) := by decide +kernel
def RX5 : String := "EchoVale$Reader"
def TX5 : u_T := fun k => match k with
  | 0 => ("EchoVale$Reader", "bytes", "[I", true)
  | 1 => ("EchoVale$Reader", "length", "I", false)
  | 2 => ("EchoVale$Reader", "fault", "I", false)
  | 3 => ("EchoVale$Reader", "place", "I", false)
  | 4 => ("EchoVale$Reader", "kind", "I", false)
  | 5 => ("EchoVale$Reader", "start", "I", false)
  | 6 => ("EchoVale$Reader", "value", "I", false)
  | 7 => ("EchoVale$Reader", "word", "J", false)
  | 8 => ("EchoVale$Reader", "at", "I", false)
  | 9 => ("EchoVale$Reader", "most", "I", false)
  | _ => ("EchoVale$Reader", "keywords", "[J", true)
def tyX5 : Nat → FieldType := fun k => match k with
  | 0 => .array .int
  | 1 => .int
  | 2 => .int
  | 3 => .int
  | 4 => .int
  | 5 => .int
  | 6 => .int
  | 7 => .long
  | 8 => .int
  | 9 => .int
  | _ => .array .long
theorem nmX5 : ∀ a, a < 11 → ∀ b, b < 11 → a ≠ b → (TX5 a).2.1 ≠ (TX5 b).2.1 := lw_nm [422944466291, 119182899770472, 439721749620, 482854658917, 1802071652, 495873782388, 508440638821, 2003792484, 24948, 1836020596, 7738725088583902323] (by decide +kernel) (by decide +kernel)
theorem tyX5_ok : ∀ k, k < 11 → parseFieldDescriptor (TX5 k).2.2.1 = some (tyX5 k) := by decide +kernel
def RX6 : String := "EchoVale$Sentence"
def TX6 : u_T := fun k => match k with
  | 0 => ("EchoVale$Sentence", "ones", "I", false)
  | 1 => ("EchoVale$Sentence", "steps", "I", false)
  | 2 => ("EchoVale$Sentence", "code", "[I", true)
  | _ => ("EchoVale$Sentence", "answers", "[Z", true)
def tyX6 : Nat → FieldType := fun k => match k with
  | 0 => .int
  | 1 => .int
  | 2 => .array .int
  | _ => .array .boolean
theorem nmX6 : ∀ a, a < 4 → ∀ b, b < 4 → a ≠ b → (TX6 a).2.1 ≠ (TX6 b).2.1 := by decide +kernel
theorem tyX6_ok : ∀ k, k < 4 → parseFieldDescriptor (TX6 k).2.2.1 = some (tyX6 k) := by decide +kernel
def RX7 : String := "EchoVale$SentenceText"
def TX7 : u_T := fun k => match k with
  | 0 => ("EchoVale$SentenceText", "sentence", "LEchoVale$Sentence;", true)
  | _ => ("EchoVale$SentenceText", "reader", "LEchoVale$Reader;", true)
def tyX7 : Nat → FieldType := fun k => match k with
  | 0 => .object "EchoVale$Sentence"
  | _ => .object "EchoVale$Reader"
theorem nmX7 : ∀ a, a < 2 → ∀ b, b < 2 → a ≠ b → (TX7 a).2.1 ≠ (TX7 b).2.1 := by decide +kernel
theorem tyX7_ok : ∀ k, k < 2 → parseFieldDescriptor (TX7 k).2.2.1 = some (tyX7 k) := by decide +kernel
def RX8 : String := "EchoVale$Undo"
def TX8 : u_T := fun k => match k with
  | 0 => ("EchoVale$Undo", "kept", "I", false)
  | 1 => ("EchoVale$Undo", "oldest", "I", false)
  | _ => ("EchoVale$Undo", "rows", "[LEchoVale$Course;", true)
def tyX8 : Nat → FieldType := fun k => match k with
  | 0 => .int
  | 1 => .int
  | _ => .array (.object "EchoVale$Course")
theorem nmX8 : ∀ a, a < 3 → ∀ b, b < 3 → a ≠ b → (TX8 a).2.1 ≠ (TX8 b).2.1 := by decide +kernel
theorem tyX8_ok : ∀ k, k < 3 → parseFieldDescriptor (TX8 k).2.2.1 = some (tyX8 k) := by decide +kernel
def RX9 : String := "EchoVale$Valley"
def TX9 : u_T := fun k => match k with
  | 0 => ("EchoVale$Valley", "width", "I", false)
  | 1 => ("EchoVale$Valley", "height", "I", false)
  | 2 => ("EchoVale$Valley", "cliffs", "I", false)
  | 3 => ("EchoVale$Valley", "persons", "I", false)
  | 4 => ("EchoVale$Valley", "moves", "I", false)
  | 5 => ("EchoVale$Valley", "felts", "I", false)
  | 6 => ("EchoVale$Valley", "snows", "I", false)
  | 7 => ("EchoVale$Valley", "cliffName", "[J", true)
  | 8 => ("EchoVale$Valley", "cliffCell", "[I", true)
  | 9 => ("EchoVale$Valley", "delay", "[I", true)
  | 10 => ("EchoVale$Valley", "strength", "[I", true)
  | 11 => ("EchoVale$Valley", "personName", "[J", true)
  | 12 => ("EchoVale$Valley", "home", "[I", true)
  | 13 => ("EchoVale$Valley", "campCell", "[I", true)
  | 14 => ("EchoVale$Valley", "moveHour", "[I", true)
  | 15 => ("EchoVale$Valley", "movePerson", "[I", true)
  | 16 => ("EchoVale$Valley", "moveCell", "[I", true)
  | 17 => ("EchoVale$Valley", "feltCell", "[I", true)
  | 18 => ("EchoVale$Valley", "snowHour", "[I", true)
  | _ => ("EchoVale$Valley", "snowDepth", "[I", true)
def tyX9 : Nat → FieldType := fun k => match k with
  | 0 => .int
  | 1 => .int
  | 2 => .int
  | 3 => .int
  | 4 => .int
  | 5 => .int
  | 6 => .int
  | 7 => .array .long
  | 8 => .array .int
  | 9 => .array .int
  | 10 => .array .int
  | 11 => .array .long
  | 12 => .array .int
  | 13 => .array .int
  | 14 => .array .int
  | 15 => .array .int
  | 16 => .array .int
  | 17 => .array .int
  | 18 => .array .int
  | _ => .array .int
theorem nmX9 : ∀ a, a < 20 → ∀ b, b < 20 → a ≠ b → (TX9 a).2.1 ≠ (TX9 b).2.1 := lw_nm [512869299304, 114784769370228, 109317275936371, 31636739628953203, 470021465459, 439788270707, 495774037875, 1834039550915484151141, 1834039550915299863660, 431198331257, 8319400191629685864, 530776414290707126250853, 1752132965, 7161125211430284396, 7885651649928066418, 516794066538438853881710, 7885651649843522668, 7378422811119152236, 8317708119906940274, 2129333278678828741736] (by decide +kernel) (by decide +kernel)
theorem tyX9_ok : ∀ k, k < 20 → parseFieldDescriptor (TX9 k).2.2.1 = some (tyX9 k) := by decide +kernel
def RX10 : String := "EchoVale$ValleyText"
def TX10 : u_T := fun k => match k with
  | 0 => ("EchoVale$ValleyText", "valley", "LEchoVale$Valley;", true)
  | 1 => ("EchoVale$ValleyText", "lines", "I", false)
  | _ => ("EchoVale$ValleyText", "reader", "LEchoVale$Reader;", true)
def tyX10 : Nat → FieldType := fun k => match k with
  | 0 => .object "EchoVale$Valley"
  | 1 => .int
  | _ => .object "EchoVale$Reader"
theorem nmX10 : ∀ a, a < 3 → ∀ b, b < 3 → a ≠ b → (TX10 a).2.1 ≠ (TX10 b).2.1 := by decide +kernel
theorem tyX10_ok : ∀ k, k < 3 → parseFieldDescriptor (TX10 k).2.2.1 = some (tyX10 k) := by decide +kernel
def RX11 : String := "EchoVale"
def TX11 : u_T := fun k => match k with
  | 0 => ("EchoVale", "reader", "LEchoVale$Reader;", true)
  | 1 => ("EchoVale", "valley", "LEchoVale$Valley;", true)
  | 2 => ("EchoVale", "valleyText", "LEchoVale$ValleyText;", true)
  | 3 => ("EchoVale", "claimsText", "LEchoVale$ClaimsText;", true)
  | 4 => ("EchoVale", "sentence", "LEchoVale$Sentence;", true)
  | 5 => ("EchoVale", "sentenceText", "LEchoVale$SentenceText;", true)
  | 6 => ("EchoVale", "course", "LEchoVale$Course;", true)
  | 7 => ("EchoVale", "ahead", "LEchoVale$Course;", true)
  | 8 => ("EchoVale", "undoRows", "LEchoVale$Undo;", true)
  | 9 => ("EchoVale", "images", "[LEchoVale$Image;", true)
  | 10 => ("EchoVale", "clues", "LEchoVale$Pieces;", true)
  | 11 => ("EchoVale", "draws", "LEchoVale$Draws;", true)
  | 12 => ("EchoVale", "outcome", "[I", true)
  | 13 => ("EchoVale", "written", "[I", true)
  | 14 => ("EchoVale", "writtenBytes", "I", false)
  | 15 => ("EchoVale", "toldStorms", "I", false)
  | _ => ("EchoVale", "toldSayings", "I", false)
def tyX11 : Nat → FieldType := fun k => match k with
  | 0 => .object "EchoVale$Reader"
  | 1 => .object "EchoVale$Valley"
  | 2 => .object "EchoVale$ValleyText"
  | 3 => .object "EchoVale$ClaimsText"
  | 4 => .object "EchoVale$Sentence"
  | 5 => .object "EchoVale$SentenceText"
  | 6 => .object "EchoVale$Course"
  | 7 => .object "EchoVale$Course"
  | 8 => .object "EchoVale$Undo"
  | 9 => .array (.object "EchoVale$Image")
  | 10 => .object "EchoVale$Pieces"
  | 11 => .object "EchoVale$Draws"
  | 12 => .array .int
  | 13 => .array .int
  | 14 => .int
  | 15 => .int
  | _ => .int
theorem nmX11 : ∀ a, a < 17 → ∀ b, b < 17 → a ≠ b → (TX11 a).2.1 ≠ (TX11 b).2.1 := lw_nm [125779751232882, 130160802948473, 559036391884793324075124, 469513549425891845961844, 8315173733206483813, 35713399244680077193404315764, 109330362954597, 418363302244, 8461811179162924915, 115918506517875, 427021395315, 431415719795, 31372865159785829, 33621319479485806, 36967031708866375880052860275, 549849911064473923382643, 140761577232484476463769459] (by decide +kernel) (by decide +kernel)
theorem tyX11_ok : ∀ k, k < 17 → parseFieldDescriptor (TX11 k).2.2.1 = some (tyX11 k) := by decide +kernel
def RX12 : String := "EchoValeModel"
def TX12 : u_T := fun k => match k with
  | 0 => ("EchoValeModel", "thrown", "I", false)
  | 1 => ("EchoValeModel", "tape", "[I", true)
  | 2 => ("EchoValeModel", "taped", "I", false)
  | 3 => ("EchoValeModel", "size", "I", false)
  | 4 => ("EchoValeModel", "limit", "I", false)
  | 5 => ("EchoValeModel", "to", "I", false)
  | 6 => ("EchoValeModel", "from", "I", false)
  | 7 => ("EchoValeModel", "kind", "I", false)
  | 8 => ("EchoValeModel", "number", "I", false)
  | 9 => ("EchoValeModel", "sign", "I", false)
  | 10 => ("EchoValeModel", "fault", "I", false)
  | 11 => ("EchoValeModel", "place", "I", false)
  | 12 => ("EchoValeModel", "word", "J", false)
  | 13 => ("EchoValeModel", "told", "I", false)
  | 14 => ("EchoValeModel", "now", "[I", true)
  | 15 => ("EchoValeModel", "read", "[I", true)
  | 16 => ("EchoValeModel", "kept", "[I", true)
  | 17 => ("EchoValeModel", "snaps", "[I", true)
  | 18 => ("EchoValeModel", "aside", "[I", true)
  | 19 => ("EchoValeModel", "name", "[J", true)
  | 20 => ("EchoValeModel", "readName", "[J", true)
  | 21 => ("EchoValeModel", "keptName", "[J", true)
  | 22 => ("EchoValeModel", "isKept", "[Z", true)
  | 23 => ("EchoValeModel", "snapMany", "I", false)
  | 24 => ("EchoValeModel", "hasLand", "Z", false)
  | 25 => ("EchoValeModel", "hasBy", "[I", true)
  | 26 => ("EchoValeModel", "pieceCliff", "[I", true)
  | 27 => ("EchoValeModel", "pieceHour", "[I", true)
  | 28 => ("EchoValeModel", "pieceForce", "[I", true)
  | 29 => ("EchoValeModel", "ways", "[I", true)
  | 30 => ("EchoValeModel", "atHour", "[I", true)
  | 31 => ("EchoValeModel", "much", "[I", true)
  | 32 => ("EchoValeModel", "gone", "[I", true)
  | 33 => ("EchoValeModel", "forceAt", "[I", true)
  | 34 => ("EchoValeModel", "pieceMany", "I", false)
  | 35 => ("EchoValeModel", "wayMany", "I", false)
  | 36 => ("EchoValeModel", "claimMany", "I", false)
  | 37 => ("EchoValeModel", "wrongClaim", "I", false)
  | 38 => ("EchoValeModel", "seed", "I", false)
  | 39 => ("EchoValeModel", "stormMany", "I", false)
  | 40 => ("EchoValeModel", "saidMany", "I", false)
  | 41 => ("EchoValeModel", "storms", "[I", true)
  | 42 => ("EchoValeModel", "text", "[I", true)
  | 43 => ("EchoValeModel", "letters", "[I", true)
  | 44 => ("EchoValeModel", "texted", "I", false)
  | 45 => ("EchoValeModel", "node", "[I", true)
  | 46 => ("EchoValeModel", "nodes", "I", false)
  | 47 => ("EchoValeModel", "onesMany", "I", false)
  | 48 => ("EchoValeModel", "within", "I", false)
  | _ => ("EchoValeModel", "top", "I", false)
def tyX12 : Nat → FieldType := fun k => match k with
  | 0 => .int
  | 1 => .array .int
  | 2 => .int
  | 3 => .int
  | 4 => .int
  | 5 => .int
  | 6 => .int
  | 7 => .int
  | 8 => .int
  | 9 => .int
  | 10 => .int
  | 11 => .int
  | 12 => .long
  | 13 => .int
  | 14 => .array .int
  | 15 => .array .int
  | 16 => .array .int
  | 17 => .array .int
  | 18 => .array .int
  | 19 => .array .long
  | 20 => .array .long
  | 21 => .array .long
  | 22 => .array .boolean
  | 23 => .int
  | 24 => .boolean
  | 25 => .array .int
  | 26 => .array .int
  | 27 => .array .int
  | 28 => .array .int
  | 29 => .array .int
  | 30 => .array .int
  | 31 => .array .int
  | 32 => .array .int
  | 33 => .array .int
  | 34 => .int
  | 35 => .int
  | 36 => .int
  | 37 => .int
  | 38 => .int
  | 39 => .int
  | 40 => .int
  | 41 => .array .int
  | 42 => .array .int
  | 43 => .array .int
  | 44 => .int
  | 45 => .array .int
  | 46 => .int
  | 47 => .int
  | 48 => .int
  | _ => .int
theorem nmX12 : ∀ a, a < 50 → ∀ b, b < 50 → a ≠ b → (TX12 a).2.1 ≠ (TX12 b).2.1 := lw_nm [127991945328494, 1952542821, 499850962276, 1936292453, 465625246068, 29807, 1718775661, 1802071652, 121450625394034, 1936287598, 439721749620, 482854658917, 2003792484, 1953459300, 7237495, 1919246692, 1801810036, 495773118579, 418548114533, 1851878757, 8243101776411192677, 7738715179539590501, 115943907094644, 8317692696762347129, 29380545408495204, 448311542393, 530849260003500547991142, 2073629921888758101362, 530849260003513483813733, 2002876787, 107152059364722, 1836409704, 1735356005, 28832984709022068, 2073629921888841068153, 33602695845736057, 1834037302444253343353, 564072569754615596280173, 1936024932, 2129765618921188191865, 8314042266618523257, 126943923170675, 1952807028, 30510848328168051, 127979161412964, 1852793957, 474315253107, 8029466731542048377, 131294808271214, 7630704] (by decide +kernel) (by decide +kernel)
theorem tyX12_ok : ∀ k, k < 50 → parseFieldDescriptor (TX12 k).2.2.1 = some (tyX12 k) := by decide +kernel
abbrev vwCl : List vw_C := [(RX0, TX0, 2), (RX1, TX1, 9), (RX2, TX2, 3), (RX3, TX3, 4), (RX4, TX4, 6), (RX5, TX5, 11), (RX6, TX6, 4), (RX7, TX7, 2), (RX8, TX8, 3), (RX9, TX9, 20), (RX10, TX10, 3), (RX11, TX11, 17), (RX12, TX12, 50)]
def zOwn : List String := ["EchoVale$ClaimsText", "EchoVale$Course", "EchoVale$Draws", "EchoVale$Image", "EchoVale$Pieces", "EchoVale$Reader", "EchoVale$Sentence", "EchoVale$SentenceText", "EchoVale$Undo", "EchoVale$Valley", "EchoVale$ValleyText", "EchoVale", "EchoValeModel", "java/lang/Integer", "java/lang/Math", "java/util/Arrays", "EchoValeLaw"]
/-- the methods: name, code, locals, answer, class, parameters, place of its word -/
def zM0 : List (MethodName × ByteArray × Nat × Option FieldType × Nat × Nat × Nat × Nat) := [(⟨"EchoVale", "<init>", "()V"⟩, prog_1_method_1_code, 2, none, 11, 0, 1, 30),
  (⟨"EchoVale$Reader", "<init>", "()V"⟩, prog_7_method_1_code, 1, none, 5, 0, 1, 38),
  (⟨"EchoVale$Reader", "packKeywords", "()[J"⟩, prog_7_method_2_code, 5, (some (Jvm.ClassFile.FieldType.array Jvm.ClassFile.FieldType.long)), 5, 0, 1, 42),
  (⟨"EchoVale$Reader", "withLetter", "(JI)J"⟩, prog_7_method_3_code, 3, (some Jvm.ClassFile.FieldType.long), 5, 2, 1, 94),
  (⟨"EchoVale$Valley", "<init>", "()V"⟩, prog_11_method_1_code, 1, none, 9, 0, 1, 148),
  (⟨"EchoVale$ValleyText", "<init>", "(LEchoVale$Reader;)V"⟩, prog_12_method_1_code, 2, none, 10, 1, 2, 15),
  (⟨"EchoVale$ClaimsText", "<init>", "(LEchoVale$Reader;)V"⟩, prog_2_method_1_code, 2, none, 0, 1, 2, 35),
  (⟨"EchoVale$Sentence", "<init>", "()V"⟩, prog_8_method_1_code, 1, none, 6, 0, 2, 49),
  (⟨"EchoVale$SentenceText", "<init>", "(LEchoVale$Reader;)V"⟩, prog_9_method_1_code, 2, none, 7, 1, 2, 71),
  (⟨"EchoVale$Course", "<init>", "()V"⟩, prog_3_method_1_code, 1, none, 1, 0, 2, 87),
  (⟨"EchoVale$Undo", "<init>", "()V"⟩, prog_10_method_1_code, 2, none, 8, 0, 2, 132),
  (⟨"EchoVale$Image", "<init>", "()V"⟩, prog_5_method_1_code, 1, none, 3, 0, 2, 153),
  (⟨"EchoVale$Pieces", "<init>", "()V"⟩, prog_6_method_1_code, 1, none, 4, 0, 2, 181),
  (⟨"EchoVale$Draws", "<init>", "()V"⟩, prog_4_method_1_code, 1, none, 2, 0, 2, 208),
  (⟨"EchoVale", "feed", "(IIIII)I"⟩, prog_1_method_2_code, 6, (some Jvm.ClassFile.FieldType.int), 11, 5, 3, 37),
  (⟨"EchoVale$Reader", "addBytes", "(I)V"⟩, prog_7_method_4_code, 3, none, 5, 1, 3, 41),
  (⟨"EchoVale", "end", "(I)Z"⟩, prog_1_method_3_code, 2, (some Jvm.ClassFile.FieldType.boolean), 11, 1, 3, 45),
  (⟨"EchoVale", "valley", "()I"⟩, prog_1_method_4_code, 2, (some Jvm.ClassFile.FieldType.int), 11, 0, 3, 49),
  (⟨"EchoVale$ValleyText", "readText", "()Z"⟩, prog_12_method_2_code, 2, (some Jvm.ClassFile.FieldType.boolean), 10, 0, 3, 53),
  (⟨"EchoVale$Valley", "clear", "()V"⟩, prog_11_method_2_code, 1, none, 9, 0, 3, 57),
  (⟨"EchoVale$Reader", "open", "(I)V"⟩, prog_7_method_5_code, 2, none, 5, 1, 3, 61),
  (⟨"EchoVale$Reader", "step", "()V"⟩, prog_7_method_6_code, 2, none, 5, 0, 3, 65),
  (⟨"java/lang/Math", "min", "(II)I"⟩, prog_20_method_69_code, 2, (some Jvm.ClassFile.FieldType.int), 14, 2, 3, 68),
  (⟨"EchoVale$Reader", "isBlank", "(I)Z"⟩, prog_7_method_9_code, 1, (some Jvm.ClassFile.FieldType.boolean), 5, 1, 3, 71),
  (⟨"EchoVale$Reader", "isLetter", "(I)Z"⟩, prog_7_method_10_code, 1, (some Jvm.ClassFile.FieldType.boolean), 5, 1, 3, 74),
  (⟨"EchoVale$Reader", "isDigit", "(I)Z"⟩, prog_7_method_11_code, 1, (some Jvm.ClassFile.FieldType.boolean), 5, 1, 3, 77),
  (⟨"EchoVale$Reader", "readRun", "()V"⟩, prog_7_method_7_code, 3, none, 5, 0, 3, 81),
  (⟨"EchoVale$Reader", "keywordOf", "(J)I"⟩, prog_7_method_8_code, 4, (some Jvm.ClassFile.FieldType.int), 5, 1, 3, 85),
  (⟨"EchoVale$Reader", "isMark", "(I)Z"⟩, prog_7_method_12_code, 1, (some Jvm.ClassFile.FieldType.boolean), 5, 1, 3, 88),
  (⟨"EchoVale$Reader", "isAtEnd", "()Z"⟩, prog_7_method_14_code, 1, (some Jvm.ClassFile.FieldType.boolean), 5, 0, 3, 92),
  (⟨"EchoVale$ValleyText", "readLine", "()Z"⟩, prog_12_method_3_code, 1, (some Jvm.ClassFile.FieldType.boolean), 10, 0, 3, 96),
  (⟨"EchoVale$Reader", "refuse", "(I)Z"⟩, prog_7_method_13_code, 2, (some Jvm.ClassFile.FieldType.boolean), 5, 1, 3, 100),
  (⟨"EchoVale$ValleyText", "readLand", "()Z"⟩, prog_12_method_4_code, 2, (some Jvm.ClassFile.FieldType.boolean), 10, 0, 3, 104),
  (⟨"EchoVale$Reader", "isNumber", "(II)Z"⟩, prog_7_method_17_code, 3, (some Jvm.ClassFile.FieldType.boolean), 5, 2, 3, 109),
  (⟨"EchoVale$ValleyText", "readCliff", "()Z"⟩, prog_12_method_5_code, 6, (some Jvm.ClassFile.FieldType.boolean), 10, 0, 3, 114),
  (⟨"EchoVale$ValleyText", "isNewName", "()Z"⟩, prog_12_method_11_code, 1, (some Jvm.ClassFile.FieldType.boolean), 10, 0, 3, 118),
  (⟨"EchoVale$Valley", "isTaken", "(J)Z"⟩, prog_11_method_8_code, 3, (some Jvm.ClassFile.FieldType.boolean), 9, 1, 3, 122),
  (⟨"EchoVale$Valley", "cliffNamed", "(J)I"⟩, prog_11_method_6_code, 4, (some Jvm.ClassFile.FieldType.int), 9, 1, 3, 126),
  (⟨"EchoVale$Valley", "personNamed", "(J)I"⟩, prog_11_method_7_code, 4, (some Jvm.ClassFile.FieldType.int), 9, 1, 3, 130),
  (⟨"EchoVale$ValleyText", "cellHere", "()I"⟩, prog_12_method_12_code, 2, (some Jvm.ClassFile.FieldType.int), 10, 0, 3, 134)]
def zM1 : List (MethodName × ByteArray × Nat × Option FieldType × Nat × Nat × Nat × Nat) := [(⟨"EchoVale$Valley", "hasCliff", "(I)Z"⟩, prog_11_method_9_code, 3, (some Jvm.ClassFile.FieldType.boolean), 9, 1, 3, 138),
  (⟨"EchoVale$ValleyText", "readPerson", "()Z"⟩, prog_12_method_6_code, 5, (some Jvm.ClassFile.FieldType.boolean), 10, 0, 3, 142),
  (⟨"EchoVale$ValleyText", "readMove", "()Z"⟩, prog_12_method_7_code, 5, (some Jvm.ClassFile.FieldType.boolean), 10, 0, 3, 146),
  (⟨"EchoVale$Reader", "personHere", "(LEchoVale$Valley;)I"⟩, prog_7_method_19_code, 3, (some Jvm.ClassFile.FieldType.int), 5, 1, 3, 150),
  (⟨"EchoVale$Valley", "hasMove", "(II)Z"⟩, prog_11_method_11_code, 4, (some Jvm.ClassFile.FieldType.boolean), 9, 2, 3, 155),
  (⟨"EchoVale$ValleyText", "readCamp", "()Z"⟩, prog_12_method_8_code, 3, (some Jvm.ClassFile.FieldType.boolean), 10, 0, 3, 159),
  (⟨"EchoVale$ValleyText", "readFelt", "()Z"⟩, prog_12_method_9_code, 3, (some Jvm.ClassFile.FieldType.boolean), 10, 0, 3, 163),
  (⟨"EchoVale$Valley", "hasFelt", "(I)Z"⟩, prog_11_method_10_code, 3, (some Jvm.ClassFile.FieldType.boolean), 9, 1, 3, 167),
  (⟨"EchoVale$ValleyText", "readSnow", "()Z"⟩, prog_12_method_10_code, 3, (some Jvm.ClassFile.FieldType.boolean), 10, 0, 3, 171),
  (⟨"EchoVale$Valley", "hasSnow", "(I)Z"⟩, prog_11_method_12_code, 3, (some Jvm.ClassFile.FieldType.boolean), 9, 1, 3, 175),
  (⟨"EchoVale$Reader", "passSign", "(I)Z"⟩, prog_7_method_18_code, 2, (some Jvm.ClassFile.FieldType.boolean), 5, 1, 3, 179),
  (⟨"EchoVale$Reader", "isSign", "(I)Z"⟩, prog_7_method_16_code, 2, (some Jvm.ClassFile.FieldType.boolean), 5, 1, 3, 183),
  (⟨"EchoVale$Valley", "copyFrom", "(LEchoVale$Valley;)V"⟩, prog_11_method_3_code, 2, none, 9, 1, 3, 187),
  (⟨"EchoVale$Course", "begin", "(LEchoVale$Valley;)V"⟩, prog_3_method_2_code, 2, none, 1, 1, 3, 194),
  (⟨"EchoVale$Sentence", "clear", "()V"⟩, prog_8_method_2_code, 1, none, 6, 0, 3, 199),
  (⟨"EchoVale$Undo", "forget", "()V"⟩, prog_10_method_2_code, 1, none, 8, 0, 3, 203),
  (⟨"EchoVale", "fault", "()I"⟩, prog_1_method_5_code, 1, (some Jvm.ClassFile.FieldType.int), 11, 0, 3, 207),
  (⟨"EchoVale", "comes", "(III)I"⟩, prog_1_method_9_code, 4, (some Jvm.ClassFile.FieldType.int), 11, 3, 3, 211),
  (⟨"EchoVale", "isSaying", "(I)Z"⟩, prog_1_method_45_code, 2, (some Jvm.ClassFile.FieldType.boolean), 11, 1, 3, 215),
  (⟨"EchoVale", "isCliff", "(I)Z"⟩, prog_1_method_43_code, 2, (some Jvm.ClassFile.FieldType.boolean), 11, 1, 3, 219),
  (⟨"EchoVale", "share", "(II)I"⟩, prog_1_method_10_code, 3, (some Jvm.ClassFile.FieldType.int), 11, 2, 3, 223),
  (⟨"EchoVale", "isPerson", "(I)Z"⟩, prog_1_method_44_code, 2, (some Jvm.ClassFile.FieldType.boolean), 11, 1, 3, 227),
  (⟨"EchoVale$Course", "shareOf", "(II)I"⟩, prog_3_method_19_code, 7, (some Jvm.ClassFile.FieldType.int), 1, 2, 3, 231),
  (⟨"EchoVale$Course", "fact", "(II)I"⟩, prog_3_method_6_code, 3, (some Jvm.ClassFile.FieldType.int), 1, 2, 3, 235),
  (⟨"java/lang/Integer", "bitCount", "(I)I"⟩, prog_19_method_49_code, 1, (some Jvm.ClassFile.FieldType.int), 13, 1, 3, 238),
  (⟨"EchoVale", "hasBit", "(II)Z"⟩, prog_1_method_48_code, 2, (some Jvm.ClassFile.FieldType.boolean), 11, 2, 4, 4),
  (⟨"EchoVale", "sounded", "(II)I"⟩, prog_1_method_11_code, 3, (some Jvm.ClassFile.FieldType.int), 11, 2, 4, 8),
  (⟨"EchoVale$Course", "logged", "(II)I"⟩, prog_3_method_7_code, 3, (some Jvm.ClassFile.FieldType.int), 1, 2, 4, 12),
  (⟨"EchoVale", "goes", "(II)Z"⟩, prog_1_method_12_code, 3, (some Jvm.ClassFile.FieldType.boolean), 11, 2, 4, 16),
  (⟨"EchoVale$Valley", "isCell", "(I)Z"⟩, prog_11_method_4_code, 2, (some Jvm.ClassFile.FieldType.boolean), 9, 1, 4, 20),
  (⟨"EchoVale$Undo", "keep", "(LEchoVale$Course;)V"⟩, prog_10_method_3_code, 2, none, 8, 1, 4, 24),
  (⟨"EchoVale$Course", "copyFrom", "(LEchoVale$Course;)V"⟩, prog_3_method_3_code, 2, none, 1, 1, 4, 28),
  (⟨"EchoVale$Course", "copyPlaces", "(LEchoVale$Course;)V"⟩, prog_3_method_4_code, 2, none, 1, 1, 4, 32),
  (⟨"EchoVale", "says", "(III)I"⟩, prog_1_method_13_code, 4, (some Jvm.ClassFile.FieldType.int), 11, 3, 4, 36),
  (⟨"EchoVale", "isLoud", "(I)Z"⟩, prog_1_method_46_code, 1, (some Jvm.ClassFile.FieldType.boolean), 11, 1, 4, 39),
  (⟨"EchoVale$Course", "isFull", "()Z"⟩, prog_3_method_5_code, 1, (some Jvm.ClassFile.FieldType.boolean), 1, 0, 4, 43),
  (⟨"EchoVale$Course", "speak", "(LEchoVale$Valley;III)I"⟩, prog_3_method_8_code, 6, (some Jvm.ClassFile.FieldType.int), 1, 4, 4, 47),
  (⟨"EchoVale$Valley", "lessFelt", "(II)I"⟩, prog_11_method_14_code, 3, (some Jvm.ClassFile.FieldType.int), 9, 2, 4, 51),
  (⟨"java/lang/Math", "max", "(II)I"⟩, prog_20_method_65_code, 2, (some Jvm.ClassFile.FieldType.int), 14, 2, 4, 55),
  (⟨"EchoVale$Course", "utter", "(LEchoVale$Valley;IIII)I"⟩, prog_3_method_9_code, 9, (some Jvm.ClassFile.FieldType.int), 1, 5, 4, 59)]
def zM2 : List (MethodName × ByteArray × Nat × Option FieldType × Nat × Nat × Nat × Nat) := [(⟨"java/util/Arrays", "fill", "([IIII)V"⟩, prog_29_method_104_code, 5, none, 15, 4, 4, 62),
  (⟨"java/util/Arrays", "rangeCheck", "(III)V"⟩, prog_29_method_30_code, 3, none, 15, 3, 4, 65),
  (⟨"EchoVale$Valley", "directly", "(III)I"⟩, prog_11_method_15_code, 5, (some Jvm.ClassFile.FieldType.int), 9, 3, 4, 69),
  (⟨"EchoVale$Valley", "distance", "(II)I"⟩, prog_11_method_5_code, 2, (some Jvm.ClassFile.FieldType.int), 9, 2, 4, 72),
  (⟨"java/lang/Math", "abs", "(I)I"⟩, prog_20_method_59_code, 1, (some Jvm.ClassFile.FieldType.int), 14, 1, 4, 75),
  (⟨"EchoVale$Course", "offer", "(LEchoVale$Valley;III)V"⟩, prog_3_method_10_code, 8, none, 1, 4, 4, 79),
  (⟨"EchoVale$Course", "findSoonest", "(I)V"⟩, prog_3_method_11_code, 4, none, 1, 1, 4, 83),
  (⟨"EchoVale", "on", "(I)I"⟩, prog_1_method_14_code, 2, (some Jvm.ClassFile.FieldType.int), 11, 1, 4, 88),
  (⟨"EchoVale$Course", "passHours", "(LEchoVale$Valley;I)I"⟩, prog_3_method_13_code, 4, (some Jvm.ClassFile.FieldType.int), 1, 2, 4, 92),
  (⟨"EchoVale$Course", "pass", "(LEchoVale$Valley;I)V"⟩, prog_3_method_14_code, 4, none, 1, 2, 4, 96),
  (⟨"EchoVale$Course", "giveBack", "(LEchoVale$Valley;II)V"⟩, prog_3_method_16_code, 7, none, 1, 3, 4, 100),
  (⟨"EchoVale$Valley", "snowAt", "(I)I"⟩, prog_11_method_13_code, 5, (some Jvm.ClassFile.FieldType.int), 9, 1, 4, 104),
  (⟨"EchoVale$Course", "sound", "(LEchoVale$Valley;III)V"⟩, prog_3_method_17_code, 8, none, 1, 4, 4, 109),
  (⟨"EchoVale$Valley", "hearersAt", "(II[I)I"⟩, prog_11_method_17_code, 6, (some Jvm.ClassFile.FieldType.int), 9, 3, 4, 113),
  (⟨"EchoVale$Course", "enterLog", "(IIII)V"⟩, prog_3_method_18_code, 6, none, 1, 4, 4, 117),
  (⟨"EchoVale$Valley", "onward", "(III)I"⟩, prog_11_method_16_code, 5, (some Jvm.ClassFile.FieldType.int), 9, 3, 4, 121),
  (⟨"EchoVale", "undo", "()I"⟩, prog_1_method_15_code, 1, (some Jvm.ClassFile.FieldType.int), 11, 0, 4, 125),
  (⟨"EchoVale$Undo", "takeBack", "(LEchoVale$Course;)Z"⟩, prog_10_method_4_code, 2, (some Jvm.ClassFile.FieldType.boolean), 8, 1, 4, 129),
  (⟨"EchoVale", "camp", "(II)I"⟩, prog_1_method_16_code, 7, (some Jvm.ClassFile.FieldType.int), 11, 2, 4, 133),
  (⟨"EchoVale", "isAhead", "(I)Z"⟩, prog_1_method_47_code, 1, (some Jvm.ClassFile.FieldType.boolean), 11, 1, 4, 136),
  (⟨"EchoVale", "wealthByCamping", "(III)I"⟩, prog_1_method_49_code, 4, (some Jvm.ClassFile.FieldType.int), 11, 3, 4, 140),
  (⟨"EchoVale$Course", "wealth", "(I)I"⟩, prog_3_method_20_code, 4, (some Jvm.ClassFile.FieldType.int), 1, 1, 4, 145),
  (⟨"EchoVale", "camping", "(III)I"⟩, prog_1_method_17_code, 4, (some Jvm.ClassFile.FieldType.int), 11, 3, 4, 150),
  (⟨"EchoVale", "has", "(III)I"⟩, prog_1_method_18_code, 4, (some Jvm.ClassFile.FieldType.int), 11, 3, 4, 154),
  (⟨"EchoVale", "areCamps", "(I)Z"⟩, prog_1_method_50_code, 2, (some Jvm.ClassFile.FieldType.boolean), 11, 1, 4, 158),
  (⟨"EchoVale$Valley", "campers", "()I"⟩, prog_11_method_18_code, 3, (some Jvm.ClassFile.FieldType.int), 9, 0, 4, 162),
  (⟨"EchoVale", "passByCamps", "(II)V"⟩, prog_1_method_51_code, 4, none, 11, 2, 4, 166),
  (⟨"EchoVale", "rests", "(II)I"⟩, prog_1_method_19_code, 5, (some Jvm.ClassFile.FieldType.int), 11, 2, 4, 171),
  (⟨"EchoVale", "keepOutcome", "(I)V"⟩, prog_1_method_52_code, 3, none, 11, 1, 4, 175),
  (⟨"EchoVale", "isRest", "(I)Z"⟩, prog_1_method_53_code, 5, (some Jvm.ClassFile.FieldType.boolean), 11, 1, 4, 179),
  (⟨"EchoVale", "tells", "(IIIII)I"⟩, prog_1_method_20_code, 8, (some Jvm.ClassFile.FieldType.int), 11, 5, 4, 183),
  (⟨"EchoVale", "passOneSaying", "(IIII)V"⟩, prog_1_method_54_code, 5, none, 11, 4, 4, 187),
  (⟨"EchoVale", "secret", "(II)I"⟩, prog_1_method_21_code, 4, (some Jvm.ClassFile.FieldType.int), 11, 2, 4, 193),
  (⟨"EchoVale", "next", "(I)I"⟩, prog_1_method_22_code, 3, (some Jvm.ClassFile.FieldType.int), 11, 1, 4, 197),
  (⟨"EchoVale", "heirs", "(II)I"⟩, prog_1_method_23_code, 3, (some Jvm.ClassFile.FieldType.int), 11, 2, 4, 202),
  (⟨"EchoVale", "when", "(III)I"⟩, prog_1_method_24_code, 5, (some Jvm.ClassFile.FieldType.int), 11, 3, 4, 206),
  (⟨"EchoVale", "meets", "(III)I"⟩, prog_1_method_25_code, 6, (some Jvm.ClassFile.FieldType.int), 11, 3, 4, 210),
  (⟨"EchoVale", "nearest", "(II)I"⟩, prog_1_method_26_code, 8, (some Jvm.ClassFile.FieldType.int), 11, 2, 4, 214),
  (⟨"EchoVale", "pieces", "()I"⟩, prog_1_method_27_code, 2, (some Jvm.ClassFile.FieldType.int), 11, 0, 4, 222),
  (⟨"EchoVale$Pieces", "take", "(LEchoVale$Reader;LEchoVale$Valley;)Z"⟩, prog_6_method_2_code, 5, (some Jvm.ClassFile.FieldType.boolean), 4, 2, 4, 226)]
def zM3 : List (MethodName × ByteArray × Nat × Option FieldType × Nat × Nat × Nat × Nat) := [(⟨"EchoVale$Pieces", "find", "(LEchoVale$Valley;LEchoVale$Course;)I"⟩, prog_6_method_3_code, 7, (some Jvm.ClassFile.FieldType.int), 4, 2, 4, 231),
  (⟨"EchoVale$Pieces", "canBegin", "(LEchoVale$Valley;I)Z"⟩, prog_6_method_5_code, 4, (some Jvm.ClassFile.FieldType.boolean), 4, 2, 4, 235),
  (⟨"EchoVale$Pieces", "canTake", "(LEchoVale$Valley;II)Z"⟩, prog_6_method_6_code, 6, (some Jvm.ClassFile.FieldType.boolean), 4, 3, 4, 238),
  (⟨"EchoVale$Pieces", "isWay", "(LEchoVale$Valley;LEchoVale$Course;III)Z"⟩, prog_6_method_7_code, 9, (some Jvm.ClassFile.FieldType.boolean), 4, 5, 5, 4),
  (⟨"EchoVale$Course", "leap", "(LEchoVale$Valley;I)Z"⟩, prog_3_method_15_code, 3, (some Jvm.ClassFile.FieldType.boolean), 1, 2, 5, 9),
  (⟨"EchoVale$Course", "isPending", "(I)Z"⟩, prog_3_method_12_code, 2, (some Jvm.ClassFile.FieldType.boolean), 1, 1, 5, 13),
  (⟨"EchoVale$Pieces", "isLogged", "(LEchoVale$Course;I)Z"⟩, prog_6_method_8_code, 4, (some Jvm.ClassFile.FieldType.boolean), 4, 2, 5, 17),
  (⟨"EchoVale$Pieces", "addWay", "(I)V"⟩, prog_6_method_4_code, 2, none, 4, 1, 5, 22),
  (⟨"EchoVale", "piece", "(I)I"⟩, prog_1_method_28_code, 2, (some Jvm.ClassFile.FieldType.int), 11, 1, 5, 26),
  (⟨"EchoVale", "claims", "()I"⟩, prog_1_method_29_code, 2, (some Jvm.ClassFile.FieldType.int), 11, 0, 5, 30),
  (⟨"EchoVale$ClaimsText", "readText", "(LEchoVale$Valley;LEchoVale$Course;)Z"⟩, prog_2_method_2_code, 4, (some Jvm.ClassFile.FieldType.boolean), 0, 2, 5, 34),
  (⟨"EchoVale$ClaimsText", "readLine", "(LEchoVale$Valley;LEchoVale$Course;I)Z"⟩, prog_2_method_3_code, 6, (some Jvm.ClassFile.FieldType.boolean), 0, 3, 5, 40),
  (⟨"EchoVale$ClaimsText", "isSo", "(LEchoVale$Course;III)Z"⟩, prog_2_method_4_code, 4, (some Jvm.ClassFile.FieldType.boolean), 0, 4, 5, 47),
  (⟨"EchoVale", "drawn", "(II)I"⟩, prog_1_method_30_code, 4, (some Jvm.ClassFile.FieldType.int), 11, 2, 5, 54),
  (⟨"EchoVale$Draws", "passHours", "(LEchoVale$Valley;LEchoVale$Course;II)I"⟩, prog_4_method_3_code, 7, (some Jvm.ClassFile.FieldType.int), 2, 4, 5, 58),
  (⟨"EchoVale$Draws", "draw", "(I)I"⟩, prog_4_method_2_code, 2, (some Jvm.ClassFile.FieldType.int), 2, 1, 5, 62),
  (⟨"EchoVale$Draws", "speak", "(LEchoVale$Valley;LEchoVale$Course;)V"⟩, prog_4_method_4_code, 6, none, 2, 2, 5, 68),
  (⟨"EchoVale", "storms", "(I)I"⟩, prog_1_method_31_code, 2, (some Jvm.ClassFile.FieldType.int), 11, 1, 5, 74),
  (⟨"EchoVale", "odds", "(III)I"⟩, prog_1_method_32_code, 7, (some Jvm.ClassFile.FieldType.int), 11, 3, 5, 78),
  (⟨"EchoVale", "poorest", "(I)I"⟩, prog_1_method_33_code, 7, (some Jvm.ClassFile.FieldType.int), 11, 1, 5, 82),
  (⟨"EchoVale", "reach", "(II)I"⟩, prog_1_method_34_code, 6, (some Jvm.ClassFile.FieldType.int), 11, 2, 5, 86),
  (⟨"EchoVale", "hears", "(II)I"⟩, prog_1_method_35_code, 3, (some Jvm.ClassFile.FieldType.int), 11, 2, 5, 90),
  (⟨"EchoVale", "write", "(I)I"⟩, prog_1_method_36_code, 3, (some Jvm.ClassFile.FieldType.int), 11, 1, 5, 95),
  (⟨"EchoVale", "putName", "(J)V"⟩, prog_1_method_56_code, 5, none, 11, 1, 5, 99),
  (⟨"EchoVale", "put", "(I)V"⟩, prog_1_method_55_code, 2, none, 11, 1, 5, 103),
  (⟨"EchoVale", "putNumber", "(I)V"⟩, prog_1_method_57_code, 2, none, 11, 1, 5, 107),
  (⟨"EchoVale", "byteAt", "(I)I"⟩, prog_1_method_37_code, 2, (some Jvm.ClassFile.FieldType.int), 11, 1, 5, 111),
  (⟨"EchoVale", "sentence", "()I"⟩, prog_1_method_38_code, 2, (some Jvm.ClassFile.FieldType.int), 11, 0, 5, 115),
  (⟨"EchoVale$SentenceText", "readText", "(LEchoVale$Valley;)Z"⟩, prog_9_method_2_code, 2, (some Jvm.ClassFile.FieldType.boolean), 7, 1, 5, 119),
  (⟨"EchoVale$SentenceText", "readCondition", "(LEchoVale$Valley;I)Z"⟩, prog_9_method_3_code, 4, (some Jvm.ClassFile.FieldType.boolean), 7, 2, 5, 125),
  (⟨"EchoVale$SentenceText", "readJoined", "(LEchoVale$Valley;I)Z"⟩, prog_9_method_4_code, 4, (some Jvm.ClassFile.FieldType.boolean), 7, 2, 5, 129),
  (⟨"EchoVale$SentenceText", "readOne", "(LEchoVale$Valley;I)Z"⟩, prog_9_method_5_code, 3, (some Jvm.ClassFile.FieldType.boolean), 7, 2, 5, 133),
  (⟨"EchoVale$Reader", "isWord", "(I)Z"⟩, prog_7_method_15_code, 2, (some Jvm.ClassFile.FieldType.boolean), 5, 1, 5, 141),
  (⟨"EchoVale$Sentence", "add", "(III)V"⟩, prog_8_method_4_code, 4, none, 6, 3, 5, 145),
  (⟨"EchoVale$SentenceText", "readPlain", "(LEchoVale$Valley;)Z"⟩, prog_9_method_6_code, 4, (some Jvm.ClassFile.FieldType.boolean), 7, 1, 5, 149),
  (⟨"EchoVale$Sentence", "copyFrom", "(LEchoVale$Sentence;)V"⟩, prog_8_method_3_code, 2, none, 6, 1, 5, 155),
  (⟨"EchoVale", "said", "(I)I"⟩, prog_1_method_39_code, 4, (some Jvm.ClassFile.FieldType.int), 11, 1, 5, 160),
  (⟨"EchoVale$Sentence", "holds", "(LEchoVale$Course;I)Z"⟩, prog_8_method_5_code, 6, (some Jvm.ClassFile.FieldType.boolean), 6, 2, 5, 164),
  (⟨"EchoVale$Sentence", "isSo", "(LEchoVale$Course;II)Z"⟩, prog_8_method_6_code, 6, (some Jvm.ClassFile.FieldType.boolean), 6, 3, 5, 168),
  (⟨"EchoVale$Sentence", "compares", "(III)Z"⟩, prog_8_method_7_code, 3, (some Jvm.ClassFile.FieldType.boolean), 6, 3, 5, 175)]
def zM4 : List (MethodName × ByteArray × Nat × Option FieldType × Nat × Nat × Nat × Nat) := [(⟨"EchoVale", "image", "(I)Z"⟩, prog_1_method_40_code, 2, (some Jvm.ClassFile.FieldType.boolean), 11, 1, 5, 179),
  (⟨"EchoVale", "restore", "(I)Z"⟩, prog_1_method_41_code, 2, (some Jvm.ClassFile.FieldType.boolean), 11, 1, 5, 183),
  (⟨"EchoVale", "count", "(I)I"⟩, prog_1_method_42_code, 2, (some Jvm.ClassFile.FieldType.int), 11, 1, 5, 187),
  (⟨"EchoVale", "cliff", "(II)I"⟩, prog_1_method_6_code, 3, (some Jvm.ClassFile.FieldType.int), 11, 2, 5, 196),
  (⟨"EchoVale", "person", "(II)I"⟩, prog_1_method_7_code, 3, (some Jvm.ClassFile.FieldType.int), 11, 2, 6, 28),
  (⟨"EchoVale$Course", "countWith", "(II)I"⟩, prog_3_method_21_code, 5, (some Jvm.ClassFile.FieldType.int), 1, 2, 6, 33),
  (⟨"EchoVale$Course", "countBy", "(I)I"⟩, prog_3_method_22_code, 4, (some Jvm.ClassFile.FieldType.int), 1, 1, 6, 37),
  (⟨"EchoVale", "saying", "(II)I"⟩, prog_1_method_8_code, 3, (some Jvm.ClassFile.FieldType.int), 11, 2, 6, 44),
  (⟨"EchoValeModel", "<init>", "()V"⟩, prog_14_method_1_code, 1, none, 12, 0, 6, 50),
  (⟨"EchoValeModel", "thrown", "()I"⟩, prog_14_method_2_code, 1, (some Jvm.ClassFile.FieldType.int), 12, 0, 6, 206),
  (⟨"EchoValeModel", "feed", "(IIIII)I"⟩, prog_14_method_5_code, 6, (some Jvm.ClassFile.FieldType.int), 12, 5, 6, 210),
  (⟨"EchoValeModel", "come", "(I)V"⟩, prog_14_method_4_code, 3, none, 12, 1, 6, 214),
  (⟨"EchoValeModel", "end", "(I)Z"⟩, prog_14_method_6_code, 2, (some Jvm.ClassFile.FieldType.boolean), 12, 1, 6, 218),
  (⟨"EchoValeModel", "valley", "()I"⟩, prog_14_method_41_code, 3, (some Jvm.ClassFile.FieldType.int), 12, 0, 6, 222),
  (⟨"EchoValeModel", "begin", "(I)V"⟩, prog_14_method_27_code, 2, none, 12, 1, 6, 226),
  (⟨"EchoValeModel", "take", "()I"⟩, prog_14_method_7_code, 2, (some Jvm.ClassFile.FieldType.int), 12, 0, 6, 230),
  (⟨"EchoValeModel", "go", "()V"⟩, prog_14_method_17_code, 5, none, 12, 0, 6, 234),
  (⟨"EchoValeModel", "isLetter", "(I)Z"⟩, prog_14_method_16_code, 1, (some Jvm.ClassFile.FieldType.boolean), 12, 1, 6, 237),
  (⟨"EchoValeModel", "isDigit", "(I)Z"⟩, prog_14_method_15_code, 1, (some Jvm.ClassFile.FieldType.boolean), 12, 1, 7, 0),
  (⟨"EchoValeModel", "tapeAt", "(I)I"⟩, prog_14_method_14_code, 2, (some Jvm.ClassFile.FieldType.int), 12, 1, 7, 4),
  (⟨"EchoValeModel", "readLine", "()Z"⟩, prog_14_method_40_code, 2, (some Jvm.ClassFile.FieldType.boolean), 12, 0, 7, 10),
  (⟨"EchoValeModel", "isWord", "(I)Z"⟩, prog_14_method_20_code, 2, (some Jvm.ClassFile.FieldType.boolean), 12, 1, 7, 14),
  (⟨"EchoValeModel", "wordOf", "(I)J"⟩, prog_14_method_19_code, 1, (some Jvm.ClassFile.FieldType.long), 12, 1, 7, 17),
  (⟨"EchoValeModel", "spelt", "(IIIIII)J"⟩, prog_14_method_18_code, 8, (some Jvm.ClassFile.FieldType.long), 12, 6, 7, 20),
  (⟨"EchoValeModel", "readLand", "()Z"⟩, prog_14_method_32_code, 1, (some Jvm.ClassFile.FieldType.boolean), 12, 0, 7, 24),
  (⟨"EchoValeModel", "bad", "(I)Z"⟩, prog_14_method_23_code, 2, (some Jvm.ClassFile.FieldType.boolean), 12, 1, 7, 28),
  (⟨"EchoValeModel", "readNumber", "(II)Z"⟩, prog_14_method_25_code, 3, (some Jvm.ClassFile.FieldType.boolean), 12, 2, 7, 32),
  (⟨"EchoValeModel", "isNumber", "(II)Z"⟩, prog_14_method_24_code, 3, (some Jvm.ClassFile.FieldType.boolean), 12, 2, 7, 36),
  (⟨"EchoValeModel", "isIn", "(III)Z"⟩, prog_14_method_8_code, 3, (some Jvm.ClassFile.FieldType.boolean), 12, 3, 7, 39),
  (⟨"EchoValeModel", "readCliff", "()Z"⟩, prog_14_method_33_code, 3, (some Jvm.ClassFile.FieldType.boolean), 12, 0, 7, 43),
  (⟨"EchoValeModel", "readNew", "(I)Z"⟩, prog_14_method_29_code, 2, (some Jvm.ClassFile.FieldType.boolean), 12, 1, 7, 47),
  (⟨"EchoValeModel", "isName", "()Z"⟩, prog_14_method_22_code, 2, (some Jvm.ClassFile.FieldType.boolean), 12, 0, 7, 51),
  (⟨"EchoValeModel", "findIn", "([JIIJ)I"⟩, prog_14_method_28_code, 6, (some Jvm.ClassFile.FieldType.int), 12, 4, 7, 54),
  (⟨"EchoValeModel", "holdCell", "()Z"⟩, prog_14_method_30_code, 2, (some Jvm.ClassFile.FieldType.boolean), 12, 0, 7, 58),
  (⟨"EchoValeModel", "readPerson", "()Z"⟩, prog_14_method_34_code, 2, (some Jvm.ClassFile.FieldType.boolean), 12, 0, 7, 62),
  (⟨"EchoValeModel", "readCell", "()Z"⟩, prog_14_method_31_code, 1, (some Jvm.ClassFile.FieldType.boolean), 12, 0, 7, 66),
  (⟨"EchoValeModel", "readMove", "()Z"⟩, prog_14_method_36_code, 3, (some Jvm.ClassFile.FieldType.boolean), 12, 0, 7, 70),
  (⟨"EchoValeModel", "isOne", "()Z"⟩, prog_14_method_35_code, 1, (some Jvm.ClassFile.FieldType.boolean), 12, 0, 7, 74),
  (⟨"EchoValeModel", "readCamp", "()Z"⟩, prog_14_method_37_code, 2, (some Jvm.ClassFile.FieldType.boolean), 12, 0, 7, 78),
  (⟨"EchoValeModel", "readFelt", "()Z"⟩, prog_14_method_38_code, 1, (some Jvm.ClassFile.FieldType.boolean), 12, 0, 7, 82)]
def zM5 : List (MethodName × ByteArray × Nat × Option FieldType × Nat × Nat × Nat × Nat) := [(⟨"EchoValeModel", "readSnow", "()Z"⟩, prog_14_method_39_code, 3, (some Jvm.ClassFile.FieldType.boolean), 12, 0, 7, 86),
  (⟨"EchoValeModel", "readEnd", "()Z"⟩, prog_14_method_26_code, 1, (some Jvm.ClassFile.FieldType.boolean), 12, 0, 7, 90),
  (⟨"EchoValeModel", "isSign", "(I)Z"⟩, prog_14_method_21_code, 2, (some Jvm.ClassFile.FieldType.boolean), 12, 1, 7, 94),
  (⟨"EchoValeModel", "fault", "()I"⟩, prog_14_method_42_code, 1, (some Jvm.ClassFile.FieldType.int), 12, 0, 7, 98),
  (⟨"EchoValeModel", "cliff", "(II)I"⟩, prog_14_method_52_code, 4, (some Jvm.ClassFile.FieldType.int), 12, 2, 7, 102),
  (⟨"EchoValeModel", "isCliff", "(I)Z"⟩, prog_14_method_43_code, 2, (some Jvm.ClassFile.FieldType.boolean), 12, 1, 7, 106),
  (⟨"EchoValeModel", "refuse", "()I"⟩, prog_14_method_3_code, 1, (some Jvm.ClassFile.FieldType.int), 12, 0, 7, 110),
  (⟨"EchoValeModel", "strength", "(I)I"⟩, prog_14_method_49_code, 2, (some Jvm.ClassFile.FieldType.int), 12, 1, 7, 114),
  (⟨"EchoValeModel", "snowAt", "(I)I"⟩, prog_14_method_51_code, 6, (some Jvm.ClassFile.FieldType.int), 12, 1, 7, 118),
  (⟨"EchoValeModel", "person", "(II)I"⟩, prog_14_method_55_code, 5, (some Jvm.ClassFile.FieldType.int), 12, 2, 7, 122),
  (⟨"EchoValeModel", "isPerson", "(I)Z"⟩, prog_14_method_44_code, 2, (some Jvm.ClassFile.FieldType.boolean), 12, 1, 7, 126),
  (⟨"EchoValeModel", "hasAll", "(I)I"⟩, prog_14_method_54_code, 4, (some Jvm.ClassFile.FieldType.int), 12, 1, 7, 130),
  (⟨"EchoValeModel", "shareOf", "(II)I"⟩, prog_14_method_53_code, 6, (some Jvm.ClassFile.FieldType.int), 12, 2, 7, 134),
  (⟨"EchoValeModel", "of", "(II)I"⟩, prog_14_method_50_code, 3, (some Jvm.ClassFile.FieldType.int), 12, 2, 7, 138),
  (⟨"EchoValeModel", "has", "(II)Z"⟩, prog_14_method_9_code, 2, (some Jvm.ClassFile.FieldType.boolean), 12, 2, 7, 141),
  (⟨"EchoValeModel", "bits", "(I)I"⟩, prog_14_method_10_code, 3, (some Jvm.ClassFile.FieldType.int), 12, 1, 7, 144),
  (⟨"EchoValeModel", "saying", "(II)I"⟩, prog_14_method_56_code, 3, (some Jvm.ClassFile.FieldType.int), 12, 2, 7, 148),
  (⟨"EchoValeModel", "isSaying", "(I)Z"⟩, prog_14_method_45_code, 2, (some Jvm.ClassFile.FieldType.boolean), 12, 1, 7, 152),
  (⟨"EchoValeModel", "comes", "(III)I"⟩, prog_14_method_57_code, 4, (some Jvm.ClassFile.FieldType.int), 12, 3, 7, 156),
  (⟨"EchoValeModel", "comesAt", "(III)I"⟩, prog_14_method_58_code, 4, (some Jvm.ClassFile.FieldType.int), 12, 3, 7, 160),
  (⟨"EchoValeModel", "share", "(II)I"⟩, prog_14_method_59_code, 3, (some Jvm.ClassFile.FieldType.int), 12, 2, 7, 164),
  (⟨"EchoValeModel", "sounded", "(II)I"⟩, prog_14_method_60_code, 3, (some Jvm.ClassFile.FieldType.int), 12, 2, 7, 168),
  (⟨"EchoValeModel", "undo", "()I"⟩, prog_14_method_70_code, 2, (some Jvm.ClassFile.FieldType.int), 12, 0, 7, 172),
  (⟨"EchoValeModel", "goes", "(II)Z"⟩, prog_14_method_73_code, 3, (some Jvm.ClassFile.FieldType.boolean), 12, 2, 7, 176),
  (⟨"EchoValeModel", "isAt", "(I)Z"⟩, prog_14_method_46_code, 2, (some Jvm.ClassFile.FieldType.boolean), 12, 1, 7, 180),
  (⟨"EchoValeModel", "snap", "()V"⟩, prog_14_method_69_code, 2, none, 12, 0, 7, 184),
  (⟨"EchoValeModel", "says", "(III)I"⟩, prog_14_method_74_code, 4, (some Jvm.ClassFile.FieldType.int), 12, 3, 7, 188),
  (⟨"EchoValeModel", "sayIt", "(III)I"⟩, prog_14_method_63_code, 9, (some Jvm.ClassFile.FieldType.int), 12, 3, 7, 192),
  (⟨"EchoValeModel", "loudAt", "(II)I"⟩, prog_14_method_62_code, 4, (some Jvm.ClassFile.FieldType.int), 12, 2, 7, 196),
  (⟨"EchoValeModel", "cliffAt", "(I)I"⟩, prog_14_method_47_code, 2, (some Jvm.ClassFile.FieldType.int), 12, 1, 7, 200),
  (⟨"EchoValeModel", "apart", "(II)I"⟩, prog_14_method_13_code, 2, (some Jvm.ClassFile.FieldType.int), 12, 2, 7, 203),
  (⟨"EchoValeModel", "size", "(I)I"⟩, prog_14_method_12_code, 1, (some Jvm.ClassFile.FieldType.int), 12, 1, 7, 206),
  (⟨"EchoValeModel", "delay", "(I)I"⟩, prog_14_method_48_code, 2, (some Jvm.ClassFile.FieldType.int), 12, 1, 7, 210),
  (⟨"EchoValeModel", "comeTo", "(IIII)V"⟩, prog_14_method_61_code, 7, none, 12, 4, 7, 214),
  (⟨"EchoValeModel", "on", "(I)I"⟩, prog_14_method_75_code, 2, (some Jvm.ClassFile.FieldType.int), 12, 1, 7, 218),
  (⟨"EchoValeModel", "passHours", "(I)I"⟩, prog_14_method_68_code, 3, (some Jvm.ClassFile.FieldType.int), 12, 1, 7, 222),
  (⟨"EchoValeModel", "pass", "(I)V"⟩, prog_14_method_67_code, 7, none, 12, 1, 7, 226),
  (⟨"EchoValeModel", "moveAll", "(I)V"⟩, prog_14_method_66_code, 3, none, 12, 1, 7, 230),
  (⟨"EchoValeModel", "least", "(II)I"⟩, prog_14_method_11_code, 2, (some Jvm.ClassFile.FieldType.int), 12, 2, 7, 233),
  (⟨"EchoValeModel", "sound", "(III)V"⟩, prog_14_method_65_code, 10, none, 12, 3, 7, 237)]
def zM6 : List (MethodName × ByteArray × Nat × Option FieldType × Nat × Nat × Nat × Nat) := [(⟨"EchoValeModel", "hearersOf", "(II)I"⟩, prog_14_method_64_code, 5, (some Jvm.ClassFile.FieldType.int), 12, 2, 8, 1),
  (⟨"EchoValeModel", "camp", "(II)I"⟩, prog_14_method_78_code, 7, (some Jvm.ClassFile.FieldType.int), 12, 2, 8, 5),
  (⟨"EchoValeModel", "isTime", "(I)Z"⟩, prog_14_method_76_code, 1, (some Jvm.ClassFile.FieldType.boolean), 12, 1, 8, 8),
  (⟨"EchoValeModel", "campingBy", "(III)I"⟩, prog_14_method_77_code, 5, (some Jvm.ClassFile.FieldType.int), 12, 3, 8, 12),
  (⟨"EchoValeModel", "layAside", "()V"⟩, prog_14_method_71_code, 2, none, 12, 0, 8, 16),
  (⟨"EchoValeModel", "layBack", "()V"⟩, prog_14_method_72_code, 2, none, 12, 0, 8, 20),
  (⟨"EchoValeModel", "camping", "(III)I"⟩, prog_14_method_79_code, 4, (some Jvm.ClassFile.FieldType.int), 12, 3, 8, 24),
  (⟨"EchoValeModel", "has", "(III)I"⟩, prog_14_method_82_code, 4, (some Jvm.ClassFile.FieldType.int), 12, 3, 8, 28),
  (⟨"EchoValeModel", "campers", "()I"⟩, prog_14_method_80_code, 3, (some Jvm.ClassFile.FieldType.int), 12, 0, 8, 32),
  (⟨"EchoValeModel", "layHas", "(II)V"⟩, prog_14_method_81_code, 4, none, 12, 2, 8, 36),
  (⟨"EchoValeModel", "rests", "(II)I"⟩, prog_14_method_84_code, 6, (some Jvm.ClassFile.FieldType.int), 12, 2, 8, 40),
  (⟨"EchoValeModel", "isRest", "(II)Z"⟩, prog_14_method_83_code, 4, (some Jvm.ClassFile.FieldType.boolean), 12, 2, 8, 44),
  (⟨"EchoValeModel", "tells", "(IIIII)I"⟩, prog_14_method_85_code, 10, (some Jvm.ClassFile.FieldType.int), 12, 5, 8, 48),
  (⟨"EchoValeModel", "secret", "(II)I"⟩, prog_14_method_86_code, 6, (some Jvm.ClassFile.FieldType.int), 12, 2, 8, 52),
  (⟨"EchoValeModel", "next", "(I)I"⟩, prog_14_method_87_code, 4, (some Jvm.ClassFile.FieldType.int), 12, 1, 8, 56),
  (⟨"EchoValeModel", "heirs", "(II)I"⟩, prog_14_method_88_code, 4, (some Jvm.ClassFile.FieldType.int), 12, 2, 8, 60),
  (⟨"EchoValeModel", "when", "(III)I"⟩, prog_14_method_89_code, 7, (some Jvm.ClassFile.FieldType.int), 12, 3, 8, 64),
  (⟨"EchoValeModel", "meets", "(III)I"⟩, prog_14_method_90_code, 6, (some Jvm.ClassFile.FieldType.int), 12, 3, 8, 68),
  (⟨"EchoValeModel", "nearest", "(II)I"⟩, prog_14_method_92_code, 7, (some Jvm.ClassFile.FieldType.int), 12, 2, 8, 72),
  (⟨"EchoValeModel", "wouldCome", "(III)I"⟩, prog_14_method_91_code, 4, (some Jvm.ClassFile.FieldType.int), 12, 3, 8, 76),
  (⟨"EchoValeModel", "reach", "(II)I"⟩, prog_14_method_93_code, 5, (some Jvm.ClassFile.FieldType.int), 12, 2, 8, 80),
  (⟨"EchoValeModel", "hears", "(II)I"⟩, prog_14_method_94_code, 3, (some Jvm.ClassFile.FieldType.int), 12, 2, 8, 84),
  (⟨"EchoValeModel", "pieces", "()I"⟩, prog_14_method_99_code, 5, (some Jvm.ClassFile.FieldType.int), 12, 0, 8, 88),
  (⟨"EchoValeModel", "takePieces", "()Z"⟩, prog_14_method_98_code, 3, (some Jvm.ClassFile.FieldType.boolean), 12, 0, 8, 92),
  (⟨"EchoValeModel", "soundAll", "(III)V"⟩, prog_14_method_96_code, 10, none, 12, 3, 8, 96),
  (⟨"EchoValeModel", "cometh", "(III)V"⟩, prog_14_method_95_code, 4, none, 12, 3, 8, 100),
  (⟨"EchoValeModel", "allSound", "()Z"⟩, prog_14_method_97_code, 2, (some Jvm.ClassFile.FieldType.boolean), 12, 0, 8, 104),
  (⟨"EchoValeModel", "piece", "(I)I"⟩, prog_14_method_100_code, 2, (some Jvm.ClassFile.FieldType.int), 12, 1, 8, 108),
  (⟨"EchoValeModel", "claims", "()I"⟩, prog_14_method_102_code, 1, (some Jvm.ClassFile.FieldType.int), 12, 0, 8, 112),
  (⟨"EchoValeModel", "readClaim", "()Z"⟩, prog_14_method_101_code, 5, (some Jvm.ClassFile.FieldType.boolean), 12, 0, 8, 116),
  (⟨"EchoValeModel", "drawn", "(II)I"⟩, prog_14_method_105_code, 4, (some Jvm.ClassFile.FieldType.int), 12, 2, 8, 120),
  (⟨"EchoValeModel", "drawnBy", "(II)I"⟩, prog_14_method_104_code, 8, (some Jvm.ClassFile.FieldType.int), 12, 2, 8, 124),
  (⟨"EchoValeModel", "draw", "(I)I"⟩, prog_14_method_103_code, 2, (some Jvm.ClassFile.FieldType.int), 12, 1, 8, 128),
  (⟨"EchoValeModel", "storms", "(I)I"⟩, prog_14_method_106_code, 2, (some Jvm.ClassFile.FieldType.int), 12, 1, 8, 133),
  (⟨"EchoValeModel", "odds", "(III)I"⟩, prog_14_method_107_code, 7, (some Jvm.ClassFile.FieldType.int), 12, 3, 8, 137),
  (⟨"EchoValeModel", "poorest", "(I)I"⟩, prog_14_method_108_code, 4, (some Jvm.ClassFile.FieldType.int), 12, 1, 8, 141),
  (⟨"EchoValeModel", "write", "(I)I"⟩, prog_14_method_111_code, 7, (some Jvm.ClassFile.FieldType.int), 12, 1, 8, 145),
  (⟨"EchoValeModel", "put", "(I)V"⟩, prog_14_method_109_code, 2, none, 12, 1, 8, 149),
  (⟨"EchoValeModel", "putNumber", "(I)V"⟩, prog_14_method_110_code, 2, none, 12, 1, 8, 153),
  (⟨"EchoValeModel", "byteAt", "(I)I"⟩, prog_14_method_112_code, 2, (some Jvm.ClassFile.FieldType.int), 12, 1, 8, 157)]
def zM7 : List (MethodName × ByteArray × Nat × Option FieldType × Nat × Nat × Nat × Nat) := [(⟨"EchoValeModel", "sentence", "()I"⟩, prog_14_method_121_code, 2, (some Jvm.ClassFile.FieldType.int), 12, 0, 8, 161),
  (⟨"EchoValeModel", "readOr", "()Z"⟩, prog_14_method_114_code, 2, (some Jvm.ClassFile.FieldType.boolean), 12, 0, 8, 165),
  (⟨"EchoValeModel", "readAnd", "()Z"⟩, prog_14_method_115_code, 2, (some Jvm.ClassFile.FieldType.boolean), 12, 0, 8, 169),
  (⟨"EchoValeModel", "readOne", "()Z"⟩, prog_14_method_116_code, 4, (some Jvm.ClassFile.FieldType.boolean), 12, 0, 8, 173),
  (⟨"EchoValeModel", "readBracket", "()Z"⟩, prog_14_method_118_code, 1, (some Jvm.ClassFile.FieldType.boolean), 12, 0, 8, 177),
  (⟨"EchoValeModel", "readNot", "()Z"⟩, prog_14_method_117_code, 1, (some Jvm.ClassFile.FieldType.boolean), 12, 0, 8, 181),
  (⟨"EchoValeModel", "saysOne", "(IIII)I"⟩, prog_14_method_113_code, 6, (some Jvm.ClassFile.FieldType.int), 12, 4, 8, 185),
  (⟨"EchoValeModel", "readOf", "(I)Z"⟩, prog_14_method_119_code, 3, (some Jvm.ClassFile.FieldType.boolean), 12, 1, 8, 189),
  (⟨"EchoValeModel", "readCompare", "(I)Z"⟩, prog_14_method_120_code, 3, (some Jvm.ClassFile.FieldType.boolean), 12, 1, 8, 193),
  (⟨"EchoValeModel", "said", "(I)I"⟩, prog_14_method_124_code, 4, (some Jvm.ClassFile.FieldType.int), 12, 1, 8, 197),
  (⟨"EchoValeModel", "holds", "(II)Z"⟩, prog_14_method_123_code, 8, (some Jvm.ClassFile.FieldType.boolean), 12, 2, 8, 201),
  (⟨"EchoValeModel", "isLost", "(I)Z"⟩, prog_14_method_122_code, 3, (some Jvm.ClassFile.FieldType.boolean), 12, 1, 8, 205),
  (⟨"EchoValeModel", "image", "(I)Z"⟩, prog_14_method_125_code, 3, (some Jvm.ClassFile.FieldType.boolean), 12, 1, 8, 209),
  (⟨"EchoValeModel", "restore", "(I)Z"⟩, prog_14_method_126_code, 3, (some Jvm.ClassFile.FieldType.boolean), 12, 1, 8, 213),
  (⟨"EchoValeModel", "count", "(I)I"⟩, prog_14_method_127_code, 2, (some Jvm.ClassFile.FieldType.int), 12, 1, 8, 217)]
def zMs : List (MethodName × ByteArray × Nat × Option FieldType × Nat × Nat × Nat × Nat) := zM0 ++ (zM1 ++ (zM2 ++ (zM3 ++ (zM4 ++ (zM5 ++ (zM6 ++ (zM7)))))))
