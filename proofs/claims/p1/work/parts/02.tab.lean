-- ===== PART A: goes FIRST, ahead of the names: the tables' words, and 'selects' of the private methods out of them =====
/-- a private method of a class that the tables say can be made, by its rows of tables_1 -/
def lw_okq (q : MethodName × Nat) : Prop := (q.1.cls ≠ "java/lang/invoke/MethodHandle" ∧ q.1.cls ≠ "java/lang/invoke/VarHandle") ∧ Cond.instantiable q.1.cls q.2 ∈ tables_1 ∧ Cond.privateMethod q.1 ∈ tables_1 ∧ Cond.instanceMethod q.1 ∈ tables_1
theorem lw_p0 : lw_okq (⟨"EchoVale$Reader", "readRun", "()V"⟩, 11) := ⟨⟨by decide +kernel, by decide +kernel⟩, List.mem_of_getElem? (i := 35) (by decide +kernel), List.mem_of_getElem? (i := 559) (by decide +kernel), List.mem_of_getElem? (i := 560) (by decide +kernel)⟩
theorem lw_p1 : lw_okq (⟨"EchoVale$Reader", "keywordOf", "(J)I"⟩, 11) := ⟨⟨by decide +kernel, by decide +kernel⟩, List.mem_of_getElem? (i := 35) (by decide +kernel), List.mem_of_getElem? (i := 563) (by decide +kernel), List.mem_of_getElem? (i := 564) (by decide +kernel)⟩
theorem lw_p2 : lw_okq (⟨"EchoVale$ValleyText", "readLine", "()Z"⟩, 3) := ⟨⟨by decide +kernel, by decide +kernel⟩, List.mem_of_getElem? (i := 252) (by decide +kernel), List.mem_of_getElem? (i := 574) (by decide +kernel), List.mem_of_getElem? (i := 575) (by decide +kernel)⟩
theorem lw_p3 : lw_okq (⟨"EchoVale$ValleyText", "readLand", "()Z"⟩, 3) := ⟨⟨by decide +kernel, by decide +kernel⟩, List.mem_of_getElem? (i := 252) (by decide +kernel), List.mem_of_getElem? (i := 582) (by decide +kernel), List.mem_of_getElem? (i := 583) (by decide +kernel)⟩
theorem lw_p4 : lw_okq (⟨"EchoVale$ValleyText", "readCliff", "()Z"⟩, 3) := ⟨⟨by decide +kernel, by decide +kernel⟩, List.mem_of_getElem? (i := 252) (by decide +kernel), List.mem_of_getElem? (i := 592) (by decide +kernel), List.mem_of_getElem? (i := 593) (by decide +kernel)⟩
theorem lw_p5 : lw_okq (⟨"EchoVale$ValleyText", "isNewName", "()Z"⟩, 3) := ⟨⟨by decide +kernel, by decide +kernel⟩, List.mem_of_getElem? (i := 252) (by decide +kernel), List.mem_of_getElem? (i := 596) (by decide +kernel), List.mem_of_getElem? (i := 597) (by decide +kernel)⟩
theorem lw_p6 : lw_okq (⟨"EchoVale$ValleyText", "cellHere", "()I"⟩, 3) := ⟨⟨by decide +kernel, by decide +kernel⟩, List.mem_of_getElem? (i := 252) (by decide +kernel), List.mem_of_getElem? (i := 612) (by decide +kernel), List.mem_of_getElem? (i := 613) (by decide +kernel)⟩
theorem lw_p7 : lw_okq (⟨"EchoVale$ValleyText", "readPerson", "()Z"⟩, 3) := ⟨⟨by decide +kernel, by decide +kernel⟩, List.mem_of_getElem? (i := 252) (by decide +kernel), List.mem_of_getElem? (i := 620) (by decide +kernel), List.mem_of_getElem? (i := 621) (by decide +kernel)⟩
theorem lw_p8 : lw_okq (⟨"EchoVale$ValleyText", "readMove", "()Z"⟩, 3) := ⟨⟨by decide +kernel, by decide +kernel⟩, List.mem_of_getElem? (i := 252) (by decide +kernel), List.mem_of_getElem? (i := 624) (by decide +kernel), List.mem_of_getElem? (i := 625) (by decide +kernel)⟩
theorem lw_p9 : lw_okq (⟨"EchoVale$ValleyText", "readCamp", "()Z"⟩, 3) := ⟨⟨by decide +kernel, by decide +kernel⟩, List.mem_of_getElem? (i := 252) (by decide +kernel), List.mem_of_getElem? (i := 637) (by decide +kernel), List.mem_of_getElem? (i := 638) (by decide +kernel)⟩
theorem lw_p10 : lw_okq (⟨"EchoVale$ValleyText", "readFelt", "()Z"⟩, 3) := ⟨⟨by decide +kernel, by decide +kernel⟩, List.mem_of_getElem? (i := 252) (by decide +kernel), List.mem_of_getElem? (i := 641) (by decide +kernel), List.mem_of_getElem? (i := 642) (by decide +kernel)⟩
theorem lw_p11 : lw_okq (⟨"EchoVale$ValleyText", "readSnow", "()Z"⟩, 3) := ⟨⟨by decide +kernel, by decide +kernel⟩, List.mem_of_getElem? (i := 252) (by decide +kernel), List.mem_of_getElem? (i := 649) (by decide +kernel), List.mem_of_getElem? (i := 650) (by decide +kernel)⟩
theorem lw_p12 : lw_okq (⟨"EchoVale", "isSaying", "(I)Z"⟩, 17) := ⟨⟨by decide +kernel, by decide +kernel⟩, List.mem_of_getElem? (i := 27) (by decide +kernel), List.mem_of_getElem? (i := 693) (by decide +kernel), List.mem_of_getElem? (i := 694) (by decide +kernel)⟩
theorem lw_p13 : lw_okq (⟨"EchoVale", "isCliff", "(I)Z"⟩, 17) := ⟨⟨by decide +kernel, by decide +kernel⟩, List.mem_of_getElem? (i := 27) (by decide +kernel), List.mem_of_getElem? (i := 697) (by decide +kernel), List.mem_of_getElem? (i := 698) (by decide +kernel)⟩
theorem lw_p14 : lw_okq (⟨"EchoVale", "isPerson", "(I)Z"⟩, 17) := ⟨⟨by decide +kernel, by decide +kernel⟩, List.mem_of_getElem? (i := 27) (by decide +kernel), List.mem_of_getElem? (i := 705) (by decide +kernel), List.mem_of_getElem? (i := 706) (by decide +kernel)⟩
theorem lw_p15 : lw_okq (⟨"EchoVale$Course", "offer", "(LEchoVale$Valley;III)V"⟩, 9) := ⟨⟨by decide +kernel, by decide +kernel⟩, List.mem_of_getElem? (i := 324) (by decide +kernel), List.mem_of_getElem? (i := 797) (by decide +kernel), List.mem_of_getElem? (i := 798) (by decide +kernel)⟩
def lw_privs_1 : List (MethodName × Nat) := [(⟨"EchoVale$Reader", "readRun", "()V"⟩, 11), (⟨"EchoVale$Reader", "keywordOf", "(J)I"⟩, 11), (⟨"EchoVale$ValleyText", "readLine", "()Z"⟩, 3), (⟨"EchoVale$ValleyText", "readLand", "()Z"⟩, 3), (⟨"EchoVale$ValleyText", "readCliff", "()Z"⟩, 3), (⟨"EchoVale$ValleyText", "isNewName", "()Z"⟩, 3), (⟨"EchoVale$ValleyText", "cellHere", "()I"⟩, 3), (⟨"EchoVale$ValleyText", "readPerson", "()Z"⟩, 3), (⟨"EchoVale$ValleyText", "readMove", "()Z"⟩, 3), (⟨"EchoVale$ValleyText", "readCamp", "()Z"⟩, 3), (⟨"EchoVale$ValleyText", "readFelt", "()Z"⟩, 3), (⟨"EchoVale$ValleyText", "readSnow", "()Z"⟩, 3), (⟨"EchoVale", "isSaying", "(I)Z"⟩, 17), (⟨"EchoVale", "isCliff", "(I)Z"⟩, 17), (⟨"EchoVale", "isPerson", "(I)Z"⟩, 17), (⟨"EchoVale$Course", "offer", "(LEchoVale$Valley;III)V"⟩, 9)]
theorem lw_r1 : ∀ q ∈ lw_privs_1, lw_okq q := List.forall_mem_cons.mpr ⟨lw_p0, List.forall_mem_cons.mpr ⟨lw_p1, List.forall_mem_cons.mpr ⟨lw_p2, List.forall_mem_cons.mpr ⟨lw_p3, List.forall_mem_cons.mpr ⟨lw_p4, List.forall_mem_cons.mpr ⟨lw_p5, List.forall_mem_cons.mpr ⟨lw_p6, List.forall_mem_cons.mpr ⟨lw_p7, List.forall_mem_cons.mpr ⟨lw_p8, List.forall_mem_cons.mpr ⟨lw_p9, List.forall_mem_cons.mpr ⟨lw_p10, List.forall_mem_cons.mpr ⟨lw_p11, List.forall_mem_cons.mpr ⟨lw_p12, List.forall_mem_cons.mpr ⟨lw_p13, List.forall_mem_cons.mpr ⟨lw_p14, List.forall_mem_cons.mpr ⟨lw_p15, fun _ h => absurd h List.not_mem_nil⟩⟩⟩⟩⟩⟩⟩⟩⟩⟩⟩⟩⟩⟩⟩⟩
theorem lw_p16 : lw_okq (⟨"EchoVale$Course", "findSoonest", "(I)V"⟩, 9) := ⟨⟨by decide +kernel, by decide +kernel⟩, List.mem_of_getElem? (i := 324) (by decide +kernel), List.mem_of_getElem? (i := 801) (by decide +kernel), List.mem_of_getElem? (i := 802) (by decide +kernel)⟩
theorem lw_p17 : lw_okq (⟨"EchoVale$Course", "giveBack", "(LEchoVale$Valley;II)V"⟩, 9) := ⟨⟨by decide +kernel, by decide +kernel⟩, List.mem_of_getElem? (i := 324) (by decide +kernel), List.mem_of_getElem? (i := 818) (by decide +kernel), List.mem_of_getElem? (i := 819) (by decide +kernel)⟩
theorem lw_p18 : lw_okq (⟨"EchoVale$Course", "sound", "(LEchoVale$Valley;III)V"⟩, 9) := ⟨⟨by decide +kernel, by decide +kernel⟩, List.mem_of_getElem? (i := 324) (by decide +kernel), List.mem_of_getElem? (i := 827) (by decide +kernel), List.mem_of_getElem? (i := 828) (by decide +kernel)⟩
theorem lw_p19 : lw_okq (⟨"EchoVale$Course", "enterLog", "(IIII)V"⟩, 9) := ⟨⟨by decide +kernel, by decide +kernel⟩, List.mem_of_getElem? (i := 324) (by decide +kernel), List.mem_of_getElem? (i := 835) (by decide +kernel), List.mem_of_getElem? (i := 836) (by decide +kernel)⟩
theorem lw_p20 : lw_okq (⟨"EchoVale", "wealthByCamping", "(III)I"⟩, 17) := ⟨⟨by decide +kernel, by decide +kernel⟩, List.mem_of_getElem? (i := 27) (by decide +kernel), List.mem_of_getElem? (i := 858) (by decide +kernel), List.mem_of_getElem? (i := 859) (by decide +kernel)⟩
theorem lw_p21 : lw_okq (⟨"EchoVale", "areCamps", "(I)Z"⟩, 17) := ⟨⟨by decide +kernel, by decide +kernel⟩, List.mem_of_getElem? (i := 27) (by decide +kernel), List.mem_of_getElem? (i := 876) (by decide +kernel), List.mem_of_getElem? (i := 877) (by decide +kernel)⟩
theorem lw_p22 : lw_okq (⟨"EchoVale", "passByCamps", "(II)V"⟩, 17) := ⟨⟨by decide +kernel, by decide +kernel⟩, List.mem_of_getElem? (i := 27) (by decide +kernel), List.mem_of_getElem? (i := 884) (by decide +kernel), List.mem_of_getElem? (i := 885) (by decide +kernel)⟩
theorem lw_p23 : lw_okq (⟨"EchoVale", "keepOutcome", "(I)V"⟩, 17) := ⟨⟨by decide +kernel, by decide +kernel⟩, List.mem_of_getElem? (i := 27) (by decide +kernel), List.mem_of_getElem? (i := 893) (by decide +kernel), List.mem_of_getElem? (i := 894) (by decide +kernel)⟩
theorem lw_p24 : lw_okq (⟨"EchoVale", "isRest", "(I)Z"⟩, 17) := ⟨⟨by decide +kernel, by decide +kernel⟩, List.mem_of_getElem? (i := 27) (by decide +kernel), List.mem_of_getElem? (i := 897) (by decide +kernel), List.mem_of_getElem? (i := 898) (by decide +kernel)⟩
theorem lw_p25 : lw_okq (⟨"EchoVale", "passOneSaying", "(IIII)V"⟩, 17) := ⟨⟨by decide +kernel, by decide +kernel⟩, List.mem_of_getElem? (i := 27) (by decide +kernel), List.mem_of_getElem? (i := 905) (by decide +kernel), List.mem_of_getElem? (i := 906) (by decide +kernel)⟩
theorem lw_p26 : lw_okq (⟨"EchoVale$Pieces", "canBegin", "(LEchoVale$Valley;I)Z"⟩, 6) := ⟨⟨by decide +kernel, by decide +kernel⟩, List.mem_of_getElem? (i := 418) (by decide +kernel), List.mem_of_getElem? (i := 953) (by decide +kernel), List.mem_of_getElem? (i := 954) (by decide +kernel)⟩
theorem lw_p27 : lw_okq (⟨"EchoVale$Pieces", "isWay", "(LEchoVale$Valley;LEchoVale$Course;III)Z"⟩, 6) := ⟨⟨by decide +kernel, by decide +kernel⟩, List.mem_of_getElem? (i := 418) (by decide +kernel), List.mem_of_getElem? (i := 962) (by decide +kernel), List.mem_of_getElem? (i := 963) (by decide +kernel)⟩
theorem lw_p28 : lw_okq (⟨"EchoVale$Pieces", "isLogged", "(LEchoVale$Course;I)Z"⟩, 6) := ⟨⟨by decide +kernel, by decide +kernel⟩, List.mem_of_getElem? (i := 418) (by decide +kernel), List.mem_of_getElem? (i := 975) (by decide +kernel), List.mem_of_getElem? (i := 976) (by decide +kernel)⟩
theorem lw_p29 : lw_okq (⟨"EchoVale$Pieces", "addWay", "(I)V"⟩, 6) := ⟨⟨by decide +kernel, by decide +kernel⟩, List.mem_of_getElem? (i := 418) (by decide +kernel), List.mem_of_getElem? (i := 980) (by decide +kernel), List.mem_of_getElem? (i := 981) (by decide +kernel)⟩
theorem lw_p30 : lw_okq (⟨"EchoVale$ClaimsText", "readLine", "(LEchoVale$Valley;LEchoVale$Course;I)Z"⟩, 2) := ⟨⟨by decide +kernel, by decide +kernel⟩, List.mem_of_getElem? (i := 272) (by decide +kernel), List.mem_of_getElem? (i := 998) (by decide +kernel), List.mem_of_getElem? (i := 999) (by decide +kernel)⟩
theorem lw_p31 : lw_okq (⟨"EchoVale$Draws", "draw", "(I)I"⟩, 3) := ⟨⟨by decide +kernel, by decide +kernel⟩, List.mem_of_getElem? (i := 445) (by decide +kernel), List.mem_of_getElem? (i := 1020) (by decide +kernel), List.mem_of_getElem? (i := 1021) (by decide +kernel)⟩
def lw_privs_2 : List (MethodName × Nat) := [(⟨"EchoVale$Course", "findSoonest", "(I)V"⟩, 9), (⟨"EchoVale$Course", "giveBack", "(LEchoVale$Valley;II)V"⟩, 9), (⟨"EchoVale$Course", "sound", "(LEchoVale$Valley;III)V"⟩, 9), (⟨"EchoVale$Course", "enterLog", "(IIII)V"⟩, 9), (⟨"EchoVale", "wealthByCamping", "(III)I"⟩, 17), (⟨"EchoVale", "areCamps", "(I)Z"⟩, 17), (⟨"EchoVale", "passByCamps", "(II)V"⟩, 17), (⟨"EchoVale", "keepOutcome", "(I)V"⟩, 17), (⟨"EchoVale", "isRest", "(I)Z"⟩, 17), (⟨"EchoVale", "passOneSaying", "(IIII)V"⟩, 17), (⟨"EchoVale$Pieces", "canBegin", "(LEchoVale$Valley;I)Z"⟩, 6), (⟨"EchoVale$Pieces", "isWay", "(LEchoVale$Valley;LEchoVale$Course;III)Z"⟩, 6), (⟨"EchoVale$Pieces", "isLogged", "(LEchoVale$Course;I)Z"⟩, 6), (⟨"EchoVale$Pieces", "addWay", "(I)V"⟩, 6), (⟨"EchoVale$ClaimsText", "readLine", "(LEchoVale$Valley;LEchoVale$Course;I)Z"⟩, 2), (⟨"EchoVale$Draws", "draw", "(I)I"⟩, 3)]
theorem lw_r2 : ∀ q ∈ lw_privs_2, lw_okq q := List.forall_mem_cons.mpr ⟨lw_p16, List.forall_mem_cons.mpr ⟨lw_p17, List.forall_mem_cons.mpr ⟨lw_p18, List.forall_mem_cons.mpr ⟨lw_p19, List.forall_mem_cons.mpr ⟨lw_p20, List.forall_mem_cons.mpr ⟨lw_p21, List.forall_mem_cons.mpr ⟨lw_p22, List.forall_mem_cons.mpr ⟨lw_p23, List.forall_mem_cons.mpr ⟨lw_p24, List.forall_mem_cons.mpr ⟨lw_p25, List.forall_mem_cons.mpr ⟨lw_p26, List.forall_mem_cons.mpr ⟨lw_p27, List.forall_mem_cons.mpr ⟨lw_p28, List.forall_mem_cons.mpr ⟨lw_p29, List.forall_mem_cons.mpr ⟨lw_p30, List.forall_mem_cons.mpr ⟨lw_p31, fun _ h => absurd h List.not_mem_nil⟩⟩⟩⟩⟩⟩⟩⟩⟩⟩⟩⟩⟩⟩⟩⟩
theorem lw_p32 : lw_okq (⟨"EchoVale$Draws", "speak", "(LEchoVale$Valley;LEchoVale$Course;)V"⟩, 3) := ⟨⟨by decide +kernel, by decide +kernel⟩, List.mem_of_getElem? (i := 445) (by decide +kernel), List.mem_of_getElem? (i := 1026) (by decide +kernel), List.mem_of_getElem? (i := 1027) (by decide +kernel)⟩
theorem lw_p33 : lw_okq (⟨"EchoVale", "putName", "(J)V"⟩, 17) := ⟨⟨by decide +kernel, by decide +kernel⟩, List.mem_of_getElem? (i := 27) (by decide +kernel), List.mem_of_getElem? (i := 1057) (by decide +kernel), List.mem_of_getElem? (i := 1058) (by decide +kernel)⟩
theorem lw_p34 : lw_okq (⟨"EchoVale", "put", "(I)V"⟩, 17) := ⟨⟨by decide +kernel, by decide +kernel⟩, List.mem_of_getElem? (i := 27) (by decide +kernel), List.mem_of_getElem? (i := 1061) (by decide +kernel), List.mem_of_getElem? (i := 1062) (by decide +kernel)⟩
theorem lw_p35 : lw_okq (⟨"EchoVale", "putNumber", "(I)V"⟩, 17) := ⟨⟨by decide +kernel, by decide +kernel⟩, List.mem_of_getElem? (i := 27) (by decide +kernel), List.mem_of_getElem? (i := 1065) (by decide +kernel), List.mem_of_getElem? (i := 1066) (by decide +kernel)⟩
theorem lw_p36 : lw_okq (⟨"EchoVale$SentenceText", "readCondition", "(LEchoVale$Valley;I)Z"⟩, 2) := ⟨⟨by decide +kernel, by decide +kernel⟩, List.mem_of_getElem? (i := 308) (by decide +kernel), List.mem_of_getElem? (i := 1083) (by decide +kernel), List.mem_of_getElem? (i := 1084) (by decide +kernel)⟩
theorem lw_p37 : lw_okq (⟨"EchoVale$SentenceText", "readJoined", "(LEchoVale$Valley;I)Z"⟩, 2) := ⟨⟨by decide +kernel, by decide +kernel⟩, List.mem_of_getElem? (i := 308) (by decide +kernel), List.mem_of_getElem? (i := 1087) (by decide +kernel), List.mem_of_getElem? (i := 1088) (by decide +kernel)⟩
theorem lw_p38 : lw_okq (⟨"EchoVale$SentenceText", "readOne", "(LEchoVale$Valley;I)Z"⟩, 2) := ⟨⟨by decide +kernel, by decide +kernel⟩, List.mem_of_getElem? (i := 308) (by decide +kernel), List.mem_of_getElem? (i := 1091) (by decide +kernel), List.mem_of_getElem? (i := 1092) (by decide +kernel)⟩
theorem lw_p39 : lw_okq (⟨"EchoVale$SentenceText", "readPlain", "(LEchoVale$Valley;)Z"⟩, 2) := ⟨⟨by decide +kernel, by decide +kernel⟩, List.mem_of_getElem? (i := 308) (by decide +kernel), List.mem_of_getElem? (i := 1107) (by decide +kernel), List.mem_of_getElem? (i := 1108) (by decide +kernel)⟩
theorem lw_p40 : lw_okq (⟨"EchoVale$Sentence", "isSo", "(LEchoVale$Course;II)Z"⟩, 4) := ⟨⟨by decide +kernel, by decide +kernel⟩, List.mem_of_getElem? (i := 286) (by decide +kernel), List.mem_of_getElem? (i := 1126) (by decide +kernel), List.mem_of_getElem? (i := 1127) (by decide +kernel)⟩
theorem lw_p41 : lw_okq (⟨"java/lang/Throwable", "fillInStackTrace", "(I)Ljava/lang/Throwable;"⟩, 6) := ⟨⟨by decide +kernel, by decide +kernel⟩, List.mem_of_getElem? (i := 1194) (by decide +kernel), List.mem_of_getElem? (i := 1192) (by decide +kernel), List.mem_of_getElem? (i := 1193) (by decide +kernel)⟩
theorem lw_p42 : lw_okq (⟨"EchoValeModel", "come", "(I)V"⟩, 50) := ⟨⟨by decide +kernel, by decide +kernel⟩, List.mem_of_getElem? (i := 1247) (by decide +kernel), List.mem_of_getElem? (i := 1412) (by decide +kernel), List.mem_of_getElem? (i := 1413) (by decide +kernel)⟩
theorem lw_p43 : lw_okq (⟨"EchoValeModel", "begin", "(I)V"⟩, 50) := ⟨⟨by decide +kernel, by decide +kernel⟩, List.mem_of_getElem? (i := 1247) (by decide +kernel), List.mem_of_getElem? (i := 1424) (by decide +kernel), List.mem_of_getElem? (i := 1425) (by decide +kernel)⟩
theorem lw_p44 : lw_okq (⟨"EchoValeModel", "take", "()I"⟩, 50) := ⟨⟨by decide +kernel, by decide +kernel⟩, List.mem_of_getElem? (i := 1247) (by decide +kernel), List.mem_of_getElem? (i := 1428) (by decide +kernel), List.mem_of_getElem? (i := 1429) (by decide +kernel)⟩
theorem lw_p45 : lw_okq (⟨"EchoValeModel", "go", "()V"⟩, 50) := ⟨⟨by decide +kernel, by decide +kernel⟩, List.mem_of_getElem? (i := 1247) (by decide +kernel), List.mem_of_getElem? (i := 1432) (by decide +kernel), List.mem_of_getElem? (i := 1433) (by decide +kernel)⟩
theorem lw_p46 : lw_okq (⟨"EchoValeModel", "tapeAt", "(I)I"⟩, 50) := ⟨⟨by decide +kernel, by decide +kernel⟩, List.mem_of_getElem? (i := 1247) (by decide +kernel), List.mem_of_getElem? (i := 1442) (by decide +kernel), List.mem_of_getElem? (i := 1443) (by decide +kernel)⟩
theorem lw_p47 : lw_okq (⟨"EchoValeModel", "readLine", "()Z"⟩, 50) := ⟨⟨by decide +kernel, by decide +kernel⟩, List.mem_of_getElem? (i := 1247) (by decide +kernel), List.mem_of_getElem? (i := 1448) (by decide +kernel), List.mem_of_getElem? (i := 1449) (by decide +kernel)⟩
def lw_privs_3 : List (MethodName × Nat) := [(⟨"EchoVale$Draws", "speak", "(LEchoVale$Valley;LEchoVale$Course;)V"⟩, 3), (⟨"EchoVale", "putName", "(J)V"⟩, 17), (⟨"EchoVale", "put", "(I)V"⟩, 17), (⟨"EchoVale", "putNumber", "(I)V"⟩, 17), (⟨"EchoVale$SentenceText", "readCondition", "(LEchoVale$Valley;I)Z"⟩, 2), (⟨"EchoVale$SentenceText", "readJoined", "(LEchoVale$Valley;I)Z"⟩, 2), (⟨"EchoVale$SentenceText", "readOne", "(LEchoVale$Valley;I)Z"⟩, 2), (⟨"EchoVale$SentenceText", "readPlain", "(LEchoVale$Valley;)Z"⟩, 2), (⟨"EchoVale$Sentence", "isSo", "(LEchoVale$Course;II)Z"⟩, 4), (⟨"java/lang/Throwable", "fillInStackTrace", "(I)Ljava/lang/Throwable;"⟩, 6), (⟨"EchoValeModel", "come", "(I)V"⟩, 50), (⟨"EchoValeModel", "begin", "(I)V"⟩, 50), (⟨"EchoValeModel", "take", "()I"⟩, 50), (⟨"EchoValeModel", "go", "()V"⟩, 50), (⟨"EchoValeModel", "tapeAt", "(I)I"⟩, 50), (⟨"EchoValeModel", "readLine", "()Z"⟩, 50)]
theorem lw_r3 : ∀ q ∈ lw_privs_3, lw_okq q := List.forall_mem_cons.mpr ⟨lw_p32, List.forall_mem_cons.mpr ⟨lw_p33, List.forall_mem_cons.mpr ⟨lw_p34, List.forall_mem_cons.mpr ⟨lw_p35, List.forall_mem_cons.mpr ⟨lw_p36, List.forall_mem_cons.mpr ⟨lw_p37, List.forall_mem_cons.mpr ⟨lw_p38, List.forall_mem_cons.mpr ⟨lw_p39, List.forall_mem_cons.mpr ⟨lw_p40, List.forall_mem_cons.mpr ⟨lw_p41, List.forall_mem_cons.mpr ⟨lw_p42, List.forall_mem_cons.mpr ⟨lw_p43, List.forall_mem_cons.mpr ⟨lw_p44, List.forall_mem_cons.mpr ⟨lw_p45, List.forall_mem_cons.mpr ⟨lw_p46, List.forall_mem_cons.mpr ⟨lw_p47, fun _ h => absurd h List.not_mem_nil⟩⟩⟩⟩⟩⟩⟩⟩⟩⟩⟩⟩⟩⟩⟩⟩
theorem lw_p48 : lw_okq (⟨"EchoValeModel", "isWord", "(I)Z"⟩, 50) := ⟨⟨by decide +kernel, by decide +kernel⟩, List.mem_of_getElem? (i := 1247) (by decide +kernel), List.mem_of_getElem? (i := 1452) (by decide +kernel), List.mem_of_getElem? (i := 1453) (by decide +kernel)⟩
theorem lw_p49 : lw_okq (⟨"EchoValeModel", "readLand", "()Z"⟩, 50) := ⟨⟨by decide +kernel, by decide +kernel⟩, List.mem_of_getElem? (i := 1247) (by decide +kernel), List.mem_of_getElem? (i := 1462) (by decide +kernel), List.mem_of_getElem? (i := 1463) (by decide +kernel)⟩
theorem lw_p50 : lw_okq (⟨"EchoValeModel", "bad", "(I)Z"⟩, 50) := ⟨⟨by decide +kernel, by decide +kernel⟩, List.mem_of_getElem? (i := 1247) (by decide +kernel), List.mem_of_getElem? (i := 1466) (by decide +kernel), List.mem_of_getElem? (i := 1467) (by decide +kernel)⟩
theorem lw_p51 : lw_okq (⟨"EchoValeModel", "readNumber", "(II)Z"⟩, 50) := ⟨⟨by decide +kernel, by decide +kernel⟩, List.mem_of_getElem? (i := 1247) (by decide +kernel), List.mem_of_getElem? (i := 1470) (by decide +kernel), List.mem_of_getElem? (i := 1471) (by decide +kernel)⟩
theorem lw_p52 : lw_okq (⟨"EchoValeModel", "isNumber", "(II)Z"⟩, 50) := ⟨⟨by decide +kernel, by decide +kernel⟩, List.mem_of_getElem? (i := 1247) (by decide +kernel), List.mem_of_getElem? (i := 1474) (by decide +kernel), List.mem_of_getElem? (i := 1475) (by decide +kernel)⟩
theorem lw_p53 : lw_okq (⟨"EchoValeModel", "readCliff", "()Z"⟩, 50) := ⟨⟨by decide +kernel, by decide +kernel⟩, List.mem_of_getElem? (i := 1247) (by decide +kernel), List.mem_of_getElem? (i := 1481) (by decide +kernel), List.mem_of_getElem? (i := 1482) (by decide +kernel)⟩
theorem lw_p54 : lw_okq (⟨"EchoValeModel", "readNew", "(I)Z"⟩, 50) := ⟨⟨by decide +kernel, by decide +kernel⟩, List.mem_of_getElem? (i := 1247) (by decide +kernel), List.mem_of_getElem? (i := 1485) (by decide +kernel), List.mem_of_getElem? (i := 1486) (by decide +kernel)⟩
theorem lw_p55 : lw_okq (⟨"EchoValeModel", "isName", "()Z"⟩, 50) := ⟨⟨by decide +kernel, by decide +kernel⟩, List.mem_of_getElem? (i := 1247) (by decide +kernel), List.mem_of_getElem? (i := 1489) (by decide +kernel), List.mem_of_getElem? (i := 1490) (by decide +kernel)⟩
theorem lw_p56 : lw_okq (⟨"EchoValeModel", "holdCell", "()Z"⟩, 50) := ⟨⟨by decide +kernel, by decide +kernel⟩, List.mem_of_getElem? (i := 1247) (by decide +kernel), List.mem_of_getElem? (i := 1496) (by decide +kernel), List.mem_of_getElem? (i := 1497) (by decide +kernel)⟩
theorem lw_p57 : lw_okq (⟨"EchoValeModel", "readPerson", "()Z"⟩, 50) := ⟨⟨by decide +kernel, by decide +kernel⟩, List.mem_of_getElem? (i := 1247) (by decide +kernel), List.mem_of_getElem? (i := 1500) (by decide +kernel), List.mem_of_getElem? (i := 1501) (by decide +kernel)⟩
theorem lw_p58 : lw_okq (⟨"EchoValeModel", "readCell", "()Z"⟩, 50) := ⟨⟨by decide +kernel, by decide +kernel⟩, List.mem_of_getElem? (i := 1247) (by decide +kernel), List.mem_of_getElem? (i := 1504) (by decide +kernel), List.mem_of_getElem? (i := 1505) (by decide +kernel)⟩
theorem lw_p59 : lw_okq (⟨"EchoValeModel", "readMove", "()Z"⟩, 50) := ⟨⟨by decide +kernel, by decide +kernel⟩, List.mem_of_getElem? (i := 1247) (by decide +kernel), List.mem_of_getElem? (i := 1508) (by decide +kernel), List.mem_of_getElem? (i := 1509) (by decide +kernel)⟩
theorem lw_p60 : lw_okq (⟨"EchoValeModel", "isOne", "()Z"⟩, 50) := ⟨⟨by decide +kernel, by decide +kernel⟩, List.mem_of_getElem? (i := 1247) (by decide +kernel), List.mem_of_getElem? (i := 1512) (by decide +kernel), List.mem_of_getElem? (i := 1513) (by decide +kernel)⟩
theorem lw_p61 : lw_okq (⟨"EchoValeModel", "readCamp", "()Z"⟩, 50) := ⟨⟨by decide +kernel, by decide +kernel⟩, List.mem_of_getElem? (i := 1247) (by decide +kernel), List.mem_of_getElem? (i := 1516) (by decide +kernel), List.mem_of_getElem? (i := 1517) (by decide +kernel)⟩
theorem lw_p62 : lw_okq (⟨"EchoValeModel", "readFelt", "()Z"⟩, 50) := ⟨⟨by decide +kernel, by decide +kernel⟩, List.mem_of_getElem? (i := 1247) (by decide +kernel), List.mem_of_getElem? (i := 1520) (by decide +kernel), List.mem_of_getElem? (i := 1521) (by decide +kernel)⟩
theorem lw_p63 : lw_okq (⟨"EchoValeModel", "readSnow", "()Z"⟩, 50) := ⟨⟨by decide +kernel, by decide +kernel⟩, List.mem_of_getElem? (i := 1247) (by decide +kernel), List.mem_of_getElem? (i := 1524) (by decide +kernel), List.mem_of_getElem? (i := 1525) (by decide +kernel)⟩
def lw_privs_4 : List (MethodName × Nat) := [(⟨"EchoValeModel", "isWord", "(I)Z"⟩, 50), (⟨"EchoValeModel", "readLand", "()Z"⟩, 50), (⟨"EchoValeModel", "bad", "(I)Z"⟩, 50), (⟨"EchoValeModel", "readNumber", "(II)Z"⟩, 50), (⟨"EchoValeModel", "isNumber", "(II)Z"⟩, 50), (⟨"EchoValeModel", "readCliff", "()Z"⟩, 50), (⟨"EchoValeModel", "readNew", "(I)Z"⟩, 50), (⟨"EchoValeModel", "isName", "()Z"⟩, 50), (⟨"EchoValeModel", "holdCell", "()Z"⟩, 50), (⟨"EchoValeModel", "readPerson", "()Z"⟩, 50), (⟨"EchoValeModel", "readCell", "()Z"⟩, 50), (⟨"EchoValeModel", "readMove", "()Z"⟩, 50), (⟨"EchoValeModel", "isOne", "()Z"⟩, 50), (⟨"EchoValeModel", "readCamp", "()Z"⟩, 50), (⟨"EchoValeModel", "readFelt", "()Z"⟩, 50), (⟨"EchoValeModel", "readSnow", "()Z"⟩, 50)]
theorem lw_r4 : ∀ q ∈ lw_privs_4, lw_okq q := List.forall_mem_cons.mpr ⟨lw_p48, List.forall_mem_cons.mpr ⟨lw_p49, List.forall_mem_cons.mpr ⟨lw_p50, List.forall_mem_cons.mpr ⟨lw_p51, List.forall_mem_cons.mpr ⟨lw_p52, List.forall_mem_cons.mpr ⟨lw_p53, List.forall_mem_cons.mpr ⟨lw_p54, List.forall_mem_cons.mpr ⟨lw_p55, List.forall_mem_cons.mpr ⟨lw_p56, List.forall_mem_cons.mpr ⟨lw_p57, List.forall_mem_cons.mpr ⟨lw_p58, List.forall_mem_cons.mpr ⟨lw_p59, List.forall_mem_cons.mpr ⟨lw_p60, List.forall_mem_cons.mpr ⟨lw_p61, List.forall_mem_cons.mpr ⟨lw_p62, List.forall_mem_cons.mpr ⟨lw_p63, fun _ h => absurd h List.not_mem_nil⟩⟩⟩⟩⟩⟩⟩⟩⟩⟩⟩⟩⟩⟩⟩⟩
theorem lw_p64 : lw_okq (⟨"EchoValeModel", "readEnd", "()Z"⟩, 50) := ⟨⟨by decide +kernel, by decide +kernel⟩, List.mem_of_getElem? (i := 1247) (by decide +kernel), List.mem_of_getElem? (i := 1528) (by decide +kernel), List.mem_of_getElem? (i := 1529) (by decide +kernel)⟩
theorem lw_p65 : lw_okq (⟨"EchoValeModel", "isSign", "(I)Z"⟩, 50) := ⟨⟨by decide +kernel, by decide +kernel⟩, List.mem_of_getElem? (i := 1247) (by decide +kernel), List.mem_of_getElem? (i := 1532) (by decide +kernel), List.mem_of_getElem? (i := 1533) (by decide +kernel)⟩
theorem lw_p66 : lw_okq (⟨"EchoValeModel", "isCliff", "(I)Z"⟩, 50) := ⟨⟨by decide +kernel, by decide +kernel⟩, List.mem_of_getElem? (i := 1247) (by decide +kernel), List.mem_of_getElem? (i := 1544) (by decide +kernel), List.mem_of_getElem? (i := 1545) (by decide +kernel)⟩
theorem lw_p67 : lw_okq (⟨"EchoValeModel", "refuse", "()I"⟩, 50) := ⟨⟨by decide +kernel, by decide +kernel⟩, List.mem_of_getElem? (i := 1247) (by decide +kernel), List.mem_of_getElem? (i := 1548) (by decide +kernel), List.mem_of_getElem? (i := 1549) (by decide +kernel)⟩
theorem lw_p68 : lw_okq (⟨"EchoValeModel", "strength", "(I)I"⟩, 50) := ⟨⟨by decide +kernel, by decide +kernel⟩, List.mem_of_getElem? (i := 1247) (by decide +kernel), List.mem_of_getElem? (i := 1552) (by decide +kernel), List.mem_of_getElem? (i := 1553) (by decide +kernel)⟩
theorem lw_p69 : lw_okq (⟨"EchoValeModel", "snowAt", "(I)I"⟩, 50) := ⟨⟨by decide +kernel, by decide +kernel⟩, List.mem_of_getElem? (i := 1247) (by decide +kernel), List.mem_of_getElem? (i := 1556) (by decide +kernel), List.mem_of_getElem? (i := 1557) (by decide +kernel)⟩
theorem lw_p70 : lw_okq (⟨"EchoValeModel", "isPerson", "(I)Z"⟩, 50) := ⟨⟨by decide +kernel, by decide +kernel⟩, List.mem_of_getElem? (i := 1247) (by decide +kernel), List.mem_of_getElem? (i := 1564) (by decide +kernel), List.mem_of_getElem? (i := 1565) (by decide +kernel)⟩
theorem lw_p71 : lw_okq (⟨"EchoValeModel", "hasAll", "(I)I"⟩, 50) := ⟨⟨by decide +kernel, by decide +kernel⟩, List.mem_of_getElem? (i := 1247) (by decide +kernel), List.mem_of_getElem? (i := 1568) (by decide +kernel), List.mem_of_getElem? (i := 1569) (by decide +kernel)⟩
theorem lw_p72 : lw_okq (⟨"EchoValeModel", "shareOf", "(II)I"⟩, 50) := ⟨⟨by decide +kernel, by decide +kernel⟩, List.mem_of_getElem? (i := 1247) (by decide +kernel), List.mem_of_getElem? (i := 1572) (by decide +kernel), List.mem_of_getElem? (i := 1573) (by decide +kernel)⟩
theorem lw_p73 : lw_okq (⟨"EchoValeModel", "of", "(II)I"⟩, 50) := ⟨⟨by decide +kernel, by decide +kernel⟩, List.mem_of_getElem? (i := 1247) (by decide +kernel), List.mem_of_getElem? (i := 1576) (by decide +kernel), List.mem_of_getElem? (i := 1577) (by decide +kernel)⟩
theorem lw_p74 : lw_okq (⟨"EchoValeModel", "isSaying", "(I)Z"⟩, 50) := ⟨⟨by decide +kernel, by decide +kernel⟩, List.mem_of_getElem? (i := 1247) (by decide +kernel), List.mem_of_getElem? (i := 1590) (by decide +kernel), List.mem_of_getElem? (i := 1591) (by decide +kernel)⟩
theorem lw_p75 : lw_okq (⟨"EchoValeModel", "comesAt", "(III)I"⟩, 50) := ⟨⟨by decide +kernel, by decide +kernel⟩, List.mem_of_getElem? (i := 1247) (by decide +kernel), List.mem_of_getElem? (i := 1598) (by decide +kernel), List.mem_of_getElem? (i := 1599) (by decide +kernel)⟩
theorem lw_p76 : lw_okq (⟨"EchoValeModel", "isAt", "(I)Z"⟩, 50) := ⟨⟨by decide +kernel, by decide +kernel⟩, List.mem_of_getElem? (i := 1247) (by decide +kernel), List.mem_of_getElem? (i := 1618) (by decide +kernel), List.mem_of_getElem? (i := 1619) (by decide +kernel)⟩
theorem lw_p77 : lw_okq (⟨"EchoValeModel", "snap", "()V"⟩, 50) := ⟨⟨by decide +kernel, by decide +kernel⟩, List.mem_of_getElem? (i := 1247) (by decide +kernel), List.mem_of_getElem? (i := 1622) (by decide +kernel), List.mem_of_getElem? (i := 1623) (by decide +kernel)⟩
theorem lw_p78 : lw_okq (⟨"EchoValeModel", "sayIt", "(III)I"⟩, 50) := ⟨⟨by decide +kernel, by decide +kernel⟩, List.mem_of_getElem? (i := 1247) (by decide +kernel), List.mem_of_getElem? (i := 1630) (by decide +kernel), List.mem_of_getElem? (i := 1631) (by decide +kernel)⟩
theorem lw_p79 : lw_okq (⟨"EchoValeModel", "loudAt", "(II)I"⟩, 50) := ⟨⟨by decide +kernel, by decide +kernel⟩, List.mem_of_getElem? (i := 1247) (by decide +kernel), List.mem_of_getElem? (i := 1634) (by decide +kernel), List.mem_of_getElem? (i := 1635) (by decide +kernel)⟩
def lw_privs_5 : List (MethodName × Nat) := [(⟨"EchoValeModel", "readEnd", "()Z"⟩, 50), (⟨"EchoValeModel", "isSign", "(I)Z"⟩, 50), (⟨"EchoValeModel", "isCliff", "(I)Z"⟩, 50), (⟨"EchoValeModel", "refuse", "()I"⟩, 50), (⟨"EchoValeModel", "strength", "(I)I"⟩, 50), (⟨"EchoValeModel", "snowAt", "(I)I"⟩, 50), (⟨"EchoValeModel", "isPerson", "(I)Z"⟩, 50), (⟨"EchoValeModel", "hasAll", "(I)I"⟩, 50), (⟨"EchoValeModel", "shareOf", "(II)I"⟩, 50), (⟨"EchoValeModel", "of", "(II)I"⟩, 50), (⟨"EchoValeModel", "isSaying", "(I)Z"⟩, 50), (⟨"EchoValeModel", "comesAt", "(III)I"⟩, 50), (⟨"EchoValeModel", "isAt", "(I)Z"⟩, 50), (⟨"EchoValeModel", "snap", "()V"⟩, 50), (⟨"EchoValeModel", "sayIt", "(III)I"⟩, 50), (⟨"EchoValeModel", "loudAt", "(II)I"⟩, 50)]
theorem lw_r5 : ∀ q ∈ lw_privs_5, lw_okq q := List.forall_mem_cons.mpr ⟨lw_p64, List.forall_mem_cons.mpr ⟨lw_p65, List.forall_mem_cons.mpr ⟨lw_p66, List.forall_mem_cons.mpr ⟨lw_p67, List.forall_mem_cons.mpr ⟨lw_p68, List.forall_mem_cons.mpr ⟨lw_p69, List.forall_mem_cons.mpr ⟨lw_p70, List.forall_mem_cons.mpr ⟨lw_p71, List.forall_mem_cons.mpr ⟨lw_p72, List.forall_mem_cons.mpr ⟨lw_p73, List.forall_mem_cons.mpr ⟨lw_p74, List.forall_mem_cons.mpr ⟨lw_p75, List.forall_mem_cons.mpr ⟨lw_p76, List.forall_mem_cons.mpr ⟨lw_p77, List.forall_mem_cons.mpr ⟨lw_p78, List.forall_mem_cons.mpr ⟨lw_p79, fun _ h => absurd h List.not_mem_nil⟩⟩⟩⟩⟩⟩⟩⟩⟩⟩⟩⟩⟩⟩⟩⟩
theorem lw_p80 : lw_okq (⟨"EchoValeModel", "cliffAt", "(I)I"⟩, 50) := ⟨⟨by decide +kernel, by decide +kernel⟩, List.mem_of_getElem? (i := 1247) (by decide +kernel), List.mem_of_getElem? (i := 1638) (by decide +kernel), List.mem_of_getElem? (i := 1639) (by decide +kernel)⟩
theorem lw_p81 : lw_okq (⟨"EchoValeModel", "delay", "(I)I"⟩, 50) := ⟨⟨by decide +kernel, by decide +kernel⟩, List.mem_of_getElem? (i := 1247) (by decide +kernel), List.mem_of_getElem? (i := 1648) (by decide +kernel), List.mem_of_getElem? (i := 1649) (by decide +kernel)⟩
theorem lw_p82 : lw_okq (⟨"EchoValeModel", "comeTo", "(IIII)V"⟩, 50) := ⟨⟨by decide +kernel, by decide +kernel⟩, List.mem_of_getElem? (i := 1247) (by decide +kernel), List.mem_of_getElem? (i := 1652) (by decide +kernel), List.mem_of_getElem? (i := 1653) (by decide +kernel)⟩
theorem lw_p83 : lw_okq (⟨"EchoValeModel", "passHours", "(I)I"⟩, 50) := ⟨⟨by decide +kernel, by decide +kernel⟩, List.mem_of_getElem? (i := 1247) (by decide +kernel), List.mem_of_getElem? (i := 1660) (by decide +kernel), List.mem_of_getElem? (i := 1661) (by decide +kernel)⟩
theorem lw_p84 : lw_okq (⟨"EchoValeModel", "pass", "(I)V"⟩, 50) := ⟨⟨by decide +kernel, by decide +kernel⟩, List.mem_of_getElem? (i := 1247) (by decide +kernel), List.mem_of_getElem? (i := 1664) (by decide +kernel), List.mem_of_getElem? (i := 1665) (by decide +kernel)⟩
theorem lw_p85 : lw_okq (⟨"EchoValeModel", "moveAll", "(I)V"⟩, 50) := ⟨⟨by decide +kernel, by decide +kernel⟩, List.mem_of_getElem? (i := 1247) (by decide +kernel), List.mem_of_getElem? (i := 1668) (by decide +kernel), List.mem_of_getElem? (i := 1669) (by decide +kernel)⟩
theorem lw_p86 : lw_okq (⟨"EchoValeModel", "sound", "(III)V"⟩, 50) := ⟨⟨by decide +kernel, by decide +kernel⟩, List.mem_of_getElem? (i := 1247) (by decide +kernel), List.mem_of_getElem? (i := 1675) (by decide +kernel), List.mem_of_getElem? (i := 1676) (by decide +kernel)⟩
theorem lw_p87 : lw_okq (⟨"EchoValeModel", "hearersOf", "(II)I"⟩, 50) := ⟨⟨by decide +kernel, by decide +kernel⟩, List.mem_of_getElem? (i := 1247) (by decide +kernel), List.mem_of_getElem? (i := 1679) (by decide +kernel), List.mem_of_getElem? (i := 1680) (by decide +kernel)⟩
theorem lw_p88 : lw_okq (⟨"EchoValeModel", "campingBy", "(III)I"⟩, 50) := ⟨⟨by decide +kernel, by decide +kernel⟩, List.mem_of_getElem? (i := 1247) (by decide +kernel), List.mem_of_getElem? (i := 1690) (by decide +kernel), List.mem_of_getElem? (i := 1691) (by decide +kernel)⟩
theorem lw_p89 : lw_okq (⟨"EchoValeModel", "layAside", "()V"⟩, 50) := ⟨⟨by decide +kernel, by decide +kernel⟩, List.mem_of_getElem? (i := 1247) (by decide +kernel), List.mem_of_getElem? (i := 1694) (by decide +kernel), List.mem_of_getElem? (i := 1695) (by decide +kernel)⟩
theorem lw_p90 : lw_okq (⟨"EchoValeModel", "layBack", "()V"⟩, 50) := ⟨⟨by decide +kernel, by decide +kernel⟩, List.mem_of_getElem? (i := 1247) (by decide +kernel), List.mem_of_getElem? (i := 1698) (by decide +kernel), List.mem_of_getElem? (i := 1699) (by decide +kernel)⟩
theorem lw_p91 : lw_okq (⟨"EchoValeModel", "campers", "()I"⟩, 50) := ⟨⟨by decide +kernel, by decide +kernel⟩, List.mem_of_getElem? (i := 1247) (by decide +kernel), List.mem_of_getElem? (i := 1710) (by decide +kernel), List.mem_of_getElem? (i := 1711) (by decide +kernel)⟩
theorem lw_p92 : lw_okq (⟨"EchoValeModel", "layHas", "(II)V"⟩, 50) := ⟨⟨by decide +kernel, by decide +kernel⟩, List.mem_of_getElem? (i := 1247) (by decide +kernel), List.mem_of_getElem? (i := 1714) (by decide +kernel), List.mem_of_getElem? (i := 1715) (by decide +kernel)⟩
theorem lw_p93 : lw_okq (⟨"EchoValeModel", "isRest", "(II)Z"⟩, 50) := ⟨⟨by decide +kernel, by decide +kernel⟩, List.mem_of_getElem? (i := 1247) (by decide +kernel), List.mem_of_getElem? (i := 1722) (by decide +kernel), List.mem_of_getElem? (i := 1723) (by decide +kernel)⟩
theorem lw_p94 : lw_okq (⟨"EchoValeModel", "wouldCome", "(III)I"⟩, 50) := ⟨⟨by decide +kernel, by decide +kernel⟩, List.mem_of_getElem? (i := 1247) (by decide +kernel), List.mem_of_getElem? (i := 1754) (by decide +kernel), List.mem_of_getElem? (i := 1755) (by decide +kernel)⟩
theorem lw_p95 : lw_okq (⟨"EchoValeModel", "takePieces", "()Z"⟩, 50) := ⟨⟨by decide +kernel, by decide +kernel⟩, List.mem_of_getElem? (i := 1247) (by decide +kernel), List.mem_of_getElem? (i := 1770) (by decide +kernel), List.mem_of_getElem? (i := 1771) (by decide +kernel)⟩
def lw_privs_6 : List (MethodName × Nat) := [(⟨"EchoValeModel", "cliffAt", "(I)I"⟩, 50), (⟨"EchoValeModel", "delay", "(I)I"⟩, 50), (⟨"EchoValeModel", "comeTo", "(IIII)V"⟩, 50), (⟨"EchoValeModel", "passHours", "(I)I"⟩, 50), (⟨"EchoValeModel", "pass", "(I)V"⟩, 50), (⟨"EchoValeModel", "moveAll", "(I)V"⟩, 50), (⟨"EchoValeModel", "sound", "(III)V"⟩, 50), (⟨"EchoValeModel", "hearersOf", "(II)I"⟩, 50), (⟨"EchoValeModel", "campingBy", "(III)I"⟩, 50), (⟨"EchoValeModel", "layAside", "()V"⟩, 50), (⟨"EchoValeModel", "layBack", "()V"⟩, 50), (⟨"EchoValeModel", "campers", "()I"⟩, 50), (⟨"EchoValeModel", "layHas", "(II)V"⟩, 50), (⟨"EchoValeModel", "isRest", "(II)Z"⟩, 50), (⟨"EchoValeModel", "wouldCome", "(III)I"⟩, 50), (⟨"EchoValeModel", "takePieces", "()Z"⟩, 50)]
theorem lw_r6 : ∀ q ∈ lw_privs_6, lw_okq q := List.forall_mem_cons.mpr ⟨lw_p80, List.forall_mem_cons.mpr ⟨lw_p81, List.forall_mem_cons.mpr ⟨lw_p82, List.forall_mem_cons.mpr ⟨lw_p83, List.forall_mem_cons.mpr ⟨lw_p84, List.forall_mem_cons.mpr ⟨lw_p85, List.forall_mem_cons.mpr ⟨lw_p86, List.forall_mem_cons.mpr ⟨lw_p87, List.forall_mem_cons.mpr ⟨lw_p88, List.forall_mem_cons.mpr ⟨lw_p89, List.forall_mem_cons.mpr ⟨lw_p90, List.forall_mem_cons.mpr ⟨lw_p91, List.forall_mem_cons.mpr ⟨lw_p92, List.forall_mem_cons.mpr ⟨lw_p93, List.forall_mem_cons.mpr ⟨lw_p94, List.forall_mem_cons.mpr ⟨lw_p95, fun _ h => absurd h List.not_mem_nil⟩⟩⟩⟩⟩⟩⟩⟩⟩⟩⟩⟩⟩⟩⟩⟩
theorem lw_p96 : lw_okq (⟨"EchoValeModel", "soundAll", "(III)V"⟩, 50) := ⟨⟨by decide +kernel, by decide +kernel⟩, List.mem_of_getElem? (i := 1247) (by decide +kernel), List.mem_of_getElem? (i := 1774) (by decide +kernel), List.mem_of_getElem? (i := 1775) (by decide +kernel)⟩
theorem lw_p97 : lw_okq (⟨"EchoValeModel", "cometh", "(III)V"⟩, 50) := ⟨⟨by decide +kernel, by decide +kernel⟩, List.mem_of_getElem? (i := 1247) (by decide +kernel), List.mem_of_getElem? (i := 1778) (by decide +kernel), List.mem_of_getElem? (i := 1779) (by decide +kernel)⟩
theorem lw_p98 : lw_okq (⟨"EchoValeModel", "allSound", "()Z"⟩, 50) := ⟨⟨by decide +kernel, by decide +kernel⟩, List.mem_of_getElem? (i := 1247) (by decide +kernel), List.mem_of_getElem? (i := 1782) (by decide +kernel), List.mem_of_getElem? (i := 1783) (by decide +kernel)⟩
theorem lw_p99 : lw_okq (⟨"EchoValeModel", "readClaim", "()Z"⟩, 50) := ⟨⟨by decide +kernel, by decide +kernel⟩, List.mem_of_getElem? (i := 1247) (by decide +kernel), List.mem_of_getElem? (i := 1794) (by decide +kernel), List.mem_of_getElem? (i := 1795) (by decide +kernel)⟩
theorem lw_p100 : lw_okq (⟨"EchoValeModel", "drawnBy", "(II)I"⟩, 50) := ⟨⟨by decide +kernel, by decide +kernel⟩, List.mem_of_getElem? (i := 1247) (by decide +kernel), List.mem_of_getElem? (i := 1802) (by decide +kernel), List.mem_of_getElem? (i := 1803) (by decide +kernel)⟩
theorem lw_p101 : lw_okq (⟨"EchoValeModel", "draw", "(I)I"⟩, 50) := ⟨⟨by decide +kernel, by decide +kernel⟩, List.mem_of_getElem? (i := 1247) (by decide +kernel), List.mem_of_getElem? (i := 1806) (by decide +kernel), List.mem_of_getElem? (i := 1807) (by decide +kernel)⟩
theorem lw_p102 : lw_okq (⟨"EchoValeModel", "put", "(I)V"⟩, 50) := ⟨⟨by decide +kernel, by decide +kernel⟩, List.mem_of_getElem? (i := 1247) (by decide +kernel), List.mem_of_getElem? (i := 1827) (by decide +kernel), List.mem_of_getElem? (i := 1828) (by decide +kernel)⟩
theorem lw_p103 : lw_okq (⟨"EchoValeModel", "putNumber", "(I)V"⟩, 50) := ⟨⟨by decide +kernel, by decide +kernel⟩, List.mem_of_getElem? (i := 1247) (by decide +kernel), List.mem_of_getElem? (i := 1831) (by decide +kernel), List.mem_of_getElem? (i := 1832) (by decide +kernel)⟩
theorem lw_p104 : lw_okq (⟨"EchoValeModel", "readOr", "()Z"⟩, 50) := ⟨⟨by decide +kernel, by decide +kernel⟩, List.mem_of_getElem? (i := 1247) (by decide +kernel), List.mem_of_getElem? (i := 1843) (by decide +kernel), List.mem_of_getElem? (i := 1844) (by decide +kernel)⟩
theorem lw_p105 : lw_okq (⟨"EchoValeModel", "readAnd", "()Z"⟩, 50) := ⟨⟨by decide +kernel, by decide +kernel⟩, List.mem_of_getElem? (i := 1247) (by decide +kernel), List.mem_of_getElem? (i := 1847) (by decide +kernel), List.mem_of_getElem? (i := 1848) (by decide +kernel)⟩
theorem lw_p106 : lw_okq (⟨"EchoValeModel", "readOne", "()Z"⟩, 50) := ⟨⟨by decide +kernel, by decide +kernel⟩, List.mem_of_getElem? (i := 1247) (by decide +kernel), List.mem_of_getElem? (i := 1851) (by decide +kernel), List.mem_of_getElem? (i := 1852) (by decide +kernel)⟩
theorem lw_p107 : lw_okq (⟨"EchoValeModel", "readBracket", "()Z"⟩, 50) := ⟨⟨by decide +kernel, by decide +kernel⟩, List.mem_of_getElem? (i := 1247) (by decide +kernel), List.mem_of_getElem? (i := 1855) (by decide +kernel), List.mem_of_getElem? (i := 1856) (by decide +kernel)⟩
theorem lw_p108 : lw_okq (⟨"EchoValeModel", "readNot", "()Z"⟩, 50) := ⟨⟨by decide +kernel, by decide +kernel⟩, List.mem_of_getElem? (i := 1247) (by decide +kernel), List.mem_of_getElem? (i := 1859) (by decide +kernel), List.mem_of_getElem? (i := 1860) (by decide +kernel)⟩
theorem lw_p109 : lw_okq (⟨"EchoValeModel", "saysOne", "(IIII)I"⟩, 50) := ⟨⟨by decide +kernel, by decide +kernel⟩, List.mem_of_getElem? (i := 1247) (by decide +kernel), List.mem_of_getElem? (i := 1863) (by decide +kernel), List.mem_of_getElem? (i := 1864) (by decide +kernel)⟩
theorem lw_p110 : lw_okq (⟨"EchoValeModel", "readOf", "(I)Z"⟩, 50) := ⟨⟨by decide +kernel, by decide +kernel⟩, List.mem_of_getElem? (i := 1247) (by decide +kernel), List.mem_of_getElem? (i := 1867) (by decide +kernel), List.mem_of_getElem? (i := 1868) (by decide +kernel)⟩
theorem lw_p111 : lw_okq (⟨"EchoValeModel", "readCompare", "(I)Z"⟩, 50) := ⟨⟨by decide +kernel, by decide +kernel⟩, List.mem_of_getElem? (i := 1247) (by decide +kernel), List.mem_of_getElem? (i := 1871) (by decide +kernel), List.mem_of_getElem? (i := 1872) (by decide +kernel)⟩
def lw_privs_7 : List (MethodName × Nat) := [(⟨"EchoValeModel", "soundAll", "(III)V"⟩, 50), (⟨"EchoValeModel", "cometh", "(III)V"⟩, 50), (⟨"EchoValeModel", "allSound", "()Z"⟩, 50), (⟨"EchoValeModel", "readClaim", "()Z"⟩, 50), (⟨"EchoValeModel", "drawnBy", "(II)I"⟩, 50), (⟨"EchoValeModel", "draw", "(I)I"⟩, 50), (⟨"EchoValeModel", "put", "(I)V"⟩, 50), (⟨"EchoValeModel", "putNumber", "(I)V"⟩, 50), (⟨"EchoValeModel", "readOr", "()Z"⟩, 50), (⟨"EchoValeModel", "readAnd", "()Z"⟩, 50), (⟨"EchoValeModel", "readOne", "()Z"⟩, 50), (⟨"EchoValeModel", "readBracket", "()Z"⟩, 50), (⟨"EchoValeModel", "readNot", "()Z"⟩, 50), (⟨"EchoValeModel", "saysOne", "(IIII)I"⟩, 50), (⟨"EchoValeModel", "readOf", "(I)Z"⟩, 50), (⟨"EchoValeModel", "readCompare", "(I)Z"⟩, 50)]
theorem lw_r7 : ∀ q ∈ lw_privs_7, lw_okq q := List.forall_mem_cons.mpr ⟨lw_p96, List.forall_mem_cons.mpr ⟨lw_p97, List.forall_mem_cons.mpr ⟨lw_p98, List.forall_mem_cons.mpr ⟨lw_p99, List.forall_mem_cons.mpr ⟨lw_p100, List.forall_mem_cons.mpr ⟨lw_p101, List.forall_mem_cons.mpr ⟨lw_p102, List.forall_mem_cons.mpr ⟨lw_p103, List.forall_mem_cons.mpr ⟨lw_p104, List.forall_mem_cons.mpr ⟨lw_p105, List.forall_mem_cons.mpr ⟨lw_p106, List.forall_mem_cons.mpr ⟨lw_p107, List.forall_mem_cons.mpr ⟨lw_p108, List.forall_mem_cons.mpr ⟨lw_p109, List.forall_mem_cons.mpr ⟨lw_p110, List.forall_mem_cons.mpr ⟨lw_p111, fun _ h => absurd h List.not_mem_nil⟩⟩⟩⟩⟩⟩⟩⟩⟩⟩⟩⟩⟩⟩⟩⟩
theorem lw_p112 : lw_okq (⟨"EchoValeModel", "holds", "(II)Z"⟩, 50) := ⟨⟨by decide +kernel, by decide +kernel⟩, List.mem_of_getElem? (i := 1247) (by decide +kernel), List.mem_of_getElem? (i := 1879) (by decide +kernel), List.mem_of_getElem? (i := 1880) (by decide +kernel)⟩
theorem lw_p113 : lw_okq (⟨"EchoValeModel", "isLost", "(I)Z"⟩, 50) := ⟨⟨by decide +kernel, by decide +kernel⟩, List.mem_of_getElem? (i := 1247) (by decide +kernel), List.mem_of_getElem? (i := 1883) (by decide +kernel), List.mem_of_getElem? (i := 1884) (by decide +kernel)⟩
def lw_privs_8 : List (MethodName × Nat) := [(⟨"EchoValeModel", "holds", "(II)Z"⟩, 50), (⟨"EchoValeModel", "isLost", "(I)Z"⟩, 50)]
theorem lw_r8 : ∀ q ∈ lw_privs_8, lw_okq q := List.forall_mem_cons.mpr ⟨lw_p112, List.forall_mem_cons.mpr ⟨lw_p113, fun _ h => absurd h List.not_mem_nil⟩⟩
def lw_privs : List (MethodName × Nat) := lw_privs_1 ++ (lw_privs_2 ++ (lw_privs_3 ++ (lw_privs_4 ++ (lw_privs_5 ++ (lw_privs_6 ++ (lw_privs_7 ++ (lw_privs_8)))))))
def lw_tbl : List Cond := k2_sels lw_privs ++ tables_1
theorem lw_privs_ok : ∀ q ∈ lw_privs, lw_okq q := by
  show ∀ q ∈ lw_privs_1 ++ (lw_privs_2 ++ (lw_privs_3 ++ (lw_privs_4 ++ (lw_privs_5 ++ (lw_privs_6 ++ (lw_privs_7 ++ (lw_privs_8))))))), lw_okq q
  exact List.forall_mem_append.mpr ⟨lw_r1, List.forall_mem_append.mpr ⟨lw_r2, List.forall_mem_append.mpr ⟨lw_r3, List.forall_mem_append.mpr ⟨lw_r4, List.forall_mem_append.mpr ⟨lw_r5, List.forall_mem_append.mpr ⟨lw_r6, List.forall_mem_append.mpr ⟨lw_r7, lw_r8⟩⟩⟩⟩⟩⟩⟩
def RX0 : String := "EchoVale$ClaimsText"
def TX0 : u_T := fun k => match k with
  | 0 => ("EchoVale$ClaimsText", "wrongLine", "I", false)
  | _ => ("EchoVale$ClaimsText", "reader", "LEchoVale$Reader;", true)
def tyX0 : Nat → FieldType := fun k => match k with
  | 0 => .int
  | _ => .object "EchoVale$Reader"
theorem nmX0 : ∀ a, a < 2 → ∀ b, b < 2 → a ≠ b → (TX0 a).2.1 ≠ (TX0 b).2.1 := by decide +kernel
theorem tyX0_ok : ∀ k, k < 2 → parseFieldDescriptor (TX0 k).2.2.1 = some (tyX0 k) := by decide +kernel
def RX1 : String := "EchoVale$Course"
def TX1 : u_T := fun k => match k with
  | 0 => ("EchoVale$Course", "hour", "I", false)
  | 1 => ("EchoVale$Course", "sayings", "I", false)
  | 2 => ("EchoVale$Course", "echoes", "I", false)
  | 3 => ("EchoVale$Course", "place", "[I", true)
  | 4 => ("EchoVale$Course", "due", "[I", true)
  | 5 => ("EchoVale$Course", "force", "[I", true)
  | 6 => ("EchoVale$Course", "facts", "[I", true)
  | 7 => ("EchoVale$Course", "log", "[I", true)
  | _ => ("EchoVale$Course", "soonest", "[I", true)
def tyX1 : Nat → FieldType := fun k => match k with
  | 0 => .int
  | 1 => .int
  | 2 => .int
  | 3 => .array .int
  | 4 => .array .int
  | 5 => .array .int
  | 6 => .array .int
  | 7 => .array .int
  | _ => .array .int
theorem nmX1 : ∀ a, a < 9 → ∀ b, b < 9 → a ≠ b → (TX1 a).2.1 ≠ (TX1 b).2.1 := by decide +kernel
theorem tyX1_ok : ∀ k, k < 9 → parseFieldDescriptor (TX1 k).2.2.1 = some (tyX1 k) := by decide +kernel
def RX2 : String := "EchoVale$Draws"
def TX2 : u_T := fun k => match k with
  | 0 => ("EchoVale$Draws", "storms", "I", false)
  | 1 => ("EchoVale$Draws", "sayings", "I", false)
  | _ => ("EchoVale$Draws", "seed", "I", false)
def tyX2 : Nat → FieldType := fun k => match k with
  | 0 => .int
  | 1 => .int
  | _ => .int
theorem nmX2 : ∀ a, a < 3 → ∀ b, b < 3 → a ≠ b → (TX2 a).2.1 ≠ (TX2 b).2.1 := by decide +kernel
theorem tyX2_ok : ∀ k, k < 3 → parseFieldDescriptor (TX2 k).2.2.1 = some (tyX2 k) := by decide +kernel
def RX3 : String := "EchoVale$Image"
def TX3 : u_T := fun k => match k with
  | 0 => ("EchoVale$Image", "kept", "Z", false)
  | 1 => ("EchoVale$Image", "valley", "LEchoVale$Valley;", true)
  | 2 => ("EchoVale$Image", "course", "LEchoVale$Course;", true)
  | _ => ("EchoVale$Image", "sentence", "LEchoVale$Sentence;", true)
def tyX3 : Nat → FieldType := fun k => match k with
  | 0 => .boolean
  | 1 => .object "EchoVale$Valley"
  | 2 => .object "EchoVale$Course"
  | _ => .object "EchoVale$Sentence"
theorem nmX3 : ∀ a, a < 4 → ∀ b, b < 4 → a ≠ b → (TX3 a).2.1 ≠ (TX3 b).2.1 := by decide +kernel
theorem tyX3_ok : ∀ k, k < 4 → parseFieldDescriptor (TX3 k).2.2.1 = some (tyX3 k) := by decide +kernel
def RX4 : String := "EchoVale$Pieces"
def TX4 : u_T := fun k => match k with
  | 0 => ("EchoVale$Pieces", "found", "I", false)
  | 1 => ("EchoVale$Pieces", "ways", "[I", true)
  | 2 => ("EchoVale$Pieces", "heard", "I", false)
  | 3 => ("EchoVale$Pieces", "cliff", "[I", true)
  | 4 => ("EchoVale$Pieces", "hour", "[I", true)
  | _ => ("EchoVale$Pieces", "force", "[I", true)
def tyX4 : Nat → FieldType := fun k => match k with
  | 0 => .int
  | 1 => .array .int
  | 2 => .int
  | 3 => .array .int
  | 4 => .array .int
  | _ => .array .int
theorem nmX4 : ∀ a, a < 6 → ∀ b, b < 6 → a ≠ b → (TX4 a).2.1 ≠ (TX4 b).2.1 := by decide +kernel
theorem tyX4_ok : ∀ k, k < 6 → parseFieldDescriptor (TX4 k).2.2.1 = some (tyX4 k) := by decide +kernel
def RX5 : String := "EchoVale$Reader"
def TX5 : u_T := fun k => match k with
  | 0 => ("EchoVale$Reader", "bytes", "[I", true)
  | 1 => ("EchoVale$Reader", "length", "I", false)
  | 2 => ("EchoVale$Reader", "fault", "I", false)
  | 3 => ("EchoVale$Reader", "place", "I", false)
  | 4 => ("EchoVale$Reader", "kind", "I", false)
  | 5 => ("EchoVale$Reader", "start", "I", false)
  | 6 => ("EchoVale$Reader", "value", "I", false)
  | 7 => ("EchoVale$Reader", "word", "J", false)
  | 8 => ("EchoVale$Reader", "at", "I", false)
  | 9 => ("EchoVale$Reader", "most", "I", false)
  | _ => ("EchoVale$Reader", "keywords", "[J", true)
def tyX5 : Nat → FieldType := fun k => match k with
  | 0 => .array .int
  | 1 => .int
  | 2 => .int
  | 3 => .int
  | 4 => .int
  | 5 => .int
  | 6 => .int
  | 7 => .long
  | 8 => .int
  | 9 => .int
  | _ => .array .long
theorem nmX5 : ∀ a, a < 11 → ∀ b, b < 11 → a ≠ b → (TX5 a).2.1 ≠ (TX5 b).2.1 := by decide +kernel
theorem tyX5_ok : ∀ k, k < 11 → parseFieldDescriptor (TX5 k).2.2.1 = some (tyX5 k) := by decide +kernel
def RX6 : String := "EchoVale$Sentence"
def TX6 : u_T := fun k => match k with
  | 0 => ("EchoVale$Sentence", "ones", "I", false)
  | 1 => ("EchoVale$Sentence", "steps", "I", false)
  | 2 => ("EchoVale$Sentence", "code", "[I", true)
  | _ => ("EchoVale$Sentence", "answers", "[Z", true)
def tyX6 : Nat → FieldType := fun k => match k with
  | 0 => .int
  | 1 => .int
  | 2 => .array .int
  | _ => .array .boolean
theorem nmX6 : ∀ a, a < 4 → ∀ b, b < 4 → a ≠ b → (TX6 a).2.1 ≠ (TX6 b).2.1 := by decide +kernel
theorem tyX6_ok : ∀ k, k < 4 → parseFieldDescriptor (TX6 k).2.2.1 = some (tyX6 k) := by decide +kernel
def RX7 : String := "EchoVale$SentenceText"
def TX7 : u_T := fun k => match k with
  | 0 => ("EchoVale$SentenceText", "sentence", "LEchoVale$Sentence;", true)
  | _ => ("EchoVale$SentenceText", "reader", "LEchoVale$Reader;", true)
def tyX7 : Nat → FieldType := fun k => match k with
  | 0 => .object "EchoVale$Sentence"
  | _ => .object "EchoVale$Reader"
theorem nmX7 : ∀ a, a < 2 → ∀ b, b < 2 → a ≠ b → (TX7 a).2.1 ≠ (TX7 b).2.1 := by decide +kernel
theorem tyX7_ok : ∀ k, k < 2 → parseFieldDescriptor (TX7 k).2.2.1 = some (tyX7 k) := by decide +kernel
def RX8 : String := "EchoVale$Undo"
def TX8 : u_T := fun k => match k with
  | 0 => ("EchoVale$Undo", "kept", "I", false)
  | 1 => ("EchoVale$Undo", "oldest", "I", false)
  | _ => ("EchoVale$Undo", "rows", "[LEchoVale$Course;", true)
def tyX8 : Nat → FieldType := fun k => match k with
  | 0 => .int
  | 1 => .int
  | _ => .array (.object "EchoVale$Course")
theorem nmX8 : ∀ a, a < 3 → ∀ b, b < 3 → a ≠ b → (TX8 a).2.1 ≠ (TX8 b).2.1 := by decide +kernel
theorem tyX8_ok : ∀ k, k < 3 → parseFieldDescriptor (TX8 k).2.2.1 = some (tyX8 k) := by decide +kernel
def RX9 : String := "EchoVale$Valley"
def TX9 : u_T := fun k => match k with
  | 0 => ("EchoVale$Valley", "width", "I", false)
  | 1 => ("EchoVale$Valley", "height", "I", false)
  | 2 => ("EchoVale$Valley", "cliffs", "I", false)
  | 3 => ("EchoVale$Valley", "persons", "I", false)
  | 4 => ("EchoVale$Valley", "moves", "I", false)
  | 5 => ("EchoVale$Valley", "felts", "I", false)
  | 6 => ("EchoVale$Valley", "snows", "I", false)
  | 7 => ("EchoVale$Valley", "cliffName", "[J", true)
  | 8 => ("EchoVale$Valley", "cliffCell", "[I", true)
  | 9 => ("EchoVale$Valley", "delay", "[I", true)
  | 10 => ("EchoVale$Valley", "strength", "[I", true)
  | 11 => ("EchoVale$Valley", "personName", "[J", true)
  | 12 => ("EchoVale$Valley", "home", "[I", true)
  | 13 => ("EchoVale$Valley", "campCell", "[I", true)
  | 14 => ("EchoVale$Valley", "moveHour", "[I", true)
  | 15 => ("EchoVale$Valley", "movePerson", "[I", true)
  | 16 => ("EchoVale$Valley", "moveCell", "[I", true)
  | 17 => ("EchoVale$Valley", "feltCell", "[I", true)
  | 18 => ("EchoVale$Valley", "snowHour", "[I", true)
  | _ => ("EchoVale$Valley", "snowDepth", "[I", true)
def tyX9 : Nat → FieldType := fun k => match k with
  | 0 => .int
  | 1 => .int
  | 2 => .int
  | 3 => .int
  | 4 => .int
  | 5 => .int
  | 6 => .int
  | 7 => .array .long
  | 8 => .array .int
  | 9 => .array .int
  | 10 => .array .int
  | 11 => .array .long
  | 12 => .array .int
  | 13 => .array .int
  | 14 => .array .int
  | 15 => .array .int
  | 16 => .array .int
  | 17 => .array .int
  | 18 => .array .int
  | _ => .array .int
theorem nmX9 : ∀ a, a < 20 → ∀ b, b < 20 → a ≠ b → (TX9 a).2.1 ≠ (TX9 b).2.1 := by decide +kernel
theorem tyX9_ok : ∀ k, k < 20 → parseFieldDescriptor (TX9 k).2.2.1 = some (tyX9 k) := by decide +kernel
def RX10 : String := "EchoVale$ValleyText"
def TX10 : u_T := fun k => match k with
  | 0 => ("EchoVale$ValleyText", "valley", "LEchoVale$Valley;", true)
  | 1 => ("EchoVale$ValleyText", "lines", "I", false)
  | _ => ("EchoVale$ValleyText", "reader", "LEchoVale$Reader;", true)
def tyX10 : Nat → FieldType := fun k => match k with
  | 0 => .object "EchoVale$Valley"
  | 1 => .int
  | _ => .object "EchoVale$Reader"
theorem nmX10 : ∀ a, a < 3 → ∀ b, b < 3 → a ≠ b → (TX10 a).2.1 ≠ (TX10 b).2.1 := by decide +kernel
theorem tyX10_ok : ∀ k, k < 3 → parseFieldDescriptor (TX10 k).2.2.1 = some (tyX10 k) := by decide +kernel
def RX11 : String := "EchoVale"
def TX11 : u_T := fun k => match k with
  | 0 => ("EchoVale", "reader", "LEchoVale$Reader;", true)
  | 1 => ("EchoVale", "valley", "LEchoVale$Valley;", true)
  | 2 => ("EchoVale", "valleyText", "LEchoVale$ValleyText;", true)
  | 3 => ("EchoVale", "claimsText", "LEchoVale$ClaimsText;", true)
  | 4 => ("EchoVale", "sentence", "LEchoVale$Sentence;", true)
  | 5 => ("EchoVale", "sentenceText", "LEchoVale$SentenceText;", true)
  | 6 => ("EchoVale", "course", "LEchoVale$Course;", true)
  | 7 => ("EchoVale", "ahead", "LEchoVale$Course;", true)
  | 8 => ("EchoVale", "undoRows", "LEchoVale$Undo;", true)
  | 9 => ("EchoVale", "images", "[LEchoVale$Image;", true)
  | 10 => ("EchoVale", "clues", "LEchoVale$Pieces;", true)
  | 11 => ("EchoVale", "draws", "LEchoVale$Draws;", true)
  | 12 => ("EchoVale", "outcome", "[I", true)
  | 13 => ("EchoVale", "written", "[I", true)
  | 14 => ("EchoVale", "writtenBytes", "I", false)
  | 15 => ("EchoVale", "toldStorms", "I", false)
  | _ => ("EchoVale", "toldSayings", "I", false)
def tyX11 : Nat → FieldType := fun k => match k with
  | 0 => .object "EchoVale$Reader"
  | 1 => .object "EchoVale$Valley"
  | 2 => .object "EchoVale$ValleyText"
  | 3 => .object "EchoVale$ClaimsText"
  | 4 => .object "EchoVale$Sentence"
  | 5 => .object "EchoVale$SentenceText"
  | 6 => .object "EchoVale$Course"
  | 7 => .object "EchoVale$Course"
  | 8 => .object "EchoVale$Undo"
  | 9 => .array (.object "EchoVale$Image")
  | 10 => .object "EchoVale$Pieces"
  | 11 => .object "EchoVale$Draws"
  | 12 => .array .int
  | 13 => .array .int
  | 14 => .int
  | 15 => .int
  | _ => .int
theorem nmX11 : ∀ a, a < 17 → ∀ b, b < 17 → a ≠ b → (TX11 a).2.1 ≠ (TX11 b).2.1 := by decide +kernel
theorem tyX11_ok : ∀ k, k < 17 → parseFieldDescriptor (TX11 k).2.2.1 = some (tyX11 k) := by decide +kernel
def RX12 : String := "EchoValeModel"
def TX12 : u_T := fun k => match k with
  | 0 => ("EchoValeModel", "thrown", "I", false)
  | 1 => ("EchoValeModel", "tape", "[I", true)
  | 2 => ("EchoValeModel", "taped", "I", false)
  | 3 => ("EchoValeModel", "size", "I", false)
  | 4 => ("EchoValeModel", "limit", "I", false)
  | 5 => ("EchoValeModel", "to", "I", false)
  | 6 => ("EchoValeModel", "from", "I", false)
  | 7 => ("EchoValeModel", "kind", "I", false)
  | 8 => ("EchoValeModel", "number", "I", false)
  | 9 => ("EchoValeModel", "sign", "I", false)
  | 10 => ("EchoValeModel", "fault", "I", false)
  | 11 => ("EchoValeModel", "place", "I", false)
  | 12 => ("EchoValeModel", "word", "J", false)
  | 13 => ("EchoValeModel", "told", "I", false)
  | 14 => ("EchoValeModel", "now", "[I", true)
  | 15 => ("EchoValeModel", "read", "[I", true)
  | 16 => ("EchoValeModel", "kept", "[I", true)
  | 17 => ("EchoValeModel", "snaps", "[I", true)
  | 18 => ("EchoValeModel", "aside", "[I", true)
  | 19 => ("EchoValeModel", "name", "[J", true)
  | 20 => ("EchoValeModel", "readName", "[J", true)
  | 21 => ("EchoValeModel", "keptName", "[J", true)
  | 22 => ("EchoValeModel", "isKept", "[Z", true)
  | 23 => ("EchoValeModel", "snapMany", "I", false)
  | 24 => ("EchoValeModel", "hasLand", "Z", false)
  | 25 => ("EchoValeModel", "hasBy", "[I", true)
  | 26 => ("EchoValeModel", "pieceCliff", "[I", true)
  | 27 => ("EchoValeModel", "pieceHour", "[I", true)
  | 28 => ("EchoValeModel", "pieceForce", "[I", true)
  | 29 => ("EchoValeModel", "ways", "[I", true)
  | 30 => ("EchoValeModel", "atHour", "[I", true)
  | 31 => ("EchoValeModel", "much", "[I", true)
  | 32 => ("EchoValeModel", "gone", "[I", true)
  | 33 => ("EchoValeModel", "forceAt", "[I", true)
  | 34 => ("EchoValeModel", "pieceMany", "I", false)
  | 35 => ("EchoValeModel", "wayMany", "I", false)
  | 36 => ("EchoValeModel", "claimMany", "I", false)
  | 37 => ("EchoValeModel", "wrongClaim", "I", false)
  | 38 => ("EchoValeModel", "seed", "I", false)
  | 39 => ("EchoValeModel", "stormMany", "I", false)
  | 40 => ("EchoValeModel", "saidMany", "I", false)
  | 41 => ("EchoValeModel", "storms", "[I", true)
  | 42 => ("EchoValeModel", "text", "[I", true)
  | 43 => ("EchoValeModel", "letters", "[I", true)
  | 44 => ("EchoValeModel", "texted", "I", false)
  | 45 => ("EchoValeModel", "node", "[I", true)
  | 46 => ("EchoValeModel", "nodes", "I", false)
  | 47 => ("EchoValeModel", "onesMany", "I", false)
  | 48 => ("EchoValeModel", "within", "I", false)
  | _ => ("EchoValeModel", "top", "I", false)
def tyX12 : Nat → FieldType := fun k => match k with
  | 0 => .int
  | 1 => .array .int
  | 2 => .int
  | 3 => .int
  | 4 => .int
  | 5 => .int
  | 6 => .int
  | 7 => .int
  | 8 => .int
  | 9 => .int
  | 10 => .int
  | 11 => .int
  | 12 => .long
  | 13 => .int
  | 14 => .array .int
  | 15 => .array .int
  | 16 => .array .int
  | 17 => .array .int
  | 18 => .array .int
  | 19 => .array .long
  | 20 => .array .long
  | 21 => .array .long
  | 22 => .array .boolean
  | 23 => .int
  | 24 => .boolean
  | 25 => .array .int
  | 26 => .array .int
  | 27 => .array .int
  | 28 => .array .int
  | 29 => .array .int
  | 30 => .array .int
  | 31 => .array .int
  | 32 => .array .int
  | 33 => .array .int
  | 34 => .int
  | 35 => .int
  | 36 => .int
  | 37 => .int
  | 38 => .int
  | 39 => .int
  | 40 => .int
  | 41 => .array .int
  | 42 => .array .int
  | 43 => .array .int
  | 44 => .int
  | 45 => .array .int
  | 46 => .int
  | 47 => .int
  | 48 => .int
  | _ => .int
theorem nmX12 : ∀ a, a < 50 → ∀ b, b < 50 → a ≠ b → (TX12 a).2.1 ≠ (TX12 b).2.1 := by decide +kernel
theorem tyX12_ok : ∀ k, k < 50 → parseFieldDescriptor (TX12 k).2.2.1 = some (tyX12 k) := by decide +kernel
abbrev vwCl : List vw_C := [(RX0, TX0, 2), (RX1, TX1, 9), (RX2, TX2, 3), (RX3, TX3, 4), (RX4, TX4, 6), (RX5, TX5, 11), (RX6, TX6, 4), (RX7, TX7, 2), (RX8, TX8, 3), (RX9, TX9, 20), (RX10, TX10, 3), (RX11, TX11, 17), (RX12, TX12, 50)]
def zOwn : List String := ["EchoVale$ClaimsText", "EchoVale$Course", "EchoVale$Draws", "EchoVale$Image", "EchoVale$Pieces", "EchoVale$Reader", "EchoVale$Sentence", "EchoVale$SentenceText", "EchoVale$Undo", "EchoVale$Valley", "EchoVale$ValleyText", "EchoVale", "EchoValeModel", "java/lang/Integer", "java/lang/Math", "java/util/Arrays", "EchoValeLaw"]
/-- the methods: name, code, locals, answer, class, parameters, place of its word -/
def zM0 : List (MethodName × ByteArray × Nat × Option FieldType × Nat × Nat × Nat × Nat) := [(⟨"EchoVale", "<init>", "()V"⟩, prog_1_method_1_code, 2, none, 11, 0, 1, 30),
  (⟨"EchoVale$Reader", "<init>", "()V"⟩, prog_7_method_1_code, 1, none, 5, 0, 1, 38),
  (⟨"EchoVale$Reader", "packKeywords", "()[J"⟩, prog_7_method_2_code, 5, (some (Jvm.ClassFile.FieldType.array Jvm.ClassFile.FieldType.long)), 5, 0, 1, 42),
  (⟨"EchoVale$Reader", "withLetter", "(JI)J"⟩, prog_7_method_3_code, 3, (some Jvm.ClassFile.FieldType.long), 5, 2, 1, 94),
  (⟨"EchoVale$Valley", "<init>", "()V"⟩, prog_11_method_1_code, 1, none, 9, 0, 1, 148),
  (⟨"EchoVale$ValleyText", "<init>", "(LEchoVale$Reader;)V"⟩, prog_12_method_1_code, 2, none, 10, 1, 2, 15),
  (⟨"EchoVale$ClaimsText", "<init>", "(LEchoVale$Reader;)V"⟩, prog_2_method_1_code, 2, none, 0, 1, 2, 35),
  (⟨"EchoVale$Sentence", "<init>", "()V"⟩, prog_8_method_1_code, 1, none, 6, 0, 2, 49),
  (⟨"EchoVale$SentenceText", "<init>", "(LEchoVale$Reader;)V"⟩, prog_9_method_1_code, 2, none, 7, 1, 2, 71),
  (⟨"EchoVale$Course", "<init>", "()V"⟩, prog_3_method_1_code, 1, none, 1, 0, 2, 87),
  (⟨"EchoVale$Undo", "<init>", "()V"⟩, prog_10_method_1_code, 2, none, 8, 0, 2, 132),
  (⟨"EchoVale$Image", "<init>", "()V"⟩, prog_5_method_1_code, 1, none, 3, 0, 2, 153),
  (⟨"EchoVale$Pieces", "<init>", "()V"⟩, prog_6_method_1_code, 1, none, 4, 0, 2, 181),
  (⟨"EchoVale$Draws", "<init>", "()V"⟩, prog_4_method_1_code, 1, none, 2, 0, 2, 208),
  (⟨"EchoVale", "feed", "(IIIII)I"⟩, prog_1_method_2_code, 6, (some Jvm.ClassFile.FieldType.int), 11, 5, 3, 37),
  (⟨"EchoVale$Reader", "addBytes", "(I)V"⟩, prog_7_method_4_code, 3, none, 5, 1, 3, 41),
  (⟨"EchoVale", "end", "(I)Z"⟩, prog_1_method_3_code, 2, (some Jvm.ClassFile.FieldType.boolean), 11, 1, 3, 45),
  (⟨"EchoVale", "valley", "()I"⟩, prog_1_method_4_code, 2, (some Jvm.ClassFile.FieldType.int), 11, 0, 3, 49),
  (⟨"EchoVale$ValleyText", "readText", "()Z"⟩, prog_12_method_2_code, 2, (some Jvm.ClassFile.FieldType.boolean), 10, 0, 3, 53),
  (⟨"EchoVale$Valley", "clear", "()V"⟩, prog_11_method_2_code, 1, none, 9, 0, 3, 57),
  (⟨"EchoVale$Reader", "open", "(I)V"⟩, prog_7_method_5_code, 2, none, 5, 1, 3, 61),
  (⟨"EchoVale$Reader", "step", "()V"⟩, prog_7_method_6_code, 2, none, 5, 0, 3, 65),
  (⟨"java/lang/Math", "min", "(II)I"⟩, prog_20_method_69_code, 2, (some Jvm.ClassFile.FieldType.int), 14, 2, 3, 68),
  (⟨"EchoVale$Reader", "isBlank", "(I)Z"⟩, prog_7_method_9_code, 1, (some Jvm.ClassFile.FieldType.boolean), 5, 1, 3, 71),
  (⟨"EchoVale$Reader", "isLetter", "(I)Z"⟩, prog_7_method_10_code, 1, (some Jvm.ClassFile.FieldType.boolean), 5, 1, 3, 74),
  (⟨"EchoVale$Reader", "isDigit", "(I)Z"⟩, prog_7_method_11_code, 1, (some Jvm.ClassFile.FieldType.boolean), 5, 1, 3, 77),
  (⟨"EchoVale$Reader", "readRun", "()V"⟩, prog_7_method_7_code, 3, none, 5, 0, 3, 81),
  (⟨"EchoVale$Reader", "keywordOf", "(J)I"⟩, prog_7_method_8_code, 4, (some Jvm.ClassFile.FieldType.int), 5, 1, 3, 85),
  (⟨"EchoVale$Reader", "isMark", "(I)Z"⟩, prog_7_method_12_code, 1, (some Jvm.ClassFile.FieldType.boolean), 5, 1, 3, 88),
  (⟨"EchoVale$Reader", "isAtEnd", "()Z"⟩, prog_7_method_14_code, 1, (some Jvm.ClassFile.FieldType.boolean), 5, 0, 3, 92),
  (⟨"EchoVale$ValleyText", "readLine", "()Z"⟩, prog_12_method_3_code, 1, (some Jvm.ClassFile.FieldType.boolean), 10, 0, 3, 96),
  (⟨"EchoVale$Reader", "refuse", "(I)Z"⟩, prog_7_method_13_code, 2, (some Jvm.ClassFile.FieldType.boolean), 5, 1, 3, 100),
  (⟨"EchoVale$ValleyText", "readLand", "()Z"⟩, prog_12_method_4_code, 2, (some Jvm.ClassFile.FieldType.boolean), 10, 0, 3, 104),
  (⟨"EchoVale$Reader", "isNumber", "(II)Z"⟩, prog_7_method_17_code, 3, (some Jvm.ClassFile.FieldType.boolean), 5, 2, 3, 109),
  (⟨"EchoVale$ValleyText", "readCliff", "()Z"⟩, prog_12_method_5_code, 6, (some Jvm.ClassFile.FieldType.boolean), 10, 0, 3, 114),
  (⟨"EchoVale$ValleyText", "isNewName", "()Z"⟩, prog_12_method_11_code, 1, (some Jvm.ClassFile.FieldType.boolean), 10, 0, 3, 118),
  (⟨"EchoVale$Valley", "isTaken", "(J)Z"⟩, prog_11_method_8_code, 3, (some Jvm.ClassFile.FieldType.boolean), 9, 1, 3, 122),
  (⟨"EchoVale$Valley", "cliffNamed", "(J)I"⟩, prog_11_method_6_code, 4, (some Jvm.ClassFile.FieldType.int), 9, 1, 3, 126),
  (⟨"EchoVale$Valley", "personNamed", "(J)I"⟩, prog_11_method_7_code, 4, (some Jvm.ClassFile.FieldType.int), 9, 1, 3, 130),
  (⟨"EchoVale$ValleyText", "cellHere", "()I"⟩, prog_12_method_12_code, 2, (some Jvm.ClassFile.FieldType.int), 10, 0, 3, 134)]
def zM1 : List (MethodName × ByteArray × Nat × Option FieldType × Nat × Nat × Nat × Nat) := [(⟨"EchoVale$Valley", "hasCliff", "(I)Z"⟩, prog_11_method_9_code, 3, (some Jvm.ClassFile.FieldType.boolean), 9, 1, 3, 138),
  (⟨"EchoVale$ValleyText", "readPerson", "()Z"⟩, prog_12_method_6_code, 5, (some Jvm.ClassFile.FieldType.boolean), 10, 0, 3, 142),
  (⟨"EchoVale$ValleyText", "readMove", "()Z"⟩, prog_12_method_7_code, 5, (some Jvm.ClassFile.FieldType.boolean), 10, 0, 3, 146),
  (⟨"EchoVale$Reader", "personHere", "(LEchoVale$Valley;)I"⟩, prog_7_method_19_code, 3, (some Jvm.ClassFile.FieldType.int), 5, 1, 3, 150),
  (⟨"EchoVale$Valley", "hasMove", "(II)Z"⟩, prog_11_method_11_code, 4, (some Jvm.ClassFile.FieldType.boolean), 9, 2, 3, 155),
  (⟨"EchoVale$ValleyText", "readCamp", "()Z"⟩, prog_12_method_8_code, 3, (some Jvm.ClassFile.FieldType.boolean), 10, 0, 3, 159),
  (⟨"EchoVale$ValleyText", "readFelt", "()Z"⟩, prog_12_method_9_code, 3, (some Jvm.ClassFile.FieldType.boolean), 10, 0, 3, 163),
  (⟨"EchoVale$Valley", "hasFelt", "(I)Z"⟩, prog_11_method_10_code, 3, (some Jvm.ClassFile.FieldType.boolean), 9, 1, 3, 167),
  (⟨"EchoVale$ValleyText", "readSnow", "()Z"⟩, prog_12_method_10_code, 3, (some Jvm.ClassFile.FieldType.boolean), 10, 0, 3, 171),
  (⟨"EchoVale$Valley", "hasSnow", "(I)Z"⟩, prog_11_method_12_code, 3, (some Jvm.ClassFile.FieldType.boolean), 9, 1, 3, 175),
  (⟨"EchoVale$Reader", "passSign", "(I)Z"⟩, prog_7_method_18_code, 2, (some Jvm.ClassFile.FieldType.boolean), 5, 1, 3, 179),
  (⟨"EchoVale$Reader", "isSign", "(I)Z"⟩, prog_7_method_16_code, 2, (some Jvm.ClassFile.FieldType.boolean), 5, 1, 3, 183),
  (⟨"EchoVale$Valley", "copyFrom", "(LEchoVale$Valley;)V"⟩, prog_11_method_3_code, 2, none, 9, 1, 3, 187),
  (⟨"EchoVale$Course", "begin", "(LEchoVale$Valley;)V"⟩, prog_3_method_2_code, 2, none, 1, 1, 3, 194),
  (⟨"EchoVale$Sentence", "clear", "()V"⟩, prog_8_method_2_code, 1, none, 6, 0, 3, 199),
  (⟨"EchoVale$Undo", "forget", "()V"⟩, prog_10_method_2_code, 1, none, 8, 0, 3, 203),
  (⟨"EchoVale", "fault", "()I"⟩, prog_1_method_5_code, 1, (some Jvm.ClassFile.FieldType.int), 11, 0, 3, 207),
  (⟨"EchoVale", "comes", "(III)I"⟩, prog_1_method_9_code, 4, (some Jvm.ClassFile.FieldType.int), 11, 3, 3, 211),
  (⟨"EchoVale", "isSaying", "(I)Z"⟩, prog_1_method_45_code, 2, (some Jvm.ClassFile.FieldType.boolean), 11, 1, 3, 215),
  (⟨"EchoVale", "isCliff", "(I)Z"⟩, prog_1_method_43_code, 2, (some Jvm.ClassFile.FieldType.boolean), 11, 1, 3, 219),
  (⟨"EchoVale", "share", "(II)I"⟩, prog_1_method_10_code, 3, (some Jvm.ClassFile.FieldType.int), 11, 2, 3, 223),
  (⟨"EchoVale", "isPerson", "(I)Z"⟩, prog_1_method_44_code, 2, (some Jvm.ClassFile.FieldType.boolean), 11, 1, 3, 227),
  (⟨"EchoVale$Course", "shareOf", "(II)I"⟩, prog_3_method_19_code, 7, (some Jvm.ClassFile.FieldType.int), 1, 2, 3, 231),
  (⟨"EchoVale$Course", "fact", "(II)I"⟩, prog_3_method_6_code, 3, (some Jvm.ClassFile.FieldType.int), 1, 2, 3, 235),
  (⟨"java/lang/Integer", "bitCount", "(I)I"⟩, prog_19_method_49_code, 1, (some Jvm.ClassFile.FieldType.int), 13, 1, 3, 238),
  (⟨"EchoVale", "hasBit", "(II)Z"⟩, prog_1_method_48_code, 2, (some Jvm.ClassFile.FieldType.boolean), 11, 2, 4, 4),
  (⟨"EchoVale", "sounded", "(II)I"⟩, prog_1_method_11_code, 3, (some Jvm.ClassFile.FieldType.int), 11, 2, 4, 8),
  (⟨"EchoVale$Course", "logged", "(II)I"⟩, prog_3_method_7_code, 3, (some Jvm.ClassFile.FieldType.int), 1, 2, 4, 12),
  (⟨"EchoVale", "goes", "(II)Z"⟩, prog_1_method_12_code, 3, (some Jvm.ClassFile.FieldType.boolean), 11, 2, 4, 16),
  (⟨"EchoVale$Valley", "isCell", "(I)Z"⟩, prog_11_method_4_code, 2, (some Jvm.ClassFile.FieldType.boolean), 9, 1, 4, 20),
  (⟨"EchoVale$Undo", "keep", "(LEchoVale$Course;)V"⟩, prog_10_method_3_code, 2, none, 8, 1, 4, 24),
  (⟨"EchoVale$Course", "copyFrom", "(LEchoVale$Course;)V"⟩, prog_3_method_3_code, 2, none, 1, 1, 4, 28),
  (⟨"EchoVale$Course", "copyPlaces", "(LEchoVale$Course;)V"⟩, prog_3_method_4_code, 2, none, 1, 1, 4, 32),
  (⟨"EchoVale", "says", "(III)I"⟩, prog_1_method_13_code, 4, (some Jvm.ClassFile.FieldType.int), 11, 3, 4, 36),
  (⟨"EchoVale", "isLoud", "(I)Z"⟩, prog_1_method_46_code, 1, (some Jvm.ClassFile.FieldType.boolean), 11, 1, 4, 39),
  (⟨"EchoVale$Course", "isFull", "()Z"⟩, prog_3_method_5_code, 1, (some Jvm.ClassFile.FieldType.boolean), 1, 0, 4, 43),
  (⟨"EchoVale$Course", "speak", "(LEchoVale$Valley;III)I"⟩, prog_3_method_8_code, 6, (some Jvm.ClassFile.FieldType.int), 1, 4, 4, 47),
  (⟨"EchoVale$Valley", "lessFelt", "(II)I"⟩, prog_11_method_14_code, 3, (some Jvm.ClassFile.FieldType.int), 9, 2, 4, 51),
  (⟨"java/lang/Math", "max", "(II)I"⟩, prog_20_method_65_code, 2, (some Jvm.ClassFile.FieldType.int), 14, 2, 4, 55),
  (⟨"EchoVale$Course", "utter", "(LEchoVale$Valley;IIII)I"⟩, prog_3_method_9_code, 9, (some Jvm.ClassFile.FieldType.int), 1, 5, 4, 59)]
def zM2 : List (MethodName × ByteArray × Nat × Option FieldType × Nat × Nat × Nat × Nat) := [(⟨"java/util/Arrays", "fill", "([IIII)V"⟩, prog_29_method_104_code, 5, none, 15, 4, 4, 62),
  (⟨"java/util/Arrays", "rangeCheck", "(III)V"⟩, prog_29_method_30_code, 3, none, 15, 3, 4, 65),
  (⟨"EchoVale$Valley", "directly", "(III)I"⟩, prog_11_method_15_code, 5, (some Jvm.ClassFile.FieldType.int), 9, 3, 4, 69),
  (⟨"EchoVale$Valley", "distance", "(II)I"⟩, prog_11_method_5_code, 2, (some Jvm.ClassFile.FieldType.int), 9, 2, 4, 72),
  (⟨"java/lang/Math", "abs", "(I)I"⟩, prog_20_method_59_code, 1, (some Jvm.ClassFile.FieldType.int), 14, 1, 4, 75),
  (⟨"EchoVale$Course", "offer", "(LEchoVale$Valley;III)V"⟩, prog_3_method_10_code, 8, none, 1, 4, 4, 79),
  (⟨"EchoVale$Course", "findSoonest", "(I)V"⟩, prog_3_method_11_code, 4, none, 1, 1, 4, 83),
  (⟨"EchoVale", "on", "(I)I"⟩, prog_1_method_14_code, 2, (some Jvm.ClassFile.FieldType.int), 11, 1, 4, 88),
  (⟨"EchoVale$Course", "passHours", "(LEchoVale$Valley;I)I"⟩, prog_3_method_13_code, 4, (some Jvm.ClassFile.FieldType.int), 1, 2, 4, 92),
  (⟨"EchoVale$Course", "pass", "(LEchoVale$Valley;I)V"⟩, prog_3_method_14_code, 4, none, 1, 2, 4, 96),
  (⟨"EchoVale$Course", "giveBack", "(LEchoVale$Valley;II)V"⟩, prog_3_method_16_code, 7, none, 1, 3, 4, 100),
  (⟨"EchoVale$Valley", "snowAt", "(I)I"⟩, prog_11_method_13_code, 5, (some Jvm.ClassFile.FieldType.int), 9, 1, 4, 104),
  (⟨"EchoVale$Course", "sound", "(LEchoVale$Valley;III)V"⟩, prog_3_method_17_code, 8, none, 1, 4, 4, 109),
  (⟨"EchoVale$Valley", "hearersAt", "(II[I)I"⟩, prog_11_method_17_code, 6, (some Jvm.ClassFile.FieldType.int), 9, 3, 4, 113),
  (⟨"EchoVale$Course", "enterLog", "(IIII)V"⟩, prog_3_method_18_code, 6, none, 1, 4, 4, 117),
  (⟨"EchoVale$Valley", "onward", "(III)I"⟩, prog_11_method_16_code, 5, (some Jvm.ClassFile.FieldType.int), 9, 3, 4, 121),
  (⟨"EchoVale", "undo", "()I"⟩, prog_1_method_15_code, 1, (some Jvm.ClassFile.FieldType.int), 11, 0, 4, 125),
  (⟨"EchoVale$Undo", "takeBack", "(LEchoVale$Course;)Z"⟩, prog_10_method_4_code, 2, (some Jvm.ClassFile.FieldType.boolean), 8, 1, 4, 129),
  (⟨"EchoVale", "camp", "(II)I"⟩, prog_1_method_16_code, 7, (some Jvm.ClassFile.FieldType.int), 11, 2, 4, 133),
  (⟨"EchoVale", "isAhead", "(I)Z"⟩, prog_1_method_47_code, 1, (some Jvm.ClassFile.FieldType.boolean), 11, 1, 4, 136),
  (⟨"EchoVale", "wealthByCamping", "(III)I"⟩, prog_1_method_49_code, 4, (some Jvm.ClassFile.FieldType.int), 11, 3, 4, 140),
  (⟨"EchoVale$Course", "wealth", "(I)I"⟩, prog_3_method_20_code, 4, (some Jvm.ClassFile.FieldType.int), 1, 1, 4, 145),
  (⟨"EchoVale", "camping", "(III)I"⟩, prog_1_method_17_code, 4, (some Jvm.ClassFile.FieldType.int), 11, 3, 4, 150),
  (⟨"EchoVale", "has", "(III)I"⟩, prog_1_method_18_code, 4, (some Jvm.ClassFile.FieldType.int), 11, 3, 4, 154),
  (⟨"EchoVale", "areCamps", "(I)Z"⟩, prog_1_method_50_code, 2, (some Jvm.ClassFile.FieldType.boolean), 11, 1, 4, 158),
  (⟨"EchoVale$Valley", "campers", "()I"⟩, prog_11_method_18_code, 3, (some Jvm.ClassFile.FieldType.int), 9, 0, 4, 162),
  (⟨"EchoVale", "passByCamps", "(II)V"⟩, prog_1_method_51_code, 4, none, 11, 2, 4, 166),
  (⟨"EchoVale", "rests", "(II)I"⟩, prog_1_method_19_code, 5, (some Jvm.ClassFile.FieldType.int), 11, 2, 4, 171),
  (⟨"EchoVale", "keepOutcome", "(I)V"⟩, prog_1_method_52_code, 3, none, 11, 1, 4, 175),
  (⟨"EchoVale", "isRest", "(I)Z"⟩, prog_1_method_53_code, 5, (some Jvm.ClassFile.FieldType.boolean), 11, 1, 4, 179),
  (⟨"EchoVale", "tells", "(IIIII)I"⟩, prog_1_method_20_code, 8, (some Jvm.ClassFile.FieldType.int), 11, 5, 4, 183),
  (⟨"EchoVale", "passOneSaying", "(IIII)V"⟩, prog_1_method_54_code, 5, none, 11, 4, 4, 187),
  (⟨"EchoVale", "secret", "(II)I"⟩, prog_1_method_21_code, 4, (some Jvm.ClassFile.FieldType.int), 11, 2, 4, 193),
  (⟨"EchoVale", "next", "(I)I"⟩, prog_1_method_22_code, 3, (some Jvm.ClassFile.FieldType.int), 11, 1, 4, 197),
  (⟨"EchoVale", "heirs", "(II)I"⟩, prog_1_method_23_code, 3, (some Jvm.ClassFile.FieldType.int), 11, 2, 4, 202),
  (⟨"EchoVale", "when", "(III)I"⟩, prog_1_method_24_code, 5, (some Jvm.ClassFile.FieldType.int), 11, 3, 4, 206),
  (⟨"EchoVale", "meets", "(III)I"⟩, prog_1_method_25_code, 6, (some Jvm.ClassFile.FieldType.int), 11, 3, 4, 210),
  (⟨"EchoVale", "nearest", "(II)I"⟩, prog_1_method_26_code, 8, (some Jvm.ClassFile.FieldType.int), 11, 2, 4, 214),
  (⟨"EchoVale", "pieces", "()I"⟩, prog_1_method_27_code, 2, (some Jvm.ClassFile.FieldType.int), 11, 0, 4, 222),
  (⟨"EchoVale$Pieces", "take", "(LEchoVale$Reader;LEchoVale$Valley;)Z"⟩, prog_6_method_2_code, 5, (some Jvm.ClassFile.FieldType.boolean), 4, 2, 4, 226)]
def zM3 : List (MethodName × ByteArray × Nat × Option FieldType × Nat × Nat × Nat × Nat) := [(⟨"EchoVale$Pieces", "find", "(LEchoVale$Valley;LEchoVale$Course;)I"⟩, prog_6_method_3_code, 7, (some Jvm.ClassFile.FieldType.int), 4, 2, 4, 231),
  (⟨"EchoVale$Pieces", "canBegin", "(LEchoVale$Valley;I)Z"⟩, prog_6_method_5_code, 4, (some Jvm.ClassFile.FieldType.boolean), 4, 2, 4, 235),
  (⟨"EchoVale$Pieces", "canTake", "(LEchoVale$Valley;II)Z"⟩, prog_6_method_6_code, 6, (some Jvm.ClassFile.FieldType.boolean), 4, 3, 4, 238),
  (⟨"EchoVale$Pieces", "isWay", "(LEchoVale$Valley;LEchoVale$Course;III)Z"⟩, prog_6_method_7_code, 9, (some Jvm.ClassFile.FieldType.boolean), 4, 5, 5, 4),
  (⟨"EchoVale$Course", "leap", "(LEchoVale$Valley;I)Z"⟩, prog_3_method_15_code, 3, (some Jvm.ClassFile.FieldType.boolean), 1, 2, 5, 9),
  (⟨"EchoVale$Course", "isPending", "(I)Z"⟩, prog_3_method_12_code, 2, (some Jvm.ClassFile.FieldType.boolean), 1, 1, 5, 13),
  (⟨"EchoVale$Pieces", "isLogged", "(LEchoVale$Course;I)Z"⟩, prog_6_method_8_code, 4, (some Jvm.ClassFile.FieldType.boolean), 4, 2, 5, 17),
  (⟨"EchoVale$Pieces", "addWay", "(I)V"⟩, prog_6_method_4_code, 2, none, 4, 1, 5, 22),
  (⟨"EchoVale", "piece", "(I)I"⟩, prog_1_method_28_code, 2, (some Jvm.ClassFile.FieldType.int), 11, 1, 5, 26),
  (⟨"EchoVale", "claims", "()I"⟩, prog_1_method_29_code, 2, (some Jvm.ClassFile.FieldType.int), 11, 0, 5, 30),
  (⟨"EchoVale$ClaimsText", "readText", "(LEchoVale$Valley;LEchoVale$Course;)Z"⟩, prog_2_method_2_code, 4, (some Jvm.ClassFile.FieldType.boolean), 0, 2, 5, 34),
  (⟨"EchoVale$ClaimsText", "readLine", "(LEchoVale$Valley;LEchoVale$Course;I)Z"⟩, prog_2_method_3_code, 6, (some Jvm.ClassFile.FieldType.boolean), 0, 3, 5, 40),
  (⟨"EchoVale$ClaimsText", "isSo", "(LEchoVale$Course;III)Z"⟩, prog_2_method_4_code, 4, (some Jvm.ClassFile.FieldType.boolean), 0, 4, 5, 47),
  (⟨"EchoVale", "drawn", "(II)I"⟩, prog_1_method_30_code, 4, (some Jvm.ClassFile.FieldType.int), 11, 2, 5, 54),
  (⟨"EchoVale$Draws", "passHours", "(LEchoVale$Valley;LEchoVale$Course;II)I"⟩, prog_4_method_3_code, 7, (some Jvm.ClassFile.FieldType.int), 2, 4, 5, 58),
  (⟨"EchoVale$Draws", "draw", "(I)I"⟩, prog_4_method_2_code, 2, (some Jvm.ClassFile.FieldType.int), 2, 1, 5, 62),
  (⟨"EchoVale$Draws", "speak", "(LEchoVale$Valley;LEchoVale$Course;)V"⟩, prog_4_method_4_code, 6, none, 2, 2, 5, 68),
  (⟨"EchoVale", "storms", "(I)I"⟩, prog_1_method_31_code, 2, (some Jvm.ClassFile.FieldType.int), 11, 1, 5, 74),
  (⟨"EchoVale", "odds", "(III)I"⟩, prog_1_method_32_code, 7, (some Jvm.ClassFile.FieldType.int), 11, 3, 5, 78),
  (⟨"EchoVale", "poorest", "(I)I"⟩, prog_1_method_33_code, 7, (some Jvm.ClassFile.FieldType.int), 11, 1, 5, 82),
  (⟨"EchoVale", "reach", "(II)I"⟩, prog_1_method_34_code, 6, (some Jvm.ClassFile.FieldType.int), 11, 2, 5, 86),
  (⟨"EchoVale", "hears", "(II)I"⟩, prog_1_method_35_code, 3, (some Jvm.ClassFile.FieldType.int), 11, 2, 5, 90),
  (⟨"EchoVale", "write", "(I)I"⟩, prog_1_method_36_code, 3, (some Jvm.ClassFile.FieldType.int), 11, 1, 5, 95),
  (⟨"EchoVale", "putName", "(J)V"⟩, prog_1_method_56_code, 5, none, 11, 1, 5, 99),
  (⟨"EchoVale", "put", "(I)V"⟩, prog_1_method_55_code, 2, none, 11, 1, 5, 103),
  (⟨"EchoVale", "putNumber", "(I)V"⟩, prog_1_method_57_code, 2, none, 11, 1, 5, 107),
  (⟨"EchoVale", "byteAt", "(I)I"⟩, prog_1_method_37_code, 2, (some Jvm.ClassFile.FieldType.int), 11, 1, 5, 111),
  (⟨"EchoVale", "sentence", "()I"⟩, prog_1_method_38_code, 2, (some Jvm.ClassFile.FieldType.int), 11, 0, 5, 115),
  (⟨"EchoVale$SentenceText", "readText", "(LEchoVale$Valley;)Z"⟩, prog_9_method_2_code, 2, (some Jvm.ClassFile.FieldType.boolean), 7, 1, 5, 119),
  (⟨"EchoVale$SentenceText", "readCondition", "(LEchoVale$Valley;I)Z"⟩, prog_9_method_3_code, 4, (some Jvm.ClassFile.FieldType.boolean), 7, 2, 5, 125),
  (⟨"EchoVale$SentenceText", "readJoined", "(LEchoVale$Valley;I)Z"⟩, prog_9_method_4_code, 4, (some Jvm.ClassFile.FieldType.boolean), 7, 2, 5, 129),
  (⟨"EchoVale$SentenceText", "readOne", "(LEchoVale$Valley;I)Z"⟩, prog_9_method_5_code, 3, (some Jvm.ClassFile.FieldType.boolean), 7, 2, 5, 133),
  (⟨"EchoVale$Reader", "isWord", "(I)Z"⟩, prog_7_method_15_code, 2, (some Jvm.ClassFile.FieldType.boolean), 5, 1, 5, 141),
  (⟨"EchoVale$Sentence", "add", "(III)V"⟩, prog_8_method_4_code, 4, none, 6, 3, 5, 145),
  (⟨"EchoVale$SentenceText", "readPlain", "(LEchoVale$Valley;)Z"⟩, prog_9_method_6_code, 4, (some Jvm.ClassFile.FieldType.boolean), 7, 1, 5, 149),
  (⟨"EchoVale$Sentence", "copyFrom", "(LEchoVale$Sentence;)V"⟩, prog_8_method_3_code, 2, none, 6, 1, 5, 155),
  (⟨"EchoVale", "said", "(I)I"⟩, prog_1_method_39_code, 4, (some Jvm.ClassFile.FieldType.int), 11, 1, 5, 160),
  (⟨"EchoVale$Sentence", "holds", "(LEchoVale$Course;I)Z"⟩, prog_8_method_5_code, 6, (some Jvm.ClassFile.FieldType.boolean), 6, 2, 5, 164),
  (⟨"EchoVale$Sentence", "isSo", "(LEchoVale$Course;II)Z"⟩, prog_8_method_6_code, 6, (some Jvm.ClassFile.FieldType.boolean), 6, 3, 5, 168),
  (⟨"EchoVale$Sentence", "compares", "(III)Z"⟩, prog_8_method_7_code, 3, (some Jvm.ClassFile.FieldType.boolean), 6, 3, 5, 175)]
def zM4 : List (MethodName × ByteArray × Nat × Option FieldType × Nat × Nat × Nat × Nat) := [(⟨"EchoVale", "image", "(I)Z"⟩, prog_1_method_40_code, 2, (some Jvm.ClassFile.FieldType.boolean), 11, 1, 5, 179),
  (⟨"EchoVale", "restore", "(I)Z"⟩, prog_1_method_41_code, 2, (some Jvm.ClassFile.FieldType.boolean), 11, 1, 5, 183),
  (⟨"EchoVale", "count", "(I)I"⟩, prog_1_method_42_code, 2, (some Jvm.ClassFile.FieldType.int), 11, 1, 5, 187),
  (⟨"EchoVale", "cliff", "(II)I"⟩, prog_1_method_6_code, 3, (some Jvm.ClassFile.FieldType.int), 11, 2, 5, 196),
  (⟨"EchoVale", "person", "(II)I"⟩, prog_1_method_7_code, 3, (some Jvm.ClassFile.FieldType.int), 11, 2, 6, 28),
  (⟨"EchoVale$Course", "countWith", "(II)I"⟩, prog_3_method_21_code, 5, (some Jvm.ClassFile.FieldType.int), 1, 2, 6, 33),
  (⟨"EchoVale$Course", "countBy", "(I)I"⟩, prog_3_method_22_code, 4, (some Jvm.ClassFile.FieldType.int), 1, 1, 6, 37),
  (⟨"EchoVale", "saying", "(II)I"⟩, prog_1_method_8_code, 3, (some Jvm.ClassFile.FieldType.int), 11, 2, 6, 44),
  (⟨"EchoValeModel", "<init>", "()V"⟩, prog_14_method_1_code, 1, none, 12, 0, 6, 50),
  (⟨"EchoValeModel", "thrown", "()I"⟩, prog_14_method_2_code, 1, (some Jvm.ClassFile.FieldType.int), 12, 0, 6, 206),
  (⟨"EchoValeModel", "feed", "(IIIII)I"⟩, prog_14_method_5_code, 6, (some Jvm.ClassFile.FieldType.int), 12, 5, 6, 210),
  (⟨"EchoValeModel", "come", "(I)V"⟩, prog_14_method_4_code, 3, none, 12, 1, 6, 214),
  (⟨"EchoValeModel", "end", "(I)Z"⟩, prog_14_method_6_code, 2, (some Jvm.ClassFile.FieldType.boolean), 12, 1, 6, 218),
  (⟨"EchoValeModel", "valley", "()I"⟩, prog_14_method_41_code, 3, (some Jvm.ClassFile.FieldType.int), 12, 0, 6, 222),
  (⟨"EchoValeModel", "begin", "(I)V"⟩, prog_14_method_27_code, 2, none, 12, 1, 6, 226),
  (⟨"EchoValeModel", "take", "()I"⟩, prog_14_method_7_code, 2, (some Jvm.ClassFile.FieldType.int), 12, 0, 6, 230),
  (⟨"EchoValeModel", "go", "()V"⟩, prog_14_method_17_code, 5, none, 12, 0, 6, 234),
  (⟨"EchoValeModel", "isLetter", "(I)Z"⟩, prog_14_method_16_code, 1, (some Jvm.ClassFile.FieldType.boolean), 12, 1, 6, 237),
  (⟨"EchoValeModel", "isDigit", "(I)Z"⟩, prog_14_method_15_code, 1, (some Jvm.ClassFile.FieldType.boolean), 12, 1, 7, 0),
  (⟨"EchoValeModel", "tapeAt", "(I)I"⟩, prog_14_method_14_code, 2, (some Jvm.ClassFile.FieldType.int), 12, 1, 7, 4),
  (⟨"EchoValeModel", "readLine", "()Z"⟩, prog_14_method_40_code, 2, (some Jvm.ClassFile.FieldType.boolean), 12, 0, 7, 10),
  (⟨"EchoValeModel", "isWord", "(I)Z"⟩, prog_14_method_20_code, 2, (some Jvm.ClassFile.FieldType.boolean), 12, 1, 7, 14),
  (⟨"EchoValeModel", "wordOf", "(I)J"⟩, prog_14_method_19_code, 1, (some Jvm.ClassFile.FieldType.long), 12, 1, 7, 17),
  (⟨"EchoValeModel", "spelt", "(IIIIII)J"⟩, prog_14_method_18_code, 8, (some Jvm.ClassFile.FieldType.long), 12, 6, 7, 20),
  (⟨"EchoValeModel", "readLand", "()Z"⟩, prog_14_method_32_code, 1, (some Jvm.ClassFile.FieldType.boolean), 12, 0, 7, 24),
  (⟨"EchoValeModel", "bad", "(I)Z"⟩, prog_14_method_23_code, 2, (some Jvm.ClassFile.FieldType.boolean), 12, 1, 7, 28),
  (⟨"EchoValeModel", "readNumber", "(II)Z"⟩, prog_14_method_25_code, 3, (some Jvm.ClassFile.FieldType.boolean), 12, 2, 7, 32),
  (⟨"EchoValeModel", "isNumber", "(II)Z"⟩, prog_14_method_24_code, 3, (some Jvm.ClassFile.FieldType.boolean), 12, 2, 7, 36),
  (⟨"EchoValeModel", "isIn", "(III)Z"⟩, prog_14_method_8_code, 3, (some Jvm.ClassFile.FieldType.boolean), 12, 3, 7, 39),
  (⟨"EchoValeModel", "readCliff", "()Z"⟩, prog_14_method_33_code, 3, (some Jvm.ClassFile.FieldType.boolean), 12, 0, 7, 43),
  (⟨"EchoValeModel", "readNew", "(I)Z"⟩, prog_14_method_29_code, 2, (some Jvm.ClassFile.FieldType.boolean), 12, 1, 7, 47),
  (⟨"EchoValeModel", "isName", "()Z"⟩, prog_14_method_22_code, 2, (some Jvm.ClassFile.FieldType.boolean), 12, 0, 7, 51),
  (⟨"EchoValeModel", "findIn", "([JIIJ)I"⟩, prog_14_method_28_code, 6, (some Jvm.ClassFile.FieldType.int), 12, 4, 7, 54),
  (⟨"EchoValeModel", "holdCell", "()Z"⟩, prog_14_method_30_code, 2, (some Jvm.ClassFile.FieldType.boolean), 12, 0, 7, 58),
  (⟨"EchoValeModel", "readPerson", "()Z"⟩, prog_14_method_34_code, 2, (some Jvm.ClassFile.FieldType.boolean), 12, 0, 7, 62),
  (⟨"EchoValeModel", "readCell", "()Z"⟩, prog_14_method_31_code, 1, (some Jvm.ClassFile.FieldType.boolean), 12, 0, 7, 66),
  (⟨"EchoValeModel", "readMove", "()Z"⟩, prog_14_method_36_code, 3, (some Jvm.ClassFile.FieldType.boolean), 12, 0, 7, 70),
  (⟨"EchoValeModel", "isOne", "()Z"⟩, prog_14_method_35_code, 1, (some Jvm.ClassFile.FieldType.boolean), 12, 0, 7, 74),
  (⟨"EchoValeModel", "readCamp", "()Z"⟩, prog_14_method_37_code, 2, (some Jvm.ClassFile.FieldType.boolean), 12, 0, 7, 78),
  (⟨"EchoValeModel", "readFelt", "()Z"⟩, prog_14_method_38_code, 1, (some Jvm.ClassFile.FieldType.boolean), 12, 0, 7, 82)]
def zM5 : List (MethodName × ByteArray × Nat × Option FieldType × Nat × Nat × Nat × Nat) := [(⟨"EchoValeModel", "readSnow", "()Z"⟩, prog_14_method_39_code, 3, (some Jvm.ClassFile.FieldType.boolean), 12, 0, 7, 86),
  (⟨"EchoValeModel", "readEnd", "()Z"⟩, prog_14_method_26_code, 1, (some Jvm.ClassFile.FieldType.boolean), 12, 0, 7, 90),
  (⟨"EchoValeModel", "isSign", "(I)Z"⟩, prog_14_method_21_code, 2, (some Jvm.ClassFile.FieldType.boolean), 12, 1, 7, 94),
  (⟨"EchoValeModel", "fault", "()I"⟩, prog_14_method_42_code, 1, (some Jvm.ClassFile.FieldType.int), 12, 0, 7, 98),
  (⟨"EchoValeModel", "cliff", "(II)I"⟩, prog_14_method_52_code, 4, (some Jvm.ClassFile.FieldType.int), 12, 2, 7, 102),
  (⟨"EchoValeModel", "isCliff", "(I)Z"⟩, prog_14_method_43_code, 2, (some Jvm.ClassFile.FieldType.boolean), 12, 1, 7, 106),
  (⟨"EchoValeModel", "refuse", "()I"⟩, prog_14_method_3_code, 1, (some Jvm.ClassFile.FieldType.int), 12, 0, 7, 110),
  (⟨"EchoValeModel", "strength", "(I)I"⟩, prog_14_method_49_code, 2, (some Jvm.ClassFile.FieldType.int), 12, 1, 7, 114),
  (⟨"EchoValeModel", "snowAt", "(I)I"⟩, prog_14_method_51_code, 6, (some Jvm.ClassFile.FieldType.int), 12, 1, 7, 118),
  (⟨"EchoValeModel", "person", "(II)I"⟩, prog_14_method_55_code, 5, (some Jvm.ClassFile.FieldType.int), 12, 2, 7, 122),
  (⟨"EchoValeModel", "isPerson", "(I)Z"⟩, prog_14_method_44_code, 2, (some Jvm.ClassFile.FieldType.boolean), 12, 1, 7, 126),
  (⟨"EchoValeModel", "hasAll", "(I)I"⟩, prog_14_method_54_code, 4, (some Jvm.ClassFile.FieldType.int), 12, 1, 7, 130),
  (⟨"EchoValeModel", "shareOf", "(II)I"⟩, prog_14_method_53_code, 6, (some Jvm.ClassFile.FieldType.int), 12, 2, 7, 134),
  (⟨"EchoValeModel", "of", "(II)I"⟩, prog_14_method_50_code, 3, (some Jvm.ClassFile.FieldType.int), 12, 2, 7, 138),
  (⟨"EchoValeModel", "has", "(II)Z"⟩, prog_14_method_9_code, 2, (some Jvm.ClassFile.FieldType.boolean), 12, 2, 7, 141),
  (⟨"EchoValeModel", "bits", "(I)I"⟩, prog_14_method_10_code, 3, (some Jvm.ClassFile.FieldType.int), 12, 1, 7, 144),
  (⟨"EchoValeModel", "saying", "(II)I"⟩, prog_14_method_56_code, 3, (some Jvm.ClassFile.FieldType.int), 12, 2, 7, 148),
  (⟨"EchoValeModel", "isSaying", "(I)Z"⟩, prog_14_method_45_code, 2, (some Jvm.ClassFile.FieldType.boolean), 12, 1, 7, 152),
  (⟨"EchoValeModel", "comes", "(III)I"⟩, prog_14_method_57_code, 4, (some Jvm.ClassFile.FieldType.int), 12, 3, 7, 156),
  (⟨"EchoValeModel", "comesAt", "(III)I"⟩, prog_14_method_58_code, 4, (some Jvm.ClassFile.FieldType.int), 12, 3, 7, 160),
  (⟨"EchoValeModel", "share", "(II)I"⟩, prog_14_method_59_code, 3, (some Jvm.ClassFile.FieldType.int), 12, 2, 7, 164),
  (⟨"EchoValeModel", "sounded", "(II)I"⟩, prog_14_method_60_code, 3, (some Jvm.ClassFile.FieldType.int), 12, 2, 7, 168),
  (⟨"EchoValeModel", "undo", "()I"⟩, prog_14_method_70_code, 2, (some Jvm.ClassFile.FieldType.int), 12, 0, 7, 172),
  (⟨"EchoValeModel", "goes", "(II)Z"⟩, prog_14_method_73_code, 3, (some Jvm.ClassFile.FieldType.boolean), 12, 2, 7, 176),
  (⟨"EchoValeModel", "isAt", "(I)Z"⟩, prog_14_method_46_code, 2, (some Jvm.ClassFile.FieldType.boolean), 12, 1, 7, 180),
  (⟨"EchoValeModel", "snap", "()V"⟩, prog_14_method_69_code, 2, none, 12, 0, 7, 184),
  (⟨"EchoValeModel", "says", "(III)I"⟩, prog_14_method_74_code, 4, (some Jvm.ClassFile.FieldType.int), 12, 3, 7, 188),
  (⟨"EchoValeModel", "sayIt", "(III)I"⟩, prog_14_method_63_code, 9, (some Jvm.ClassFile.FieldType.int), 12, 3, 7, 192),
  (⟨"EchoValeModel", "loudAt", "(II)I"⟩, prog_14_method_62_code, 4, (some Jvm.ClassFile.FieldType.int), 12, 2, 7, 196),
  (⟨"EchoValeModel", "cliffAt", "(I)I"⟩, prog_14_method_47_code, 2, (some Jvm.ClassFile.FieldType.int), 12, 1, 7, 200),
  (⟨"EchoValeModel", "apart", "(II)I"⟩, prog_14_method_13_code, 2, (some Jvm.ClassFile.FieldType.int), 12, 2, 7, 203),
  (⟨"EchoValeModel", "size", "(I)I"⟩, prog_14_method_12_code, 1, (some Jvm.ClassFile.FieldType.int), 12, 1, 7, 206),
  (⟨"EchoValeModel", "delay", "(I)I"⟩, prog_14_method_48_code, 2, (some Jvm.ClassFile.FieldType.int), 12, 1, 7, 210),
  (⟨"EchoValeModel", "comeTo", "(IIII)V"⟩, prog_14_method_61_code, 7, none, 12, 4, 7, 214),
  (⟨"EchoValeModel", "on", "(I)I"⟩, prog_14_method_75_code, 2, (some Jvm.ClassFile.FieldType.int), 12, 1, 7, 218),
  (⟨"EchoValeModel", "passHours", "(I)I"⟩, prog_14_method_68_code, 3, (some Jvm.ClassFile.FieldType.int), 12, 1, 7, 222),
  (⟨"EchoValeModel", "pass", "(I)V"⟩, prog_14_method_67_code, 7, none, 12, 1, 7, 226),
  (⟨"EchoValeModel", "moveAll", "(I)V"⟩, prog_14_method_66_code, 3, none, 12, 1, 7, 230),
  (⟨"EchoValeModel", "least", "(II)I"⟩, prog_14_method_11_code, 2, (some Jvm.ClassFile.FieldType.int), 12, 2, 7, 233),
  (⟨"EchoValeModel", "sound", "(III)V"⟩, prog_14_method_65_code, 10, none, 12, 3, 7, 237)]
def zM6 : List (MethodName × ByteArray × Nat × Option FieldType × Nat × Nat × Nat × Nat) := [(⟨"EchoValeModel", "hearersOf", "(II)I"⟩, prog_14_method_64_code, 5, (some Jvm.ClassFile.FieldType.int), 12, 2, 8, 1),
  (⟨"EchoValeModel", "camp", "(II)I"⟩, prog_14_method_78_code, 7, (some Jvm.ClassFile.FieldType.int), 12, 2, 8, 5),
  (⟨"EchoValeModel", "isTime", "(I)Z"⟩, prog_14_method_76_code, 1, (some Jvm.ClassFile.FieldType.boolean), 12, 1, 8, 8),
  (⟨"EchoValeModel", "campingBy", "(III)I"⟩, prog_14_method_77_code, 5, (some Jvm.ClassFile.FieldType.int), 12, 3, 8, 12),
  (⟨"EchoValeModel", "layAside", "()V"⟩, prog_14_method_71_code, 2, none, 12, 0, 8, 16),
  (⟨"EchoValeModel", "layBack", "()V"⟩, prog_14_method_72_code, 2, none, 12, 0, 8, 20),
  (⟨"EchoValeModel", "camping", "(III)I"⟩, prog_14_method_79_code, 4, (some Jvm.ClassFile.FieldType.int), 12, 3, 8, 24),
  (⟨"EchoValeModel", "has", "(III)I"⟩, prog_14_method_82_code, 4, (some Jvm.ClassFile.FieldType.int), 12, 3, 8, 28),
  (⟨"EchoValeModel", "campers", "()I"⟩, prog_14_method_80_code, 3, (some Jvm.ClassFile.FieldType.int), 12, 0, 8, 32),
  (⟨"EchoValeModel", "layHas", "(II)V"⟩, prog_14_method_81_code, 4, none, 12, 2, 8, 36),
  (⟨"EchoValeModel", "rests", "(II)I"⟩, prog_14_method_84_code, 6, (some Jvm.ClassFile.FieldType.int), 12, 2, 8, 40),
  (⟨"EchoValeModel", "isRest", "(II)Z"⟩, prog_14_method_83_code, 4, (some Jvm.ClassFile.FieldType.boolean), 12, 2, 8, 44),
  (⟨"EchoValeModel", "tells", "(IIIII)I"⟩, prog_14_method_85_code, 10, (some Jvm.ClassFile.FieldType.int), 12, 5, 8, 48),
  (⟨"EchoValeModel", "secret", "(II)I"⟩, prog_14_method_86_code, 6, (some Jvm.ClassFile.FieldType.int), 12, 2, 8, 52),
  (⟨"EchoValeModel", "next", "(I)I"⟩, prog_14_method_87_code, 4, (some Jvm.ClassFile.FieldType.int), 12, 1, 8, 56),
  (⟨"EchoValeModel", "heirs", "(II)I"⟩, prog_14_method_88_code, 4, (some Jvm.ClassFile.FieldType.int), 12, 2, 8, 60),
  (⟨"EchoValeModel", "when", "(III)I"⟩, prog_14_method_89_code, 7, (some Jvm.ClassFile.FieldType.int), 12, 3, 8, 64),
  (⟨"EchoValeModel", "meets", "(III)I"⟩, prog_14_method_90_code, 6, (some Jvm.ClassFile.FieldType.int), 12, 3, 8, 68),
  (⟨"EchoValeModel", "nearest", "(II)I"⟩, prog_14_method_92_code, 7, (some Jvm.ClassFile.FieldType.int), 12, 2, 8, 72),
  (⟨"EchoValeModel", "wouldCome", "(III)I"⟩, prog_14_method_91_code, 4, (some Jvm.ClassFile.FieldType.int), 12, 3, 8, 76),
  (⟨"EchoValeModel", "reach", "(II)I"⟩, prog_14_method_93_code, 5, (some Jvm.ClassFile.FieldType.int), 12, 2, 8, 80),
  (⟨"EchoValeModel", "hears", "(II)I"⟩, prog_14_method_94_code, 3, (some Jvm.ClassFile.FieldType.int), 12, 2, 8, 84),
  (⟨"EchoValeModel", "pieces", "()I"⟩, prog_14_method_99_code, 5, (some Jvm.ClassFile.FieldType.int), 12, 0, 8, 88),
  (⟨"EchoValeModel", "takePieces", "()Z"⟩, prog_14_method_98_code, 3, (some Jvm.ClassFile.FieldType.boolean), 12, 0, 8, 92),
  (⟨"EchoValeModel", "soundAll", "(III)V"⟩, prog_14_method_96_code, 10, none, 12, 3, 8, 96),
  (⟨"EchoValeModel", "cometh", "(III)V"⟩, prog_14_method_95_code, 4, none, 12, 3, 8, 100),
  (⟨"EchoValeModel", "allSound", "()Z"⟩, prog_14_method_97_code, 2, (some Jvm.ClassFile.FieldType.boolean), 12, 0, 8, 104),
  (⟨"EchoValeModel", "piece", "(I)I"⟩, prog_14_method_100_code, 2, (some Jvm.ClassFile.FieldType.int), 12, 1, 8, 108),
  (⟨"EchoValeModel", "claims", "()I"⟩, prog_14_method_102_code, 1, (some Jvm.ClassFile.FieldType.int), 12, 0, 8, 112),
  (⟨"EchoValeModel", "readClaim", "()Z"⟩, prog_14_method_101_code, 5, (some Jvm.ClassFile.FieldType.boolean), 12, 0, 8, 116),
  (⟨"EchoValeModel", "drawn", "(II)I"⟩, prog_14_method_105_code, 4, (some Jvm.ClassFile.FieldType.int), 12, 2, 8, 120),
  (⟨"EchoValeModel", "drawnBy", "(II)I"⟩, prog_14_method_104_code, 8, (some Jvm.ClassFile.FieldType.int), 12, 2, 8, 124),
  (⟨"EchoValeModel", "draw", "(I)I"⟩, prog_14_method_103_code, 2, (some Jvm.ClassFile.FieldType.int), 12, 1, 8, 128),
  (⟨"EchoValeModel", "storms", "(I)I"⟩, prog_14_method_106_code, 2, (some Jvm.ClassFile.FieldType.int), 12, 1, 8, 133),
  (⟨"EchoValeModel", "odds", "(III)I"⟩, prog_14_method_107_code, 7, (some Jvm.ClassFile.FieldType.int), 12, 3, 8, 137),
  (⟨"EchoValeModel", "poorest", "(I)I"⟩, prog_14_method_108_code, 4, (some Jvm.ClassFile.FieldType.int), 12, 1, 8, 141),
  (⟨"EchoValeModel", "write", "(I)I"⟩, prog_14_method_111_code, 7, (some Jvm.ClassFile.FieldType.int), 12, 1, 8, 145),
  (⟨"EchoValeModel", "put", "(I)V"⟩, prog_14_method_109_code, 2, none, 12, 1, 8, 149),
  (⟨"EchoValeModel", "putNumber", "(I)V"⟩, prog_14_method_110_code, 2, none, 12, 1, 8, 153),
  (⟨"EchoValeModel", "byteAt", "(I)I"⟩, prog_14_method_112_code, 2, (some Jvm.ClassFile.FieldType.int), 12, 1, 8, 157)]
def zM7 : List (MethodName × ByteArray × Nat × Option FieldType × Nat × Nat × Nat × Nat) := [(⟨"EchoValeModel", "sentence", "()I"⟩, prog_14_method_121_code, 2, (some Jvm.ClassFile.FieldType.int), 12, 0, 8, 161),
  (⟨"EchoValeModel", "readOr", "()Z"⟩, prog_14_method_114_code, 2, (some Jvm.ClassFile.FieldType.boolean), 12, 0, 8, 165),
  (⟨"EchoValeModel", "readAnd", "()Z"⟩, prog_14_method_115_code, 2, (some Jvm.ClassFile.FieldType.boolean), 12, 0, 8, 169),
  (⟨"EchoValeModel", "readOne", "()Z"⟩, prog_14_method_116_code, 4, (some Jvm.ClassFile.FieldType.boolean), 12, 0, 8, 173),
  (⟨"EchoValeModel", "readBracket", "()Z"⟩, prog_14_method_118_code, 1, (some Jvm.ClassFile.FieldType.boolean), 12, 0, 8, 177),
  (⟨"EchoValeModel", "readNot", "()Z"⟩, prog_14_method_117_code, 1, (some Jvm.ClassFile.FieldType.boolean), 12, 0, 8, 181),
  (⟨"EchoValeModel", "saysOne", "(IIII)I"⟩, prog_14_method_113_code, 6, (some Jvm.ClassFile.FieldType.int), 12, 4, 8, 185),
  (⟨"EchoValeModel", "readOf", "(I)Z"⟩, prog_14_method_119_code, 3, (some Jvm.ClassFile.FieldType.boolean), 12, 1, 8, 189),
  (⟨"EchoValeModel", "readCompare", "(I)Z"⟩, prog_14_method_120_code, 3, (some Jvm.ClassFile.FieldType.boolean), 12, 1, 8, 193),
  (⟨"EchoValeModel", "said", "(I)I"⟩, prog_14_method_124_code, 4, (some Jvm.ClassFile.FieldType.int), 12, 1, 8, 197),
  (⟨"EchoValeModel", "holds", "(II)Z"⟩, prog_14_method_123_code, 8, (some Jvm.ClassFile.FieldType.boolean), 12, 2, 8, 201),
  (⟨"EchoValeModel", "isLost", "(I)Z"⟩, prog_14_method_122_code, 3, (some Jvm.ClassFile.FieldType.boolean), 12, 1, 8, 205),
  (⟨"EchoValeModel", "image", "(I)Z"⟩, prog_14_method_125_code, 3, (some Jvm.ClassFile.FieldType.boolean), 12, 1, 8, 209),
  (⟨"EchoValeModel", "restore", "(I)Z"⟩, prog_14_method_126_code, 3, (some Jvm.ClassFile.FieldType.boolean), 12, 1, 8, 213),
  (⟨"EchoValeModel", "count", "(I)I"⟩, prog_14_method_127_code, 2, (some Jvm.ClassFile.FieldType.int), 12, 1, 8, 217)]
def zMs : List (MethodName × ByteArray × Nat × Option FieldType × Nat × Nat × Nat × Nat) := zM0 ++ (zM1 ++ (zM2 ++ (zM3 ++ (zM4 ++ (zM5 ++ (zM6 ++ (zM7)))))))
