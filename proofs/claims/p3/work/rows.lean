section
-- ===== PART A: goes FIRST, ahead of the names: the tables' words, and 'selects' of the private methods out of them =====
/-- a private method of a class that the tables say can be made, by its rows of tables_1 -/
def lw_okq (q : MethodName × Nat) : Prop := (q.1.cls ≠ "java/lang/invoke/MethodHandle" ∧ q.1.cls ≠ "java/lang/invoke/VarHandle") ∧ Cond.instantiable q.1.cls q.2 ∈ tables_1 ∧ Cond.privateMethod q.1 ∈ tables_1 ∧ Cond.instanceMethod q.1 ∈ tables_1
theorem lw_p0 : lw_okq (⟨"TurnKeeper", "blockerOf", "(I)I"⟩, 6) := ⟨⟨by decide +kernel, by decide +kernel⟩, List.mem_of_getElem? (i := 29) (by decide +kernel), List.mem_of_getElem? (i := 157) (by decide +kernel), List.mem_of_getElem? (i := 158) (by decide +kernel)⟩
theorem lw_p1 : lw_okq (⟨"java/lang/Throwable", "fillInStackTrace", "(I)Ljava/lang/Throwable;"⟩, 6) := ⟨⟨by decide +kernel, by decide +kernel⟩, List.mem_of_getElem? (i := 210) (by decide +kernel), List.mem_of_getElem? (i := 208) (by decide +kernel), List.mem_of_getElem? (i := 209) (by decide +kernel)⟩
theorem lw_p2 : lw_okq (⟨"TurnKeeper", "leastFree", "()I"⟩, 6) := ⟨⟨by decide +kernel, by decide +kernel⟩, List.mem_of_getElem? (i := 29) (by decide +kernel), List.mem_of_getElem? (i := 279) (by decide +kernel), List.mem_of_getElem? (i := 280) (by decide +kernel)⟩
theorem lw_p3 : lw_okq (⟨"TurnKeeper", "howManySyncs", "()I"⟩, 6) := ⟨⟨by decide +kernel, by decide +kernel⟩, List.mem_of_getElem? (i := 29) (by decide +kernel), List.mem_of_getElem? (i := 487) (by decide +kernel), List.mem_of_getElem? (i := 488) (by decide +kernel)⟩
theorem lw_p4 : lw_okq (⟨"TurnKeeper$Tape", "skipBlanks", "()V"⟩, 6) := ⟨⟨by decide +kernel, by decide +kernel⟩, List.mem_of_getElem? (i := 37) (by decide +kernel), List.mem_of_getElem? (i := 503) (by decide +kernel), List.mem_of_getElem? (i := 504) (by decide +kernel)⟩
theorem lw_p5 : lw_okq (⟨"TurnKeeper$Tape", "here", "()I"⟩, 6) := ⟨⟨by decide +kernel, by decide +kernel⟩, List.mem_of_getElem? (i := 37) (by decide +kernel), List.mem_of_getElem? (i := 507) (by decide +kernel), List.mem_of_getElem? (i := 508) (by decide +kernel)⟩
theorem lw_p6 : lw_okq (⟨"TurnKeeper$Tape", "readInstruction", "(I)Z"⟩, 6) := ⟨⟨by decide +kernel, by decide +kernel⟩, List.mem_of_getElem? (i := 37) (by decide +kernel), List.mem_of_getElem? (i := 511) (by decide +kernel), List.mem_of_getElem? (i := 512) (by decide +kernel)⟩
theorem lw_p7 : lw_okq (⟨"TurnKeeper$Tape", "wordAt", "(I)I"⟩, 6) := ⟨⟨by decide +kernel, by decide +kernel⟩, List.mem_of_getElem? (i := 37) (by decide +kernel), List.mem_of_getElem? (i := 515) (by decide +kernel), List.mem_of_getElem? (i := 516) (by decide +kernel)⟩
theorem lw_p8 : lw_okq (⟨"TurnKeeper$Tape", "isText", "(ILjava/lang/String;)Z"⟩, 6) := ⟨⟨by decide +kernel, by decide +kernel⟩, List.mem_of_getElem? (i := 37) (by decide +kernel), List.mem_of_getElem? (i := 521) (by decide +kernel), List.mem_of_getElem? (i := 522) (by decide +kernel)⟩
theorem lw_p9 : lw_okq (⟨"TurnKeeper$Tape", "broken", "(I)Z"⟩, 6) := ⟨⟨by decide +kernel, by decide +kernel⟩, List.mem_of_getElem? (i := 37) (by decide +kernel), List.mem_of_getElem? (i := 573) (by decide +kernel), List.mem_of_getElem? (i := 574) (by decide +kernel)⟩
theorem lw_p10 : lw_okq (⟨"TurnKeeper$Tape", "store", "(II)V"⟩, 6) := ⟨⟨by decide +kernel, by decide +kernel⟩, List.mem_of_getElem? (i := 37) (by decide +kernel), List.mem_of_getElem? (i := 577) (by decide +kernel), List.mem_of_getElem? (i := 578) (by decide +kernel)⟩
theorem lw_p11 : lw_okq (⟨"TurnKeeper$Tape", "readNumber", "(IC)Z"⟩, 6) := ⟨⟨by decide +kernel, by decide +kernel⟩, List.mem_of_getElem? (i := 37) (by decide +kernel), List.mem_of_getElem? (i := 581) (by decide +kernel), List.mem_of_getElem? (i := 582) (by decide +kernel)⟩
theorem lw_p12 : lw_okq (⟨"TurnKeeper", "strandAt", "(I)LTurnKeeper$Strand;"⟩, 6) := ⟨⟨by decide +kernel, by decide +kernel⟩, List.mem_of_getElem? (i := 29) (by decide +kernel), List.mem_of_getElem? (i := 619) (by decide +kernel), List.mem_of_getElem? (i := 620) (by decide +kernel)⟩
theorem lw_p13 : lw_okq (⟨"TurnKeeper", "takeTurn", "(LTurnKeeper$Strand;)V"⟩, 6) := ⟨⟨by decide +kernel, by decide +kernel⟩, List.mem_of_getElem? (i := 29) (by decide +kernel), List.mem_of_getElem? (i := 624) (by decide +kernel), List.mem_of_getElem? (i := 625) (by decide +kernel)⟩
theorem lw_p14 : lw_okq (⟨"TurnKeeper$Lock", "have", "(LTurnKeeper$Strand;)V"⟩, 7) := ⟨⟨by decide +kernel, by decide +kernel⟩, List.mem_of_getElem? (i := 301) (by decide +kernel), List.mem_of_getElem? (i := 632) (by decide +kernel), List.mem_of_getElem? (i := 633) (by decide +kernel)⟩
theorem lw_p15 : lw_okq (⟨"TurnKeeper$Strand", "codeAt", "(I)I"⟩, 13) := ⟨⟨by decide +kernel, by decide +kernel⟩, List.mem_of_getElem? (i := 71) (by decide +kernel), List.mem_of_getElem? (i := 652) (by decide +kernel), List.mem_of_getElem? (i := 653) (by decide +kernel)⟩
def lw_privs_1 : List (MethodName × Nat) := [(⟨"TurnKeeper", "blockerOf", "(I)I"⟩, 6), (⟨"java/lang/Throwable", "fillInStackTrace", "(I)Ljava/lang/Throwable;"⟩, 6), (⟨"TurnKeeper", "leastFree", "()I"⟩, 6), (⟨"TurnKeeper", "howManySyncs", "()I"⟩, 6), (⟨"TurnKeeper$Tape", "skipBlanks", "()V"⟩, 6), (⟨"TurnKeeper$Tape", "here", "()I"⟩, 6), (⟨"TurnKeeper$Tape", "readInstruction", "(I)Z"⟩, 6), (⟨"TurnKeeper$Tape", "wordAt", "(I)I"⟩, 6), (⟨"TurnKeeper$Tape", "isText", "(ILjava/lang/String;)Z"⟩, 6), (⟨"TurnKeeper$Tape", "broken", "(I)Z"⟩, 6), (⟨"TurnKeeper$Tape", "store", "(II)V"⟩, 6), (⟨"TurnKeeper$Tape", "readNumber", "(IC)Z"⟩, 6), (⟨"TurnKeeper", "strandAt", "(I)LTurnKeeper$Strand;"⟩, 6), (⟨"TurnKeeper", "takeTurn", "(LTurnKeeper$Strand;)V"⟩, 6), (⟨"TurnKeeper$Lock", "have", "(LTurnKeeper$Strand;)V"⟩, 7), (⟨"TurnKeeper$Strand", "codeAt", "(I)I"⟩, 13)]
theorem lw_r1 : ∀ q ∈ lw_privs_1, lw_okq q := List.forall_mem_cons.mpr ⟨lw_p0, List.forall_mem_cons.mpr ⟨lw_p1, List.forall_mem_cons.mpr ⟨lw_p2, List.forall_mem_cons.mpr ⟨lw_p3, List.forall_mem_cons.mpr ⟨lw_p4, List.forall_mem_cons.mpr ⟨lw_p5, List.forall_mem_cons.mpr ⟨lw_p6, List.forall_mem_cons.mpr ⟨lw_p7, List.forall_mem_cons.mpr ⟨lw_p8, List.forall_mem_cons.mpr ⟨lw_p9, List.forall_mem_cons.mpr ⟨lw_p10, List.forall_mem_cons.mpr ⟨lw_p11, List.forall_mem_cons.mpr ⟨lw_p12, List.forall_mem_cons.mpr ⟨lw_p13, List.forall_mem_cons.mpr ⟨lw_p14, List.forall_mem_cons.mpr ⟨lw_p15, fun _ h => absurd h List.not_mem_nil⟩⟩⟩⟩⟩⟩⟩⟩⟩⟩⟩⟩⟩⟩⟩⟩
theorem lw_p16 : lw_okq (⟨"TurnKeeper", "doAlone", "(LTurnKeeper$Strand;LTurnKeeper$Word;)V"⟩, 6) := ⟨⟨by decide +kernel, by decide +kernel⟩, List.mem_of_getElem? (i := 29) (by decide +kernel), List.mem_of_getElem? (i := 659) (by decide +kernel), List.mem_of_getElem? (i := 660) (by decide +kernel)⟩
theorem lw_p17 : lw_okq (⟨"TurnKeeper", "fallAsleep", "(LTurnKeeper$Strand;I)V"⟩, 6) := ⟨⟨by decide +kernel, by decide +kernel⟩, List.mem_of_getElem? (i := 29) (by decide +kernel), List.mem_of_getElem? (i := 681) (by decide +kernel), List.mem_of_getElem? (i := 682) (by decide +kernel)⟩
theorem lw_p18 : lw_okq (⟨"TurnKeeper", "syncAt", "(I)LTurnKeeper$Sync;"⟩, 6) := ⟨⟨by decide +kernel, by decide +kernel⟩, List.mem_of_getElem? (i := 29) (by decide +kernel), List.mem_of_getElem? (i := 690) (by decide +kernel), List.mem_of_getElem? (i := 691) (by decide +kernel)⟩
theorem lw_p19 : lw_okq (⟨"TurnKeeper$Gate", "leave", "(LTurnKeeper$Strand;)V"⟩, 5) := ⟨⟨by decide +kernel, by decide +kernel⟩, List.mem_of_getElem? (i := 421) (by decide +kernel), List.mem_of_getElem? (i := 722) (by decide +kernel), List.mem_of_getElem? (i := 723) (by decide +kernel)⟩
theorem lw_p20 : lw_okq (⟨"TurnKeeper$Gate", "rowGoesOn", "()V"⟩, 5) := ⟨⟨by decide +kernel, by decide +kernel⟩, List.mem_of_getElem? (i := 421) (by decide +kernel), List.mem_of_getElem? (i := 727) (by decide +kernel), List.mem_of_getElem? (i := 728) (by decide +kernel)⟩
theorem lw_p21 : lw_okq (⟨"TurnKeeper$Gate", "giveBack", "(LTurnKeeper$Strand;)V"⟩, 5) := ⟨⟨by decide +kernel, by decide +kernel⟩, List.mem_of_getElem? (i := 421) (by decide +kernel), List.mem_of_getElem? (i := 738) (by decide +kernel), List.mem_of_getElem? (i := 739) (by decide +kernel)⟩
theorem lw_p22 : lw_okq (⟨"TurnKeeper$Holder", "isGiven", "(I)Z"⟩, 5) := ⟨⟨by decide +kernel, by decide +kernel⟩, List.mem_of_getElem? (i := 405) (by decide +kernel), List.mem_of_getElem? (i := 750) (by decide +kernel), List.mem_of_getElem? (i := 751) (by decide +kernel)⟩
theorem lw_p23 : lw_okq (⟨"TurnKeeper$Lock", "grabOrStandIn", "(LTurnKeeper$Strand;)V"⟩, 7) := ⟨⟨by decide +kernel, by decide +kernel⟩, List.mem_of_getElem? (i := 301) (by decide +kernel), List.mem_of_getElem? (i := 780) (by decide +kernel), List.mem_of_getElem? (i := 781) (by decide +kernel)⟩
theorem lw_p24 : lw_okq (⟨"TurnKeeper$Lock", "isGrabbed", "(LTurnKeeper$Strand;)Z"⟩, 7) := ⟨⟨by decide +kernel, by decide +kernel⟩, List.mem_of_getElem? (i := 301) (by decide +kernel), List.mem_of_getElem? (i := 784) (by decide +kernel), List.mem_of_getElem? (i := 785) (by decide +kernel)⟩
theorem lw_p25 : lw_okq (⟨"TurnKeeper$Lock", "free", "()V"⟩, 7) := ⟨⟨by decide +kernel, by decide +kernel⟩, List.mem_of_getElem? (i := 301) (by decide +kernel), List.mem_of_getElem? (i := 795) (by decide +kernel), List.mem_of_getElem? (i := 796) (by decide +kernel)⟩
theorem lw_p26 : lw_okq (⟨"TurnKeeper$Lock", "callUp", "(I)V"⟩, 7) := ⟨⟨by decide +kernel, by decide +kernel⟩, List.mem_of_getElem? (i := 301) (by decide +kernel), List.mem_of_getElem? (i := 804) (by decide +kernel), List.mem_of_getElem? (i := 805) (by decide +kernel)⟩
theorem lw_p27 : lw_okq (⟨"TurnKeeper$Lock", "comeToFirst", "(LTurnKeeper$Strand;I)V"⟩, 7) := ⟨⟨by decide +kernel, by decide +kernel⟩, List.mem_of_getElem? (i := 301) (by decide +kernel), List.mem_of_getElem? (i := 808) (by decide +kernel), List.mem_of_getElem? (i := 809) (by decide +kernel)⟩
theorem lw_p28 : lw_okq (⟨"TurnKeeper$Queue", "isAccepted", "(I)Z"⟩, 6) := ⟨⟨by decide +kernel, by decide +kernel⟩, List.mem_of_getElem? (i := 386) (by decide +kernel), List.mem_of_getElem? (i := 819) (by decide +kernel), List.mem_of_getElem? (i := 820) (by decide +kernel)⟩
theorem lw_p29 : lw_okq (⟨"TurnKeeper$Queue", "append", "(I)V"⟩, 6) := ⟨⟨by decide +kernel, by decide +kernel⟩, List.mem_of_getElem? (i := 386) (by decide +kernel), List.mem_of_getElem? (i := 825) (by decide +kernel), List.mem_of_getElem? (i := 826) (by decide +kernel)⟩
theorem lw_p30 : lw_okq (⟨"TurnKeeper$Queue", "takenOut", "()I"⟩, 6) := ⟨⟨by decide +kernel, by decide +kernel⟩, List.mem_of_getElem? (i := 386) (by decide +kernel), List.mem_of_getElem? (i := 833) (by decide +kernel), List.mem_of_getElem? (i := 834) (by decide +kernel)⟩
theorem lw_p31 : lw_okq (⟨"TurnKeeper$Semaphore", "handOut", "()V"⟩, 4) := ⟨⟨by decide +kernel, by decide +kernel⟩, List.mem_of_getElem? (i := 373) (by decide +kernel), List.mem_of_getElem? (i := 847) (by decide +kernel), List.mem_of_getElem? (i := 848) (by decide +kernel)⟩
def lw_privs_2 : List (MethodName × Nat) := [(⟨"TurnKeeper", "doAlone", "(LTurnKeeper$Strand;LTurnKeeper$Word;)V"⟩, 6), (⟨"TurnKeeper", "fallAsleep", "(LTurnKeeper$Strand;I)V"⟩, 6), (⟨"TurnKeeper", "syncAt", "(I)LTurnKeeper$Sync;"⟩, 6), (⟨"TurnKeeper$Gate", "leave", "(LTurnKeeper$Strand;)V"⟩, 5), (⟨"TurnKeeper$Gate", "rowGoesOn", "()V"⟩, 5), (⟨"TurnKeeper$Gate", "giveBack", "(LTurnKeeper$Strand;)V"⟩, 5), (⟨"TurnKeeper$Holder", "isGiven", "(I)Z"⟩, 5), (⟨"TurnKeeper$Lock", "grabOrStandIn", "(LTurnKeeper$Strand;)V"⟩, 7), (⟨"TurnKeeper$Lock", "isGrabbed", "(LTurnKeeper$Strand;)Z"⟩, 7), (⟨"TurnKeeper$Lock", "free", "()V"⟩, 7), (⟨"TurnKeeper$Lock", "callUp", "(I)V"⟩, 7), (⟨"TurnKeeper$Lock", "comeToFirst", "(LTurnKeeper$Strand;I)V"⟩, 7), (⟨"TurnKeeper$Queue", "isAccepted", "(I)Z"⟩, 6), (⟨"TurnKeeper$Queue", "append", "(I)V"⟩, 6), (⟨"TurnKeeper$Queue", "takenOut", "()I"⟩, 6), (⟨"TurnKeeper$Semaphore", "handOut", "()V"⟩, 4)]
theorem lw_r2 : ∀ q ∈ lw_privs_2, lw_okq q := List.forall_mem_cons.mpr ⟨lw_p16, List.forall_mem_cons.mpr ⟨lw_p17, List.forall_mem_cons.mpr ⟨lw_p18, List.forall_mem_cons.mpr ⟨lw_p19, List.forall_mem_cons.mpr ⟨lw_p20, List.forall_mem_cons.mpr ⟨lw_p21, List.forall_mem_cons.mpr ⟨lw_p22, List.forall_mem_cons.mpr ⟨lw_p23, List.forall_mem_cons.mpr ⟨lw_p24, List.forall_mem_cons.mpr ⟨lw_p25, List.forall_mem_cons.mpr ⟨lw_p26, List.forall_mem_cons.mpr ⟨lw_p27, List.forall_mem_cons.mpr ⟨lw_p28, List.forall_mem_cons.mpr ⟨lw_p29, List.forall_mem_cons.mpr ⟨lw_p30, List.forall_mem_cons.mpr ⟨lw_p31, fun _ h => absurd h List.not_mem_nil⟩⟩⟩⟩⟩⟩⟩⟩⟩⟩⟩⟩⟩⟩⟩⟩
theorem lw_p32 : lw_okq (⟨"TurnKeeper", "howManyReady", "()I"⟩, 6) := ⟨⟨by decide +kernel, by decide +kernel⟩, List.mem_of_getElem? (i := 29) (by decide +kernel), List.mem_of_getElem? (i := 861) (by decide +kernel), List.mem_of_getElem? (i := 862) (by decide +kernel)⟩
theorem lw_p33 : lw_okq (⟨"TurnKeeper", "readyFrom", "(II)LTurnKeeper$Strand;"⟩, 6) := ⟨⟨by decide +kernel, by decide +kernel⟩, List.mem_of_getElem? (i := 29) (by decide +kernel), List.mem_of_getElem? (i := 866) (by decide +kernel), List.mem_of_getElem? (i := 867) (by decide +kernel)⟩
theorem lw_p34 : lw_okq (⟨"TurnKeeperModel", "refuse", "(I)I"⟩, 38) := ⟨⟨by decide +kernel, by decide +kernel⟩, List.mem_of_getElem? (i := 967) (by decide +kernel), List.mem_of_getElem? (i := 1132) (by decide +kernel), List.mem_of_getElem? (i := 1133) (by decide +kernel)⟩
theorem lw_p35 : lw_okq (⟨"TurnKeeperModel", "four", "(I)V"⟩, 38) := ⟨⟨by decide +kernel, by decide +kernel⟩, List.mem_of_getElem? (i := 967) (by decide +kernel), List.mem_of_getElem? (i := 1136) (by decide +kernel), List.mem_of_getElem? (i := 1137) (by decide +kernel)⟩
theorem lw_p36 : lw_okq (⟨"TurnKeeperModel", "isThere", "(I)Z"⟩, 38) := ⟨⟨by decide +kernel, by decide +kernel⟩, List.mem_of_getElem? (i := 967) (by decide +kernel), List.mem_of_getElem? (i := 1155) (by decide +kernel), List.mem_of_getElem? (i := 1156) (by decide +kernel)⟩
theorem lw_p37 : lw_okq (⟨"TurnKeeperModel", "objects", "()I"⟩, 38) := ⟨⟨by decide +kernel, by decide +kernel⟩, List.mem_of_getElem? (i := 967) (by decide +kernel), List.mem_of_getElem? (i := 1159) (by decide +kernel), List.mem_of_getElem? (i := 1160) (by decide +kernel)⟩
theorem lw_p38 : lw_okq (⟨"TurnKeeperModel", "read", "()V"⟩, 38) := ⟨⟨by decide +kernel, by decide +kernel⟩, List.mem_of_getElem? (i := 967) (by decide +kernel), List.mem_of_getElem? (i := 1167) (by decide +kernel), List.mem_of_getElem? (i := 1168) (by decide +kernel)⟩
theorem lw_p39 : lw_okq (⟨"TurnKeeperModel", "next", "()V"⟩, 38) := ⟨⟨by decide +kernel, by decide +kernel⟩, List.mem_of_getElem? (i := 967) (by decide +kernel), List.mem_of_getElem? (i := 1171) (by decide +kernel), List.mem_of_getElem? (i := 1172) (by decide +kernel)⟩
theorem lw_p40 : lw_okq (⟨"TurnKeeperModel", "byteAt", "(I)I"⟩, 38) := ⟨⟨by decide +kernel, by decide +kernel⟩, List.mem_of_getElem? (i := 967) (by decide +kernel), List.mem_of_getElem? (i := 1175) (by decide +kernel), List.mem_of_getElem? (i := 1176) (by decide +kernel)⟩
theorem lw_p41 : lw_okq (⟨"TurnKeeperModel", "line", "()V"⟩, 38) := ⟨⟨by decide +kernel, by decide +kernel⟩, List.mem_of_getElem? (i := 967) (by decide +kernel), List.mem_of_getElem? (i := 1179) (by decide +kernel), List.mem_of_getElem? (i := 1180) (by decide +kernel)⟩
theorem lw_p42 : lw_okq (⟨"TurnKeeperModel", "word", "()I"⟩, 38) := ⟨⟨by decide +kernel, by decide +kernel⟩, List.mem_of_getElem? (i := 967) (by decide +kernel), List.mem_of_getElem? (i := 1183) (by decide +kernel), List.mem_of_getElem? (i := 1184) (by decide +kernel)⟩
theorem lw_p43 : lw_okq (⟨"TurnKeeperModel", "wrong", "()I"⟩, 38) := ⟨⟨by decide +kernel, by decide +kernel⟩, List.mem_of_getElem? (i := 967) (by decide +kernel), List.mem_of_getElem? (i := 1187) (by decide +kernel), List.mem_of_getElem? (i := 1188) (by decide +kernel)⟩
theorem lw_p44 : lw_okq (⟨"TurnKeeperModel", "number", "(II)I"⟩, 38) := ⟨⟨by decide +kernel, by decide +kernel⟩, List.mem_of_getElem? (i := 967) (by decide +kernel), List.mem_of_getElem? (i := 1192) (by decide +kernel), List.mem_of_getElem? (i := 1193) (by decide +kernel)⟩
theorem lw_p45 : lw_okq (⟨"TurnKeeperModel", "one", "(I)V"⟩, 38) := ⟨⟨by decide +kernel, by decide +kernel⟩, List.mem_of_getElem? (i := 967) (by decide +kernel), List.mem_of_getElem? (i := 1200) (by decide +kernel), List.mem_of_getElem? (i := 1201) (by decide +kernel)⟩
theorem lw_p46 : lw_okq (⟨"TurnKeeperModel", "rowOf", "(I)I"⟩, 38) := ⟨⟨by decide +kernel, by decide +kernel⟩, List.mem_of_getElem? (i := 967) (by decide +kernel), List.mem_of_getElem? (i := 1204) (by decide +kernel), List.mem_of_getElem? (i := 1205) (by decide +kernel)⟩
theorem lw_p47 : lw_okq (⟨"TurnKeeperModel", "has", "(II)V"⟩, 38) := ⟨⟨by decide +kernel, by decide +kernel⟩, List.mem_of_getElem? (i := 967) (by decide +kernel), List.mem_of_getElem? (i := 1208) (by decide +kernel), List.mem_of_getElem? (i := 1209) (by decide +kernel)⟩
def lw_privs_3 : List (MethodName × Nat) := [(⟨"TurnKeeper", "howManyReady", "()I"⟩, 6), (⟨"TurnKeeper", "readyFrom", "(II)LTurnKeeper$Strand;"⟩, 6), (⟨"TurnKeeperModel", "refuse", "(I)I"⟩, 38), (⟨"TurnKeeperModel", "four", "(I)V"⟩, 38), (⟨"TurnKeeperModel", "isThere", "(I)Z"⟩, 38), (⟨"TurnKeeperModel", "objects", "()I"⟩, 38), (⟨"TurnKeeperModel", "read", "()V"⟩, 38), (⟨"TurnKeeperModel", "next", "()V"⟩, 38), (⟨"TurnKeeperModel", "byteAt", "(I)I"⟩, 38), (⟨"TurnKeeperModel", "line", "()V"⟩, 38), (⟨"TurnKeeperModel", "word", "()I"⟩, 38), (⟨"TurnKeeperModel", "wrong", "()I"⟩, 38), (⟨"TurnKeeperModel", "number", "(II)I"⟩, 38), (⟨"TurnKeeperModel", "one", "(I)V"⟩, 38), (⟨"TurnKeeperModel", "rowOf", "(I)I"⟩, 38), (⟨"TurnKeeperModel", "has", "(II)V"⟩, 38)]
theorem lw_r3 : ∀ q ∈ lw_privs_3, lw_okq q := List.forall_mem_cons.mpr ⟨lw_p32, List.forall_mem_cons.mpr ⟨lw_p33, List.forall_mem_cons.mpr ⟨lw_p34, List.forall_mem_cons.mpr ⟨lw_p35, List.forall_mem_cons.mpr ⟨lw_p36, List.forall_mem_cons.mpr ⟨lw_p37, List.forall_mem_cons.mpr ⟨lw_p38, List.forall_mem_cons.mpr ⟨lw_p39, List.forall_mem_cons.mpr ⟨lw_p40, List.forall_mem_cons.mpr ⟨lw_p41, List.forall_mem_cons.mpr ⟨lw_p42, List.forall_mem_cons.mpr ⟨lw_p43, List.forall_mem_cons.mpr ⟨lw_p44, List.forall_mem_cons.mpr ⟨lw_p45, List.forall_mem_cons.mpr ⟨lw_p46, List.forall_mem_cons.mpr ⟨lw_p47, fun _ h => absurd h List.not_mem_nil⟩⟩⟩⟩⟩⟩⟩⟩⟩⟩⟩⟩⟩⟩⟩⟩
theorem lw_p48 : lw_okq (⟨"TurnKeeperModel", "leaves", "(II)V"⟩, 38) := ⟨⟨by decide +kernel, by decide +kernel⟩, List.mem_of_getElem? (i := 967) (by decide +kernel), List.mem_of_getElem? (i := 1212) (by decide +kernel), List.mem_of_getElem? (i := 1213) (by decide +kernel)⟩
theorem lw_p49 : lw_okq (⟨"TurnKeeperModel", "goesOn", "(I)V"⟩, 38) := ⟨⟨by decide +kernel, by decide +kernel⟩, List.mem_of_getElem? (i := 967) (by decide +kernel), List.mem_of_getElem? (i := 1216) (by decide +kernel), List.mem_of_getElem? (i := 1217) (by decide +kernel)⟩
theorem lw_p50 : lw_okq (⟨"TurnKeeperModel", "part", "(II)I"⟩, 38) := ⟨⟨by decide +kernel, by decide +kernel⟩, List.mem_of_getElem? (i := 967) (by decide +kernel), List.mem_of_getElem? (i := 1220) (by decide +kernel), List.mem_of_getElem? (i := 1221) (by decide +kernel)⟩
theorem lw_p51 : lw_okq (⟨"TurnKeeperModel", "with", "(III)Z"⟩, 38) := ⟨⟨by decide +kernel, by decide +kernel⟩, List.mem_of_getElem? (i := 967) (by decide +kernel), List.mem_of_getElem? (i := 1224) (by decide +kernel), List.mem_of_getElem? (i := 1225) (by decide +kernel)⟩
theorem lw_p52 : lw_okq (⟨"TurnKeeperModel", "fails", "(II)Z"⟩, 38) := ⟨⟨by decide +kernel, by decide +kernel⟩, List.mem_of_getElem? (i := 967) (by decide +kernel), List.mem_of_getElem? (i := 1231) (by decide +kernel), List.mem_of_getElem? (i := 1232) (by decide +kernel)⟩
theorem lw_p53 : lw_okq (⟨"TurnKeeperModel", "atLock", "(III)Z"⟩, 38) := ⟨⟨by decide +kernel, by decide +kernel⟩, List.mem_of_getElem? (i := 967) (by decide +kernel), List.mem_of_getElem? (i := 1235) (by decide +kernel), List.mem_of_getElem? (i := 1236) (by decide +kernel)⟩
theorem lw_p54 : lw_okq (⟨"TurnKeeperModel", "waitFor", "(II)V"⟩, 38) := ⟨⟨by decide +kernel, by decide +kernel⟩, List.mem_of_getElem? (i := 967) (by decide +kernel), List.mem_of_getElem? (i := 1239) (by decide +kernel), List.mem_of_getElem? (i := 1240) (by decide +kernel)⟩
theorem lw_p55 : lw_okq (⟨"TurnKeeperModel", "freed", "(I)V"⟩, 38) := ⟨⟨by decide +kernel, by decide +kernel⟩, List.mem_of_getElem? (i := 967) (by decide +kernel), List.mem_of_getElem? (i := 1243) (by decide +kernel), List.mem_of_getElem? (i := 1244) (by decide +kernel)⟩
theorem lw_p56 : lw_okq (⟨"TurnKeeperModel", "signalled", "(II)V"⟩, 38) := ⟨⟨by decide +kernel, by decide +kernel⟩, List.mem_of_getElem? (i := 967) (by decide +kernel), List.mem_of_getElem? (i := 1247) (by decide +kernel), List.mem_of_getElem? (i := 1248) (by decide +kernel)⟩
theorem lw_p57 : lw_okq (⟨"TurnKeeperModel", "atCell", "(III)Z"⟩, 38) := ⟨⟨by decide +kernel, by decide +kernel⟩, List.mem_of_getElem? (i := 967) (by decide +kernel), List.mem_of_getElem? (i := 1251) (by decide +kernel), List.mem_of_getElem? (i := 1252) (by decide +kernel)⟩
theorem lw_p58 : lw_okq (⟨"TurnKeeperModel", "atSemaphore", "(III)Z"⟩, 38) := ⟨⟨by decide +kernel, by decide +kernel⟩, List.mem_of_getElem? (i := 967) (by decide +kernel), List.mem_of_getElem? (i := 1255) (by decide +kernel), List.mem_of_getElem? (i := 1256) (by decide +kernel)⟩
theorem lw_p59 : lw_okq (⟨"TurnKeeperModel", "passes", "(II)Z"⟩, 38) := ⟨⟨by decide +kernel, by decide +kernel⟩, List.mem_of_getElem? (i := 967) (by decide +kernel), List.mem_of_getElem? (i := 1259) (by decide +kernel), List.mem_of_getElem? (i := 1260) (by decide +kernel)⟩
theorem lw_p60 : lw_okq (⟨"TurnKeeperModel", "firstGoesOn", "(I)I"⟩, 38) := ⟨⟨by decide +kernel, by decide +kernel⟩, List.mem_of_getElem? (i := 967) (by decide +kernel), List.mem_of_getElem? (i := 1263) (by decide +kernel), List.mem_of_getElem? (i := 1264) (by decide +kernel)⟩
theorem lw_p61 : lw_okq (⟨"TurnKeeperModel", "atGate", "(III)Z"⟩, 38) := ⟨⟨by decide +kernel, by decide +kernel⟩, List.mem_of_getElem? (i := 967) (by decide +kernel), List.mem_of_getElem? (i := 1267) (by decide +kernel), List.mem_of_getElem? (i := 1268) (by decide +kernel)⟩
theorem lw_p62 : lw_okq (⟨"TurnKeeperModel", "opened", "(I)V"⟩, 38) := ⟨⟨by decide +kernel, by decide +kernel⟩, List.mem_of_getElem? (i := 967) (by decide +kernel), List.mem_of_getElem? (i := 1271) (by decide +kernel), List.mem_of_getElem? (i := 1272) (by decide +kernel)⟩
theorem lw_p63 : lw_okq (⟨"TurnKeeperModel", "atQueue", "(III)Z"⟩, 38) := ⟨⟨by decide +kernel, by decide +kernel⟩, List.mem_of_getElem? (i := 967) (by decide +kernel), List.mem_of_getElem? (i := 1275) (by decide +kernel), List.mem_of_getElem? (i := 1276) (by decide +kernel)⟩
def lw_privs_4 : List (MethodName × Nat) := [(⟨"TurnKeeperModel", "leaves", "(II)V"⟩, 38), (⟨"TurnKeeperModel", "goesOn", "(I)V"⟩, 38), (⟨"TurnKeeperModel", "part", "(II)I"⟩, 38), (⟨"TurnKeeperModel", "with", "(III)Z"⟩, 38), (⟨"TurnKeeperModel", "fails", "(II)Z"⟩, 38), (⟨"TurnKeeperModel", "atLock", "(III)Z"⟩, 38), (⟨"TurnKeeperModel", "waitFor", "(II)V"⟩, 38), (⟨"TurnKeeperModel", "freed", "(I)V"⟩, 38), (⟨"TurnKeeperModel", "signalled", "(II)V"⟩, 38), (⟨"TurnKeeperModel", "atCell", "(III)Z"⟩, 38), (⟨"TurnKeeperModel", "atSemaphore", "(III)Z"⟩, 38), (⟨"TurnKeeperModel", "passes", "(II)Z"⟩, 38), (⟨"TurnKeeperModel", "firstGoesOn", "(I)I"⟩, 38), (⟨"TurnKeeperModel", "atGate", "(III)Z"⟩, 38), (⟨"TurnKeeperModel", "opened", "(I)V"⟩, 38), (⟨"TurnKeeperModel", "atQueue", "(III)Z"⟩, 38)]
theorem lw_r4 : ∀ q ∈ lw_privs_4, lw_okq q := List.forall_mem_cons.mpr ⟨lw_p48, List.forall_mem_cons.mpr ⟨lw_p49, List.forall_mem_cons.mpr ⟨lw_p50, List.forall_mem_cons.mpr ⟨lw_p51, List.forall_mem_cons.mpr ⟨lw_p52, List.forall_mem_cons.mpr ⟨lw_p53, List.forall_mem_cons.mpr ⟨lw_p54, List.forall_mem_cons.mpr ⟨lw_p55, List.forall_mem_cons.mpr ⟨lw_p56, List.forall_mem_cons.mpr ⟨lw_p57, List.forall_mem_cons.mpr ⟨lw_p58, List.forall_mem_cons.mpr ⟨lw_p59, List.forall_mem_cons.mpr ⟨lw_p60, List.forall_mem_cons.mpr ⟨lw_p61, List.forall_mem_cons.mpr ⟨lw_p62, List.forall_mem_cons.mpr ⟨lw_p63, fun _ h => absurd h List.not_mem_nil⟩⟩⟩⟩⟩⟩⟩⟩⟩⟩⟩⟩⟩⟩⟩⟩
theorem lw_p64 : lw_okq (⟨"TurnKeeperModel", "append", "(II)V"⟩, 38) := ⟨⟨by decide +kernel, by decide +kernel⟩, List.mem_of_getElem? (i := 967) (by decide +kernel), List.mem_of_getElem? (i := 1279) (by decide +kernel), List.mem_of_getElem? (i := 1280) (by decide +kernel)⟩
theorem lw_p65 : lw_okq (⟨"TurnKeeperModel", "ready", "()I"⟩, 38) := ⟨⟨by decide +kernel, by decide +kernel⟩, List.mem_of_getElem? (i := 967) (by decide +kernel), List.mem_of_getElem? (i := 1287) (by decide +kernel), List.mem_of_getElem? (i := 1288) (by decide +kernel)⟩
theorem lw_p66 : lw_okq (⟨"TurnKeeperModel", "nextOf", "(I)I"⟩, 38) := ⟨⟨by decide +kernel, by decide +kernel⟩, List.mem_of_getElem? (i := 967) (by decide +kernel), List.mem_of_getElem? (i := 1308) (by decide +kernel), List.mem_of_getElem? (i := 1309) (by decide +kernel)⟩
def lw_privs_5 : List (MethodName × Nat) := [(⟨"TurnKeeperModel", "append", "(II)V"⟩, 38), (⟨"TurnKeeperModel", "ready", "()I"⟩, 38), (⟨"TurnKeeperModel", "nextOf", "(I)I"⟩, 38)]
theorem lw_r5 : ∀ q ∈ lw_privs_5, lw_okq q := List.forall_mem_cons.mpr ⟨lw_p64, List.forall_mem_cons.mpr ⟨lw_p65, List.forall_mem_cons.mpr ⟨lw_p66, fun _ h => absurd h List.not_mem_nil⟩⟩⟩
def lw_privs : List (MethodName × Nat) := lw_privs_1 ++ (lw_privs_2 ++ (lw_privs_3 ++ (lw_privs_4 ++ (lw_privs_5))))
def lw_tbl : List Cond := k2_sels lw_privs ++ tables_1
theorem lw_privs_ok : ∀ q ∈ lw_privs, lw_okq q := by
  show ∀ q ∈ lw_privs_1 ++ (lw_privs_2 ++ (lw_privs_3 ++ (lw_privs_4 ++ (lw_privs_5)))), lw_okq q
  exact List.forall_mem_append.mpr ⟨lw_r1, List.forall_mem_append.mpr ⟨lw_r2, List.forall_mem_append.mpr ⟨lw_r3, List.forall_mem_append.mpr ⟨lw_r4, lw_r5⟩⟩⟩⟩
end
section
/-! ===== BEGIN words of one list among another's, by their places ===== -/
theorem goodIn_r {big : List Cond} (ws : List Cond) (ps : List Nat) (hp : ws = ps.filterMap (fun i => big[i]?)) (h : ws.all goodWord = true) : GoodIn big ws := by
  intro w hw
  have h1 := List.all_eq_true.mp h w hw
  rw [hp] at hw
  obtain ⟨i, -, hi⟩ := List.mem_filterMap.mp hw
  have hm : w ∈ big := by first | exact List.mem_of_getElem? hi | exact List.getElem?_mem hi
  exact ⟨hm, good_of_word h1⟩
theorem goodIn_app {big a b : List Cond} (ha : GoodIn big a) (hb : GoodIn big b) : GoodIn big (a ++ b) := fun w h => (List.mem_append.mp h).elim (ha w) (hb w)
theorem goodIn_ca {big a b : List Cond} {c : Cond} (ha : GoodIn big (c :: a)) (hb : GoodIn big b) : GoodIn big (c :: (a ++ b)) := fun w h => (List.mem_cons.mp h).elim (fun e => ha w (List.mem_cons.mpr (Or.inl e))) (fun h => (List.mem_append.mp h).elim (fun h => ha w (List.mem_cons.mpr (Or.inr h))) (hb w))
theorem goodIn_sub {big ws : List Cond} (hm : ∀ w ∈ ws, w ∈ big) (h : ws.all goodWord = true) : GoodIn big ws := fun w hw => ⟨hm w hw, good_of_word (List.all_eq_true.mp h w hw)⟩
/-! ===== END ===== -/

/-! ===== BEGIN exceptions that leave a method, and their catching by the caller (launches without stack traces) ===== -/
section VXA
/-! The laws vx_back, vx_callV, vx_callS, vx_callSW, vx_throw0, vx_throwS follow proofs of the library, with one case more: JvmDerived/Free/Laws.lean (Back.of_free), Shelf42/LK1.lean (callV, callS), Shelf/KitTraced.lean (throwNew0V, throwNewS). -/
/-- where a method has thrown q: the class by its name, the cell, what was written, the world -/
def vx_T (XC : String → State → State → Prop) (st : State) (q : Addr) (t : State) (mc ms : Nat) (free : Addr → Prop) : Prop :=
  ∃ (E : String) (ce : Cell) (L : List Loc), XC E st t ∧ t.heap[q]? = some ce ∧ ce.vm = .none ∧ st.vm.findClass E = some ce.cls ∧ st.WarmedH t.vm ∧ st.sameButNew ({ t with vm := st.vm } : State) L mc ms ∧ ∀ z ∈ L, free z.base
def vx_Q (Qc : Array Value → State → Outcome → State → Prop) (XC : String → State → State → Prop) (mc ms : Nat) (free : Addr → Prop) : Array Value → State → Outcome → State → Prop := fun a st o t =>
  (Qc a st o t ∧ ∃ L, FrameEnd st o t L mc ms ∧ ∀ q ∈ L, free q.base) ∨ ∃ q, o = .threw q ∧ vx_T XC st q t mc ms free
/-- a callee that returns or throws -/
def vx_Met (l : Launch) (y : MethodName) (ws : List Cond) (rm : Room) (Pc : Array Value → State → Prop) (Qc : Array Value → State → Outcome → State → Prop) (XC : String → State → State → Prop) (mc ms : Nat) (free : Addr → Prop) : Prop :=
  MetFree l y (headSpec ws rm) Pc (fun _ _ _ _ _ => True) (vx_Q Qc XC mc ms free)
def vx_Post (XC : String → State → State → Prop) (mc ms : Nat) (free : Addr → Prop) : Pt → Array Value → Addr → Pt → Prop := fun A a q B =>
  ∃ (g : JFrame) (mk : MethodId) (t : State) (L : List Loc) (E : String) (ce : Cell), B.U.heap = t.heap ∧ B.U.vm = t.vm ∧ XC E (A.U.calling g mk a) t ∧ t.heap[q]? = some ce ∧ ce.vm = .none ∧ A.U.vm.findClass E = some ce.cls ∧ B.locs = A.locs ++ L ∧ (∀ z ∈ L, free z.base) ∧ B.cells = A.cells + mc ∧ B.slots = A.slots + ms
def vx_Back (l : Launch) (R : Room) (p : Program) (e : Env) (below : List Frame) (s : State) (sargs : Array Value) (y : MethodName) (len W9 : Nat)
    (Pre : Pt → Array Value → Prop) (Post : Pt → Array Value → Option Value → Pt → Prop) (PostX : Pt → Array Value → Addr → Pt → Prop) : Prop :=
  ∀ (m : MethodId) (meth : Method) (c : Code) (A : Pt) (g : JFrame) (ig : Instr) (mk : MethodId) (a : Array Value),
    Stand p l e R s m sargs below meth c A.U A.locs A.cells A.slots → g.method = m → g.locals.size = c.maxLocals → decode c.code g.pc = .ok (ig, len) →
    2 * g.monitorRoom + (g.stack.map fun v => v.category).sum ≤ W9 → A.U.methodNamed? y = some mk → Pre A a →
    (∃ (v : Option Value) (B : Pt), Stand p l e R s m sargs below meth c B.U B.locs B.cells B.slots ∧ Post A a v B ∧
      Steps p.tables e below (doInvoke e (A.U.setTop g) [] mk a).1 (B.U.setTop { g with pc := g.pc + len, stack := v.toList ++ g.stack })) ∨
    (∃ (q : Addr) (B : Pt), Stand p l e R s m sargs below meth c B.U B.locs B.cells B.slots ∧ PostX A a q B ∧
      Steps p.tables e below (doInvoke e (A.U.setTop g) [] mk a).1 ((B.U.setTop g).pushFrame (.throwing q)))
section Payer
variable {l : Launch} {R : Room} {p : Program} {e : Env} {below : List Frame} {s : State} {sargs : Array Value} {y : MethodName} {len W9 : Nat}
theorem vx_back {ws : List Cond} {rm : Room} {Pc : Array Value → State → Prop} {Qc : Array Value → State → Outcome → State → Prop} {XC : String → State → State → Prop} {mc ms : Nat} {free : Addr → Prop} {bytes : ByteArray} {maxL : Nat} {ret : Option FieldType}
    (hM : vx_Met l y ws rm Pc Qc XC mc ms free) (hblind : FrameBlind Pc) (hrc : rm.cells = mc) (hrs : rm.slots = ms)
    (hframes : rm.frames + 1 ≤ R.frames) (hlocals : W9 + (maxL + 11) + rm.locals ≤ R.locals)
    (hws : ∀ w ∈ ws, ∀ a' U, s.WarmedH U.vm → w.before a' U = true) (hcode : Cond.code y bytes maxL ret ∈ ws) (hinit : ∀ a' U, s.WarmedH U.vm → (Cond.initialized y.cls).before a' U = true) :
    vx_Back l R p e below s sargs y len W9 (PreOf R mc ms Pc) (PostOf Qc mc ms free) (vx_Post XC mc ms free) := by
  intro m meth c A g ig mk a X hg hsize hdg hW hn hp
  have h1 : (headSpec ws rm).pre.before a A.U = true := atoms_intro fun w hw => hws w hw _ _ X.warmed
  have h2 : (Cond.code y bytes maxL ret).before a A.U = true := hws _ hcode _ _ X.warmed
  have h3 : (Cond.initialized y.cls).before a A.U = true := hinit _ _ X.warmed
  have h4 : A.cells + (headSpec ws rm).room.cells ≤ R.cells := by rw [show (headSpec ws rm).room.cells = mc from hrc]; exact hp.1
  have h5 : A.slots + (headSpec ws rm).room.slots ≤ R.slots := by rw [show (headSpec ws rm).room.slots = ms from hrs]; exact hp.2.1
  have hPc : Pc a (A.U.calling g mk a) := hblind _ _ _ _ hp.2.2
  obtain ⟨U, Ls, c0, s0⟩ := A
  dsimp only [Pt.U, Pt.locs, Pt.cells, Pt.slots] at h1 h2 h3 h4 h5 X hn hPc ⊢
  obtain ⟨methY, cY, hmY, hcY, -, hlY, -, -, -, -⟩ := Cond.code_spec hn h2
  obtain ⟨kY, hkY, -⟩ := className_of_methodNamed hn
  have hinitY : kY.init = .initialized := Cond.initialized_spec (findClass_of_methodNamed hn) hkY h3
  have h : At U g.method c below := by rw [hg]; exact X.here
  have hlocals9 : W9 + (maxL + 11) + (headSpec ws rm).room.locals ≤ R.locals := hlocals
  have happ : (headSpec ws rm).appliesLoose y e.platform (U.calling g mk a) = true :=
    Spec.appliesLoose_calling (g := g) h hdg hn hkY hinitY
      (X.room_calling (g := g) (R' := (headSpec ws rm).room) hsize hmY hcY hframes (by rw [hlY]; omega) h4 h5) h1
  obtain ⟨mid, hmid⟩ := h.above
  have hfr : (U.setTop g).frames = (.java g :: mid) ++ below := by rw [State.frames_setTop' g h.top, hmid]; rfl
  obtain ⟨o, s₂, hsteps, -, hend, hq⟩ := Steps.callFree hM p X.admits X.cas X.clock (acts := []) hfr happ hPc trivial
  have hq' : vx_Q Qc XC mc ms free a (U.calling g mk a) o s₂ := hq
  rw [State.frames_setTop' g h.top] at hend
  obtain ⟨g₀, hg0⟩ := Option.isSome_iff_exists.mp h.top
  obtain ⟨r, hr⟩ := State.topJava?_eq_some.mp hg0
  have hr' : (({ U with heap := s₂.heap, slotsUsed := s₂.slotsUsed } : State).setVm s₂.vm).frames = .java g₀ :: r := hr
  rcases hq' with ⟨hqc, L, hfe, hL⟩ | ⟨q, rfl, E, ce, L, hx, hce, hcv, hcl, hW₂, hsm, hL⟩
  · obtain ⟨⟨v, rfl⟩, hW₂, e2, q2, q3, q4, q5, q6⟩ := id hfe
    have e3 : s₂ = ({ (U.calling g mk a).setFrames s₂.frames with heap := s₂.heap, slotsUsed := s₂.slotsUsed } : State).setVm s₂.vm := by
      have : s₂ = ({ s₂ with vm := (U.calling g mk a).vm } : State).setVm s₂.vm := rfl
      rw [e2] at this
      exact this
    obtain ⟨c₂, i₂, len₂, hc₂, hd₂, hf₂⟩ := hend
    have hW' : U.WarmedH s₂.vm := hW₂
    have hcc : c₂ = c := by
      have h1 : s₂.code? g.method = U.code? g.method := by
        rw [State.code?_eq, State.code?_eq, hW'.alike.method?]
      exact Option.some.inj (hc₂.symm.trans (h1.trans h.code))
    subst hcc
    have hlen : len₂ = len := by rw [hdg] at hd₂; cases hd₂; rfl
    subst hlen
    have hs₂ : s₂ = (({ U with heap := s₂.heap, slotsUsed := s₂.slotsUsed } : State).setVm s₂.vm).setTop { g with pc := g.pc + len₂, stack := v.toList ++ g.stack } := by
      refine e3.trans ?_
      rw [hf₂, State.calling_eq h.top, State.setFrames_setFrames, State.setTop_of_frames _ hr', hr]
      rfl
    have hsame : U.sameButNew ({ U with heap := s₂.heap, slotsUsed := s₂.slotsUsed } : State) L mc ms := by
      refine ⟨?_, q2, q3, q4, q5, q6⟩
      obtain ⟨t, ht, -⟩ := State.frames_cons hr
      show ({ U with heap := s₂.heap, slotsUsed := s₂.slotsUsed } : State) = { U.setFrames U.frames with heap := s₂.heap, slotsUsed := s₂.slotsUsed }
      rw [State.setFrames_self ht]
    subst hg
    refine Or.inl ⟨v, ⟨(({ U with heap := s₂.heap, slotsUsed := s₂.slotsUsed } : State).setVm s₂.vm), Ls ++ L, c0 + mc, s0 + ms⟩,
      ⟨X.admits, X.cas, X.clock, X.frames, X.room, X.hears, X.method, X.code, (X.here.setHeapUsed s₂.heap s₂.slotsUsed).setVm hW'.alike, X.tail, State.WarmedH.trans X.warmed hW', X.limits, X.bytes, X.same.trans (hsame.setVm s.vm)⟩,
      ⟨g, mk, s₂, L, rfl, rfl, hqc, rfl, hL, rfl, rfl⟩, ?_⟩
    show Steps p.tables e below _ ((({ U with heap := s₂.heap, slotsUsed := s₂.slotsUsed } : State).setVm s₂.vm).setTop { g with pc := g.pc + len₂, stack := v.toList ++ g.stack })
    rw [← hs₂]
    exact hsteps
  · obtain ⟨e2, q2, q3, q4, q5, q6⟩ := id hsm
    have e3 : s₂ = ({ (U.calling g mk a).setFrames s₂.frames with heap := s₂.heap, slotsUsed := s₂.slotsUsed } : State).setVm s₂.vm := by
      have : s₂ = ({ s₂ with vm := (U.calling g mk a).vm } : State).setVm s₂.vm := rfl
      rw [e2] at this
      exact this
    have hf₂ : s₂.frames = .throwing q :: .java g :: U.frames.tail := hend
    have hW' : U.WarmedH s₂.vm := hW₂
    have hs₂ : s₂ = ((({ U with heap := s₂.heap, slotsUsed := s₂.slotsUsed } : State).setVm s₂.vm).setTop g).pushFrame (.throwing q) := by
      refine e3.trans ?_
      rw [hf₂, State.calling_eq h.top, State.setFrames_setFrames, State.pushFrame, State.frames_setTop _ hr', State.setTop_of_frames _ hr', State.setFrames_setFrames, hr]
      rfl
    have hsame : U.sameButNew ({ U with heap := s₂.heap, slotsUsed := s₂.slotsUsed } : State) L mc ms := by
      refine ⟨?_, q2, q3, q4, q5, q6⟩
      obtain ⟨t, ht, -⟩ := State.frames_cons hr
      show ({ U with heap := s₂.heap, slotsUsed := s₂.slotsUsed } : State) = { U.setFrames U.frames with heap := s₂.heap, slotsUsed := s₂.slotsUsed }
      rw [State.setFrames_self ht]
    subst hg
    refine Or.inr ⟨q, ⟨(({ U with heap := s₂.heap, slotsUsed := s₂.slotsUsed } : State).setVm s₂.vm), Ls ++ L, c0 + mc, s0 + ms⟩,
      ⟨X.admits, X.cas, X.clock, X.frames, X.room, X.hears, X.method, X.code, (X.here.setHeapUsed s₂.heap s₂.slotsUsed).setVm hW'.alike, X.tail, State.WarmedH.trans X.warmed hW', X.limits, X.bytes, X.same.trans (hsame.setVm s.vm)⟩,
      ⟨g, mk, s₂, L, E, ce, rfl, rfl, hx, hce, hcv, hcl, rfl, hL, rfl, rfl⟩, ?_⟩
    show Steps p.tables e below _ (((({ U with heap := s₂.heap, slotsUsed := s₂.slotsUsed } : State).setVm s₂.vm).setTop g).pushFrame (.throwing q))
    rw [← hs₂]
    exact hsteps
end Payer
section Calls
variable {p : Program} {l : Launch} {e : Env} {R : Room} {s : State} {m : MethodId} {args : Array Value} {below : List Frame} {meth : Method} {c : Code} {T : State} {locs : List Loc} {cells slots : Nat}
theorem vx_callV (X : Stand p l e R s m args below meth c T locs cells slots) (hexec : p.tables.exec = Jvm.exec) {own C : String} {index : Nat} {y : MethodName} {bytes : ByteArray} {maxL : Nat} {ret : Option FieldType}
    (hown : s.vm.findClass own = some m.cls) (hlink : (Cond.methodLink own index y).before args s = true) (hinst : (Cond.instanceMethod y).before args s = true) (hsel : (Cond.selects C y y).before args s = true)
    (hcode : (Cond.code y bytes maxL ret).before args s = true) (hy : y.cls ≠ "java/lang/invoke/MethodHandle" ∧ y.cls ≠ "java/lang/invoke/VarHandle")
    {W9 : Nat} {Pre : Pt → Array Value → Prop} {Post : Pt → Array Value → Option Value → Pt → Prop} {PostX : Pt → Array Value → Addr → Pt → Prop} (hK : vx_Back l R p e below s args y 3 W9 Pre Post PostX)
    {b : Addr} {cellB : Cell} (hcell : T.heap[b]? = some cellB) (hobj : cellB.vm.isStatics = false) (hcls : s.vm.findClass C = some cellB.cls)
    {g : JFrame} (hg : g.method = m) (hsize : g.locals.size = c.maxLocals) {argsL rest : List Value} (hlen : ∀ sig, parseMethodDescriptor y.desc = some sig → argsL.length = sig.parameters.length)
    (hstack : g.stack = argsL.reverse ++ .ref b :: rest) (hW : 2 * g.monitorRoom + (rest.map fun v => v.category).sum ≤ W9) (hdg : decode c.code g.pc = .ok (.invokevirtual index, 3))
    (hpre : ∀ vm₁, s.WarmedH vm₁ → Pre ⟨T.setVm vm₁, locs, cells, slots⟩ (Value.ref b :: argsL).toArray) :
    (∃ (v : Option Value) (vm₁ : Vm) (B : Pt), s.WarmedH vm₁ ∧ Stand p l e R s m args below meth c B.U B.locs B.cells B.slots ∧ Post ⟨T.setVm vm₁, locs, cells, slots⟩ (Value.ref b :: argsL).toArray v B ∧
      ∀ target, Steps p.tables e below (B.U.setTop { g with pc := g.pc + 3, stack := v.toList ++ rest }) target → Steps p.tables e below (T.setTop g) target) ∨
    (∃ (q : Addr) (vm₁ : Vm) (B : Pt), s.WarmedH vm₁ ∧ Stand p l e R s m args below meth c B.U B.locs B.cells B.slots ∧ PostX ⟨T.setVm vm₁, locs, cells, slots⟩ (Value.ref b :: argsL).toArray q B ∧
      Steps p.tables e below (T.setTop g) ((B.U.setTop { g with stack := rest }).pushFrame (.throwing q))) := by
  obtain ⟨mk, methM, hnamed, hmethM, hstM, habM⟩ := Cond.instanceMethod_spec hinst
  obtain ⟨methM', cM, hmethM', -, -, -, -, -, -, hsigM⟩ := Cond.code_spec hnamed hcode
  cases hmethM.symm.trans hmethM'
  obtain ⟨c2, r2, m2, q1, q2, q3, q4, kP, hkP, hkPi⟩ := Cond.selects_spec hsel
  cases hcls.symm.trans q1
  cases (State.methodFound?_of_named hnamed hy).symm.trans q2
  cases hnamed.symm.trans q3
  have hselP : selectMethod e.platform s.vm cellB.cls mk = .method mk := by rw [Launch.admits_selectMethod X.admits]; exact q4
  obtain ⟨vm₁, X₁, hstep₁⟩ := X.invokevirtual hexec hown hlink hnamed hmethM hstM hkP hkPi hy (a := b) (cell := cellB) hcell
    (fun z h => by rw [h] at hobj; cases hobj) hselP hmethM habM hkP hkPi (g := g) hg (argsL := argsL) (rest := rest) (hlen _ hsigM) hstack hdg
  rcases hK m meth c ⟨T.setVm vm₁, locs, cells, slots⟩ { g with stack := rest } (.invokevirtual index) mk (Value.ref b :: argsL).toArray X₁ hg hsize hdg hW (X₁.named hnamed) (hpre vm₁ X₁.warmed) with ⟨v, B, X', hpost, hsteps⟩ | ⟨q, B, X', hpost, hsteps⟩
  · exact Or.inl ⟨v, vm₁, B, X₁.warmed, X', hpost, fun target h => hstep₁ _ fun acts => by rw [doInvoke_state]; exact hsteps.trans h⟩
  · exact Or.inr ⟨q, vm₁, B, X₁.warmed, X', hpost, hstep₁ _ fun acts => by rw [doInvoke_state]; exact hsteps⟩
theorem vx_callS (X : Stand p l e R s m args below meth c T locs cells slots) (hexec : p.tables.exec = Jvm.exec) {own : String} {index : Nat} {y : MethodName} {bytes : ByteArray} {maxL : Nat} {ret : Option FieldType}
    (hown : s.vm.findClass own = some m.cls) (hlink : (Cond.methodLink own index y).before args s = true) (hstat : (Cond.static y).before args s = true) (hinit : (Cond.initialized y.cls).before args s = true)
    (hcode : (Cond.code y bytes maxL ret).before args s = true) (hy : y.cls ≠ "java/lang/invoke/MethodHandle" ∧ y.cls ≠ "java/lang/invoke/VarHandle")
    {W9 : Nat} {Pre : Pt → Array Value → Prop} {Post : Pt → Array Value → Option Value → Pt → Prop} {PostX : Pt → Array Value → Addr → Pt → Prop} (hK : vx_Back l R p e below s args y 3 W9 Pre Post PostX)
    {g : JFrame} (hg : g.method = m) (hsize : g.locals.size = c.maxLocals) {argsL rest : List Value} (hlen : ∀ sig, parseMethodDescriptor y.desc = some sig → argsL.length = sig.parameters.length)
    (hstack : g.stack = argsL.reverse ++ rest) (hW : 2 * g.monitorRoom + (rest.map fun v => v.category).sum ≤ W9) (hdg : decode c.code g.pc = .ok (.invokestatic index, 3))
    (hpre : ∀ vm₁, s.WarmedH vm₁ → Pre ⟨T.setVm vm₁, locs, cells, slots⟩ argsL.toArray) :
    (∃ (v : Option Value) (vm₁ : Vm) (B : Pt), s.WarmedH vm₁ ∧ Stand p l e R s m args below meth c B.U B.locs B.cells B.slots ∧ Post ⟨T.setVm vm₁, locs, cells, slots⟩ argsL.toArray v B ∧
      ∀ target, Steps p.tables e below (B.U.setTop { g with pc := g.pc + 3, stack := v.toList ++ rest }) target → Steps p.tables e below (T.setTop g) target) ∨
    (∃ (q : Addr) (vm₁ : Vm) (B : Pt), s.WarmedH vm₁ ∧ Stand p l e R s m args below meth c B.U B.locs B.cells B.slots ∧ PostX ⟨T.setVm vm₁, locs, cells, slots⟩ argsL.toArray q B ∧
      Steps p.tables e below (T.setTop g) ((B.U.setTop { g with stack := rest }).pushFrame (.throwing q))) := by
  obtain ⟨mk, hnamed⟩ := Cond.code_named hcode
  obtain ⟨methM, cM, hmethM, -, -, -, -, -, -, hsigM⟩ := Cond.code_spec hnamed hcode
  have hstatic : methM.isStatic = true := Cond.static_spec hnamed hmethM hstat
  obtain ⟨kP, hkP, -⟩ := className_of_methodNamed hnamed
  have hinitP : kP.init = .initialized := Cond.initialized_spec (findClass_of_methodNamed hnamed) hkP hinit
  obtain ⟨vm₁, X₁, hstep₁⟩ := X.invokestatic hexec hown hlink hnamed hmethM hstatic hkP hinitP hy (g := g) hg (argsL := argsL) (rest := rest) (hlen _ hsigM) hstack hdg
  rcases hK m meth c ⟨T.setVm vm₁, locs, cells, slots⟩ { g with stack := rest } (.invokestatic index) mk argsL.toArray X₁ hg hsize hdg hW (X₁.named hnamed) (hpre vm₁ X₁.warmed) with ⟨v, B, X', hpost, hsteps⟩ | ⟨q, B, X', hpost, hsteps⟩
  · exact Or.inl ⟨v, vm₁, B, X₁.warmed, X', hpost, fun target h => hstep₁ _ fun acts => by rw [doInvoke_state]; exact hsteps.trans h⟩
  · exact Or.inr ⟨q, vm₁, B, X₁.warmed, X', hpost, hstep₁ _ fun acts => by rw [doInvoke_state]; exact hsteps⟩
end Calls
theorem vx_cls {s : State} {T : State} {vm₁ : Vm} {E : String} {k : ClassId} (hW : s.WarmedH vm₁) (h : (T.setVm vm₁).vm.findClass E = some k) : s.vm.findClass E = some k := by
  have h1 : vm₁.findClass E = some k := h
  rw [hW.alike.findClass] at h1
  exact h1
/-- the method's frame g, with q thrown over it -/
def vx_W (p : Program) (l : Launch) (e : Env) (R : Room) (s : State) (m : MethodId) (args : Array Value) (below : List Frame) (meth : Method) (c : Code) (H : Heap) (locs : List Loc) (cells slots : Nat) (Q : State → Prop) (g : JFrame) (q : Addr) : Prop :=
  ∀ T : State, T.heap = H → Stand p l e R s m args below meth c T locs cells slots → ∃ t, Steps p.tables e below ((T.setTop g).pushFrame (.throwing q)) t ∧ Q t
def vx_Run (p : Program) (l : Launch) (e : Env) (R : Room) (s : State) (m : MethodId) (args : Array Value) (below : List Frame) (meth : Method) (c : Code) (H : Heap) (locs : List Loc) (cells slots mc ms : Nat) (g : JFrame) (rest : List Value) (Qa : State → Outcome → State → Prop) (XC : String → State → State → Prop) (free : Addr → Prop) : Prop :=
  ∀ T : State, T.heap = H → Stand p l e R s m args below meth c T locs cells slots →
    (∃ (v : Option Value) (st₀ t T' : State) (L : List Loc), st₀.heap = H ∧ Stand p l e R s m args below meth c T' (locs ++ L) (cells + mc) (slots + ms) ∧ (∀ q ∈ L, free q.base) ∧ T'.heap = t.heap ∧ T'.vm = t.vm ∧ Qa st₀ (.returned v) t ∧
      Goes p e below T g T' { g with pc := g.pc + 3, stack := v.toList ++ rest }) ∨
    (∃ (q : Addr) (st₀ t T' : State) (L : List Loc) (E : String) (ce : Cell), st₀.heap = H ∧ Stand p l e R s m args below meth c T' (locs ++ L) (cells + mc) (slots + ms) ∧ (∀ z ∈ L, free z.base) ∧ T'.heap = t.heap ∧ T'.vm = t.vm ∧ XC E st₀ t ∧ t.heap[q]? = some ce ∧ ce.vm = .none ∧ s.vm.findClass E = some ce.cls ∧
      Steps p.tables e below (T.setTop g) ((T'.setTop { g with stack := rest }).pushFrame (.throwing q)))
def vx_X {S : Type} (px : S → Prop) (B : String → S → State → Prop) (A : Nat → Prop) : String → State → State → Prop := fun E st t => ∃ u : S, px u ∧ B E u t ∧ va_F A st t
section Runs
variable {p : Program} {l : Launch} {e : Env} {R : Room} {s : State} {m : MethodId} {args : Array Value} {below : List Frame} {meth : Method} {c : Code} {H : Heap} {locs : List Loc} {cells slots : Nat}
variable {y : MethodName} {bytes cc : ByteArray} {maxL nL mc ms n index : Nat} {ret : Option FieldType} {ws : List Cond} {rm : Room} {Pc : Array Value → State → Prop} {Qc : Array Value → State → Outcome → State → Prop} {XC : String → State → State → Prop} {free : Addr → Prop} {Ts : List Cond} {own C : String} {b : Addr} {As rest : List Value} {g : JFrame}
theorem vx_callBack (cb : CallB R s args own index y bytes maxL ret ws rm mc ms n) (hM : vx_Met l y ws rm Pc Qc XC mc ms free) (hbl : FrameBlind Pc) : vx_Back l R p e below s args y 3 8 (PreOf R mc ms Pc) (PostOf Qc mc ms free) (vx_Post XC mc ms free) := by
  obtain ⟨hrc, hrs, hfr, hlo, hws, hcw, -, hini, -⟩ := cb
  exact vx_back (bytes := bytes) (maxL := maxL) (ret := ret) hM hbl hrc hrs hfr hlo hws hcw (fun a' U hW => word_at hW (Or.inl (by first | rfl | simp [Cond.onTables, Cond.keeps, Cond.steady])) hini)
theorem vx_runV (S : CallFix p m c cc nL s args Ts own) (hM : vx_Met l y ws rm Pc Qc XC mc ms free) (cw : CallW R s args own C index y bytes maxL ret ws rm mc ms n) (hp : PreV s H C b Pc As)
    (hg : g.method = m) (hn : As.length = n) (hsize : g.locals.size = nL) (hstack : g.stack = As.reverse ++ .ref b :: rest) (hW : 2 * g.monitorRoom + (rest.map fun v => v.category).sum ≤ 8) (hdg : decode cc g.pc = .ok (.invokevirtual index, 3)) (hf : cells + mc ≤ R.cells ∧ slots + ms ≤ R.slots) :
    vx_Run p l e R s m args below meth c H locs cells slots mc ms g rest (Qc (Value.ref b :: As).toArray) XC free := by
  have hK : vx_Back l R p e below s args y 3 8 (PreOf R mc ms Pc) (PostOf Qc mc ms free) (vx_Post XC mc ms free) := vx_callBack cw.1 hM hp.1
  obtain ⟨⟨-, -, -, -, -, -, hcode, -, hy, hlen, hl⟩, hin, hse⟩ := cw
  obtain ⟨hx, hb, hml, ho, -⟩ := S
  obtain ⟨-, ⟨cellB, hcB, hoB, hclB⟩, hPc⟩ := hp
  intro T hT X
  rcases vx_callV X hx (C := C) (bytes := bytes) (maxL := maxL) (ret := ret) ho hl hin hse hcode hy hK (by rw [hT]; exact hcB) hoB hclB hg (hsize.trans hml.symm) (argsL := As) (rest := rest) (fun sig h => hn.trans (hlen sig h)) hstack hW (by rw [hb]; exact hdg)
    (fun vm₁ hW₁ => ⟨hf.1, hf.2, hPc (T.setVm vm₁) hT hW₁⟩) with ⟨v, vm₁, ⟨U', l2, c2, s2⟩, hW₁, X', ⟨g', mk, t, L, e1, e2, hq, h1, hL, h2, h3⟩, st⟩ | ⟨q, vm₁, ⟨U', l2, c2, s2⟩, hW₁, X', ⟨g', mk, t, L, E, ce, e1, e2, hq, hce, hcv, hcl, h1, hL, h2, h3⟩, st⟩
  · dsimp only [Pt.U, Pt.locs, Pt.cells, Pt.slots] at X' e1 e2 h1 h2 h3 st
    subst h1; subst h2; subst h3
    exact Or.inl ⟨v, (T.setVm vm₁).calling g' mk (Value.ref b :: As).toArray, t, U', L, hT, X', hL, e1, e2, hq, st⟩
  · dsimp only [Pt.U, Pt.locs, Pt.cells, Pt.slots] at X' e1 e2 h1 h2 h3 st hcl
    subst h1; subst h2; subst h3
    exact Or.inr ⟨q, (T.setVm vm₁).calling g' mk (Value.ref b :: As).toArray, t, U', L, E, ce, hT, X', hL, e1, e2, hq, hce, hcv, vx_cls hW₁ hcl, st⟩
theorem vx_runS (S : CallFix p m c cc nL s args Ts own) (hM : vx_Met l y ws rm Pc Qc XC mc ms free) (cw : CallB R s args own index y bytes maxL ret ws rm mc ms n ∧ (Cond.static y).before args s = true) (hp : PreS s H Pc As)
    (hg : g.method = m) (hn : As.length = n) (hsize : g.locals.size = nL) (hstack : g.stack = As.reverse ++ rest) (hW : 2 * g.monitorRoom + (rest.map fun v => v.category).sum ≤ 8) (hdg : decode cc g.pc = .ok (.invokestatic index, 3)) (hf : cells + mc ≤ R.cells ∧ slots + ms ≤ R.slots) :
    vx_Run p l e R s m args below meth c H locs cells slots mc ms g rest (Qc As.toArray) XC free := by
  have hK : vx_Back l R p e below s args y 3 8 (PreOf R mc ms Pc) (PostOf Qc mc ms free) (vx_Post XC mc ms free) := vx_callBack cw.1 hM hp.1
  obtain ⟨⟨-, -, -, -, -, -, hcode, hini, hy, hlen, hl⟩, hstt⟩ := cw
  obtain ⟨hx, hb, hml, ho, -⟩ := S
  intro T hT X
  rcases vx_callS X hx (bytes := bytes) (maxL := maxL) (ret := ret) ho hl hstt hini hcode hy hK hg (hsize.trans hml.symm) (argsL := As) (rest := rest) (fun sig h => hn.trans (hlen sig h)) hstack hW (by rw [hb]; exact hdg)
    (fun vm₁ hW₁ => ⟨hf.1, hf.2, hp.2 (T.setVm vm₁) hT hW₁⟩) with ⟨v, vm₁, ⟨U', l2, c2, s2⟩, hW₁, X', ⟨g', mk, t, L, e1, e2, hq, h1, hL, h2, h3⟩, st⟩ | ⟨q, vm₁, ⟨U', l2, c2, s2⟩, hW₁, X', ⟨g', mk, t, L, E, ce, e1, e2, hq, hce, hcv, hcl, h1, hL, h2, h3⟩, st⟩
  · dsimp only [Pt.U, Pt.locs, Pt.cells, Pt.slots] at X' e1 e2 h1 h2 h3 st
    subst h1; subst h2; subst h3
    exact Or.inl ⟨v, (T.setVm vm₁).calling g' mk As.toArray, t, U', L, hT, X', hL, e1, e2, hq, st⟩
  · dsimp only [Pt.U, Pt.locs, Pt.cells, Pt.slots] at X' e1 e2 h1 h2 h3 st hcl
    subst h1; subst h2; subst h3
    exact Or.inr ⟨q, (T.setVm vm₁).calling g' mk As.toArray, t, U', L, E, ce, hT, X', hL, e1, e2, hq, hce, hcv, vx_cls hW₁ hcl, st⟩
end Runs
section Rows
variable {p : Program} {l : Launch} {e : Env} {R : Room} {s : State} {m : MethodId} {args : Array Value} {below : List Frame} {meth : Method} {c : Code} {H : Heap} {locs : List Loc} {cells slots : Nat} {Q : State → Prop}
variable {mc ms : Nat} {free : Addr → Prop} {A0 A1 : Nat → Prop} {H0 : Heap} {a : Array Value} {pc : Nat} {ls : Array Slot} {st0 rest : List Value}
theorem vx_keep {st₀ t T' : State} {L : List Loc} (h0 : st₀.heap = H) (e1 : T'.heap = t.heap) (hS : va_S A0 H0 H locs) (hA : ∀ q, q < H.size → A1 q → A0 q) (hf : ∀ q, free q → A0 q) (hL : ∀ q ∈ L, free q.base) (hF : va_F A1 st₀ t) :
    H.size ≤ T'.heap.size ∧ (∀ q : Nat, q < H.size → ¬ A1 q → T'.heap[q]? = H[q]?) ∧ va_S A0 H0 T'.heap (locs ++ L) := by
  obtain ⟨hz, hk⟩ := hF
  rw [h0] at hz hk
  exact ⟨by rw [e1]; exact hz, fun q h1 h2 => by rw [e1]; exact hk q h1 h2,
    ⟨Nat.le_trans hS.1 (by rw [e1]; exact hz), fun q h1 h2 => by rw [e1, hk q (Nat.lt_of_lt_of_le h1 hS.1) (fun z => h2 (hA q (Nat.lt_of_lt_of_le h1 hS.1) z))]; exact hS.2.1 q h1 h2, fun q hq => by
      rcases List.mem_append.mp hq with h | h
      · exact hS.2.2 q h
      · exact hf _ (hL q h)⟩⟩
theorem vx_calli {S SX : Type} {post : Int32 → S → Prop} {px : SX → Prop} {B : S → State → Prop} {BX : String → SX → State → Prop} {AX : Nat → Prop} (hr : vx_Run p l e R s m args below meth c H locs cells slots mc ms (F0 m pc ls st0) rest (va_Qi post B A1 a) (vx_X px BX AX) free) (hS : va_S A0 H0 H locs) (hA : ∀ q, q < H.size → A1 q → A0 q) (hf : ∀ q, free q → A0 q) (hAX : ∀ q, q < H.size → AX q → A0 q)
    (kx : ∀ (E : String) (ce : Cell) (q9 : Addr) (u : SX) (t : State) (H1 : Heap) (locs1 : List Loc), t.heap = H1 → s.vm.Alike t.vm → px u → BX E u t → H.size ≤ H1.size → (∀ q : Nat, q < H.size → ¬ AX q → H1[q]? = H[q]?) → va_S A0 H0 H1 locs1 → H1[q9]? = some ce → ce.vm = .none → s.vm.findClass E = some ce.cls → vx_W p l e R s m args below meth c H1 locs1 (cells + mc) (slots + ms) Q (F0 m pc ls rest) q9)
    (kk : ∀ (r : Int32) (u : S) (t : State) (H1 : Heap) (locs1 : List Loc), t.heap = H1 → s.vm.Alike t.vm → post r u → B u t → H.size ≤ H1.size → (∀ q : Nat, q < H.size → ¬ A1 q → H1[q]? = H[q]?) → va_S A0 H0 H1 locs1 → W p l e R s m args below meth c H1 locs1 (cells + mc) (slots + ms) Q (F0 m (pc + 3) ls (.int r :: rest))) : W p l e R s m args below meth c H locs cells slots Q (F0 m pc ls st0) := by
  intro T hT X
  rcases hr T hT X with ⟨v, st₀, t, T', L, h0, X', hL, e1, e2, ⟨⟨r, u, hv, hp, hb⟩, hF⟩, st⟩ | ⟨q, st₀, t, T', L, E, ce, h0, X', hL, e1, e2, ⟨u, hp, hb, hF⟩, hce, hcv, hcl, st⟩
  · cases hv
    obtain ⟨k1, k2, k3⟩ := vx_keep h0 e1 hS hA hf hL hF
    obtain ⟨t2, a1, b1⟩ := kk r u t T'.heap (locs ++ L) e1.symm (by rw [← e2]; exact X'.warmed.alike) hp hb k1 k2 k3 T' rfl X'
    exact ⟨t2, st t2 a1, b1⟩
  · obtain ⟨k1, k2, k3⟩ := vx_keep h0 e1 hS hAX hf hL hF
    obtain ⟨t2, a1, b1⟩ := kx E ce q u t T'.heap (locs ++ L) e1.symm (by rw [← e2]; exact X'.warmed.alike) hp hb k1 k2 k3 (by rw [e1]; exact hce) hcv hcl T' rfl X'
    exact ⟨t2, st.trans a1, b1⟩
theorem vx_calll {S SX : Type} {post : Int64 → S → Prop} {px : SX → Prop} {B : S → State → Prop} {BX : String → SX → State → Prop} {AX : Nat → Prop} (hr : vx_Run p l e R s m args below meth c H locs cells slots mc ms (F0 m pc ls st0) rest (va_Ql post B A1 a) (vx_X px BX AX) free) (hS : va_S A0 H0 H locs) (hA : ∀ q, q < H.size → A1 q → A0 q) (hf : ∀ q, free q → A0 q) (hAX : ∀ q, q < H.size → AX q → A0 q)
    (kx : ∀ (E : String) (ce : Cell) (q9 : Addr) (u : SX) (t : State) (H1 : Heap) (locs1 : List Loc), t.heap = H1 → s.vm.Alike t.vm → px u → BX E u t → H.size ≤ H1.size → (∀ q : Nat, q < H.size → ¬ AX q → H1[q]? = H[q]?) → va_S A0 H0 H1 locs1 → H1[q9]? = some ce → ce.vm = .none → s.vm.findClass E = some ce.cls → vx_W p l e R s m args below meth c H1 locs1 (cells + mc) (slots + ms) Q (F0 m pc ls rest) q9)
    (kk : ∀ (r : Int64) (u : S) (t : State) (H1 : Heap) (locs1 : List Loc), t.heap = H1 → s.vm.Alike t.vm → post r u → B u t → H.size ≤ H1.size → (∀ q : Nat, q < H.size → ¬ A1 q → H1[q]? = H[q]?) → va_S A0 H0 H1 locs1 → W p l e R s m args below meth c H1 locs1 (cells + mc) (slots + ms) Q (F0 m (pc + 3) ls (.long r :: rest))) : W p l e R s m args below meth c H locs cells slots Q (F0 m pc ls st0) := by
  intro T hT X
  rcases hr T hT X with ⟨v, st₀, t, T', L, h0, X', hL, e1, e2, ⟨⟨r, u, hv, hp, hb⟩, hF⟩, st⟩ | ⟨q, st₀, t, T', L, E, ce, h0, X', hL, e1, e2, ⟨u, hp, hb, hF⟩, hce, hcv, hcl, st⟩
  · cases hv
    obtain ⟨k1, k2, k3⟩ := vx_keep h0 e1 hS hA hf hL hF
    obtain ⟨t2, a1, b1⟩ := kk r u t T'.heap (locs ++ L) e1.symm (by rw [← e2]; exact X'.warmed.alike) hp hb k1 k2 k3 T' rfl X'
    exact ⟨t2, st t2 a1, b1⟩
  · obtain ⟨k1, k2, k3⟩ := vx_keep h0 e1 hS hAX hf hL hF
    obtain ⟨t2, a1, b1⟩ := kx E ce q u t T'.heap (locs ++ L) e1.symm (by rw [← e2]; exact X'.warmed.alike) hp hb k1 k2 k3 (by rw [e1]; exact hce) hcv hcl T' rfl X'
    exact ⟨t2, st.trans a1, b1⟩
theorem vx_callf {S SX : Type} {post : UInt32 → S → Prop} {px : SX → Prop} {B : S → State → Prop} {BX : String → SX → State → Prop} {AX : Nat → Prop} (hr : vx_Run p l e R s m args below meth c H locs cells slots mc ms (F0 m pc ls st0) rest (va_Qf post B A1 a) (vx_X px BX AX) free) (hS : va_S A0 H0 H locs) (hA : ∀ q, q < H.size → A1 q → A0 q) (hf : ∀ q, free q → A0 q) (hAX : ∀ q, q < H.size → AX q → A0 q)
    (kx : ∀ (E : String) (ce : Cell) (q9 : Addr) (u : SX) (t : State) (H1 : Heap) (locs1 : List Loc), t.heap = H1 → s.vm.Alike t.vm → px u → BX E u t → H.size ≤ H1.size → (∀ q : Nat, q < H.size → ¬ AX q → H1[q]? = H[q]?) → va_S A0 H0 H1 locs1 → H1[q9]? = some ce → ce.vm = .none → s.vm.findClass E = some ce.cls → vx_W p l e R s m args below meth c H1 locs1 (cells + mc) (slots + ms) Q (F0 m pc ls rest) q9)
    (kk : ∀ (r : UInt32) (u : S) (t : State) (H1 : Heap) (locs1 : List Loc), t.heap = H1 → s.vm.Alike t.vm → post r u → B u t → H.size ≤ H1.size → (∀ q : Nat, q < H.size → ¬ A1 q → H1[q]? = H[q]?) → va_S A0 H0 H1 locs1 → W p l e R s m args below meth c H1 locs1 (cells + mc) (slots + ms) Q (F0 m (pc + 3) ls (.float r :: rest))) : W p l e R s m args below meth c H locs cells slots Q (F0 m pc ls st0) := by
  intro T hT X
  rcases hr T hT X with ⟨v, st₀, t, T', L, h0, X', hL, e1, e2, ⟨⟨r, u, hv, hp, hb⟩, hF⟩, st⟩ | ⟨q, st₀, t, T', L, E, ce, h0, X', hL, e1, e2, ⟨u, hp, hb, hF⟩, hce, hcv, hcl, st⟩
  · cases hv
    obtain ⟨k1, k2, k3⟩ := vx_keep h0 e1 hS hA hf hL hF
    obtain ⟨t2, a1, b1⟩ := kk r u t T'.heap (locs ++ L) e1.symm (by rw [← e2]; exact X'.warmed.alike) hp hb k1 k2 k3 T' rfl X'
    exact ⟨t2, st t2 a1, b1⟩
  · obtain ⟨k1, k2, k3⟩ := vx_keep h0 e1 hS hAX hf hL hF
    obtain ⟨t2, a1, b1⟩ := kx E ce q u t T'.heap (locs ++ L) e1.symm (by rw [← e2]; exact X'.warmed.alike) hp hb k1 k2 k3 (by rw [e1]; exact hce) hcv hcl T' rfl X'
    exact ⟨t2, st.trans a1, b1⟩
theorem vx_calld {S SX : Type} {post : UInt64 → S → Prop} {px : SX → Prop} {B : S → State → Prop} {BX : String → SX → State → Prop} {AX : Nat → Prop} (hr : vx_Run p l e R s m args below meth c H locs cells slots mc ms (F0 m pc ls st0) rest (va_Qd post B A1 a) (vx_X px BX AX) free) (hS : va_S A0 H0 H locs) (hA : ∀ q, q < H.size → A1 q → A0 q) (hf : ∀ q, free q → A0 q) (hAX : ∀ q, q < H.size → AX q → A0 q)
    (kx : ∀ (E : String) (ce : Cell) (q9 : Addr) (u : SX) (t : State) (H1 : Heap) (locs1 : List Loc), t.heap = H1 → s.vm.Alike t.vm → px u → BX E u t → H.size ≤ H1.size → (∀ q : Nat, q < H.size → ¬ AX q → H1[q]? = H[q]?) → va_S A0 H0 H1 locs1 → H1[q9]? = some ce → ce.vm = .none → s.vm.findClass E = some ce.cls → vx_W p l e R s m args below meth c H1 locs1 (cells + mc) (slots + ms) Q (F0 m pc ls rest) q9)
    (kk : ∀ (r : UInt64) (u : S) (t : State) (H1 : Heap) (locs1 : List Loc), t.heap = H1 → s.vm.Alike t.vm → post r u → B u t → H.size ≤ H1.size → (∀ q : Nat, q < H.size → ¬ A1 q → H1[q]? = H[q]?) → va_S A0 H0 H1 locs1 → W p l e R s m args below meth c H1 locs1 (cells + mc) (slots + ms) Q (F0 m (pc + 3) ls (.double r :: rest))) : W p l e R s m args below meth c H locs cells slots Q (F0 m pc ls st0) := by
  intro T hT X
  rcases hr T hT X with ⟨v, st₀, t, T', L, h0, X', hL, e1, e2, ⟨⟨r, u, hv, hp, hb⟩, hF⟩, st⟩ | ⟨q, st₀, t, T', L, E, ce, h0, X', hL, e1, e2, ⟨u, hp, hb, hF⟩, hce, hcv, hcl, st⟩
  · cases hv
    obtain ⟨k1, k2, k3⟩ := vx_keep h0 e1 hS hA hf hL hF
    obtain ⟨t2, a1, b1⟩ := kk r u t T'.heap (locs ++ L) e1.symm (by rw [← e2]; exact X'.warmed.alike) hp hb k1 k2 k3 T' rfl X'
    exact ⟨t2, st t2 a1, b1⟩
  · obtain ⟨k1, k2, k3⟩ := vx_keep h0 e1 hS hAX hf hL hF
    obtain ⟨t2, a1, b1⟩ := kx E ce q u t T'.heap (locs ++ L) e1.symm (by rw [← e2]; exact X'.warmed.alike) hp hb k1 k2 k3 (by rw [e1]; exact hce) hcv hcl T' rfl X'
    exact ⟨t2, st.trans a1, b1⟩
theorem vx_callv {S SX : Type} {post : S → Prop} {px : SX → Prop} {B : S → State → Prop} {BX : String → SX → State → Prop} {AX : Nat → Prop} (hr : vx_Run p l e R s m args below meth c H locs cells slots mc ms (F0 m pc ls st0) rest (va_Qv post B A1 a) (vx_X px BX AX) free) (hS : va_S A0 H0 H locs) (hA : ∀ q, q < H.size → A1 q → A0 q) (hf : ∀ q, free q → A0 q) (hAX : ∀ q, q < H.size → AX q → A0 q)
    (kx : ∀ (E : String) (ce : Cell) (q9 : Addr) (u : SX) (t : State) (H1 : Heap) (locs1 : List Loc), t.heap = H1 → s.vm.Alike t.vm → px u → BX E u t → H.size ≤ H1.size → (∀ q : Nat, q < H.size → ¬ AX q → H1[q]? = H[q]?) → va_S A0 H0 H1 locs1 → H1[q9]? = some ce → ce.vm = .none → s.vm.findClass E = some ce.cls → vx_W p l e R s m args below meth c H1 locs1 (cells + mc) (slots + ms) Q (F0 m pc ls rest) q9)
    (kk : ∀ (u : S) (t : State) (H1 : Heap) (locs1 : List Loc), t.heap = H1 → s.vm.Alike t.vm → post u → B u t → H.size ≤ H1.size → (∀ q : Nat, q < H.size → ¬ A1 q → H1[q]? = H[q]?) → va_S A0 H0 H1 locs1 → W p l e R s m args below meth c H1 locs1 (cells + mc) (slots + ms) Q (F0 m (pc + 3) ls (rest))) : W p l e R s m args below meth c H locs cells slots Q (F0 m pc ls st0) := by
  intro T hT X
  rcases hr T hT X with ⟨v, st₀, t, T', L, h0, X', hL, e1, e2, ⟨⟨u, hv, hp, hb⟩, hF⟩, st⟩ | ⟨q, st₀, t, T', L, E, ce, h0, X', hL, e1, e2, ⟨u, hp, hb, hF⟩, hce, hcv, hcl, st⟩
  · cases hv
    obtain ⟨k1, k2, k3⟩ := vx_keep h0 e1 hS hA hf hL hF
    obtain ⟨t2, a1, b1⟩ := kk u t T'.heap (locs ++ L) e1.symm (by rw [← e2]; exact X'.warmed.alike) hp hb k1 k2 k3 T' rfl X'
    exact ⟨t2, st t2 a1, b1⟩
  · obtain ⟨k1, k2, k3⟩ := vx_keep h0 e1 hS hAX hf hL hF
    obtain ⟨t2, a1, b1⟩ := kx E ce q u t T'.heap (locs ++ L) e1.symm (by rw [← e2]; exact X'.warmed.alike) hp hb k1 k2 k3 (by rw [e1]; exact hce) hcv hcl T' rfl X'
    exact ⟨t2, st.trans a1, b1⟩
end Rows
section Ends
variable {p : Program} {l : Launch} {e : Env} {R : Room} {s : State} {m : MethodId} {args : Array Value} {below : List Frame} {meth : Method} {c : Code} {H : Heap} {locs : List Loc} {cells slots : Nat} {Q : State → Prop}
variable {mc ms : Nat} {free : Addr → Prop} {A0 A1 : Nat → Prop} {H0 : Heap} {a : Array Value} {ls : Array Slot} {st0 rest : List Value}
variable {Qc : Array Value → State → Outcome → State → Prop} {XC : String → State → State → Prop}
/-- what a body that may throw owes at its end -/
def vx_MQ (below : List Frame) (Qc : Array Value → State → Outcome → State → Prop) (XC : String → State → State → Prop) (a : Array Value) (s : State) (mc ms : Nat) (free : Addr → Prop) : State → Prop := fun t =>
  ∃ o, t.status = .running ∧ Ended t below o ∧ vx_Q Qc XC mc ms free a s o t
theorem vx_ret {g : JFrame} {mc ms : Nat} (k : W p l e R s m args below meth c H locs cells slots (MQ below Qc args s mc ms free) g) : W p l e R s m args below meth c H locs cells slots (vx_MQ below Qc XC args s mc ms free) g := by
  intro T hT X
  obtain ⟨t, a1, o, b1, b2, b3, b4⟩ := k T hT X
  exact ⟨t, a1, o, b1, b2, Or.inl ⟨b3, b4⟩⟩
/-- not caught here: it goes on to the caller -/
theorem vx_widen {g : JFrame} {q : Addr} {k n : Nat} (h1 : cells ≤ k) (h2 : slots ≤ n) (kk : vx_W p l e R s m args below meth c H locs k n Q g q) : vx_W p l e R s m args below meth c H locs cells slots Q g q := fun T hT X => kk T hT (stand_widen X h1 h2)
theorem vx_out {pc : Nat} {E : String} {ce : Cell} {q : Addr} {mc ms : Nat} (hout : ∀ x ∈ c.exceptionTable.toList, covers x pc = false) (hlocks : meth.locks = false) (hcell : H[q]? = some ce) (hv : ce.vm = .none) (hcl : s.vm.findClass E = some ce.cls)
    (hx : ∀ t : State, t.heap = H → s.vm.Alike t.vm → XC E s t) (hf : ∀ z ∈ locs, free z.base) (hc : cells ≤ mc) (hs : slots ≤ ms) :
    vx_W p l e R s m args below meth c H locs cells slots (vx_MQ below Qc XC args s mc ms free) (F0 m pc ls rest) q := by
  intro T hT X
  obtain ⟨st1, hrun, hend, hW, hsm⟩ := X.leaveThrown q (g := F0 m pc ls rest) rfl rfl rfl hout hlocks
  have hcell9 : (T.setFrames (.throwing q :: below)).heap[q]? = some ce := by
    show T.heap[q]? = some ce
    rw [hT]; exact hcell
  exact ⟨_, st1, .threw q, hrun, hend, Or.inr ⟨q, rfl, E, ce, locs, hx _ hT hW.alike, hcell9, hv, hcl, hW, hsm.mono hc hs, hf⟩⟩
theorem vx_frame {U : State} {k n : Nat} (h : s.sameButNew ({ U with vm := s.vm } : State) locs k n) : s.heap.size ≤ U.heap.size ∧ ∀ q : Nat, q < s.heap.size → (∀ z ∈ locs, z.base ≠ q) → U.heap[q]? = s.heap[q]? := by
  obtain ⟨-, h2, -, -, -, h6⟩ := h
  refine ⟨h2, fun q hq hz => ?_⟩
  obtain ⟨c9, e1, e2, e3, e4⟩ := h6 q _ (Array.getElem?_eq_getElem hq)
  have hs : c9.slots = (s.heap[q]).slots := Array.ext_getElem? fun i => e4 i fun hm => hz _ hm rfl
  have h9 : c9 = s.heap[q] := by
    rw [hs] at e2
    exact e2
  have e5 : U.heap[q]? = some c9 := e1
  rw [e5, h9, Array.getElem?_eq_getElem hq]
/-- the words of a throw but the four that speak of the heap -/
def vx_no (w : Cond) : Bool := decide (w ≠ .isRef (.static Bundle.tN "UNASSIGNED_STACK" Bundle.steD)) && decide (w ≠ .isRef (.static Bundle.tN "SUPPRESSED_SENTINEL" Bundle.listD)) && decide (w ≠ .laysStatic Bundle.tN "UNASSIGNED_STACK" Bundle.steD) && decide (w ≠ .laysStatic Bundle.tN "SUPPRESSED_SENTINEL" Bundle.listD)
def vx_at0 (own : String) (ic : Nat) (X : String) (names : List String) : List Cond := (Bundle.ownAtoms0 own ic X names).filter vx_no
def vx_atS (own : String) (ic : Nat) (X : String) (names : List String) : List Cond := (Bundle.ownAtoms own ic X names).filter vx_no
/-- a word that the tables alone decide, or a good one -/
def vx_ot (w : Cond) : Bool := w.onTables || goodWord w
theorem vx_ot_at {args a' : Array Value} {s U : State} {w : Cond} (hW : s.WarmedH U.vm) (hvm : s.vm = U.vm) (hg : vx_ot w = true) (h : w.before args s = true) : w.before a' U = true := by
  simp only [vx_ot, Bool.or_eq_true] at hg
  rcases hg with hg | hg
  · exact va_tabs hg hvm h
  · exact word_at hW (good_of_word hg) h
/-- a list's words: the good ones out of the method's own list, the others by premises of their own -/
theorem vx_hat {args : Array Value} {s : State} {L B : List Cond} (h1 : ∀ w ∈ L.filter goodWord, w.before args s = true) (h2 : ∀ w ∈ L.filter (fun w => !goodWord w), w ∈ B) (h3 : ∀ w ∈ B, w.before args s = true) : ∀ w ∈ L, w.before args s = true := by
  intro w hw
  by_cases g : goodWord w = true
  · exact h1 w (List.mem_filter.mpr ⟨hw, g⟩)
  · refine h3 w (h2 w (List.mem_filter.mpr ⟨hw, ?_⟩))
    show (!goodWord w) = true
    cases hgw : goodWord w
    · rfl
    · exact absurd hgw g
theorem vx_c {args : Array Value} {s : State} {w : Cond} {B : List Cond} (h : w.before args s = true) (t : ∀ w ∈ B, w.before args s = true) : ∀ w' ∈ w :: B, w'.before args s = true := fun w' h' => (List.mem_cons.mp h').elim (fun e => by rw [e]; exact h) (t w')
theorem vx_n {args : Array Value} {s : State} : ∀ w ∈ ([] : List Cond), w.before args s = true := fun _ h => nomatch h
theorem vx_own {args : Array Value} {s : State} {L : List Cond} (h1 : ∀ w ∈ L.filter vx_no, w.before args s = true)
    (hU : (Cond.isRef (.static Bundle.tN "UNASSIGNED_STACK" Bundle.steD)).before args s = true) (hN : (Cond.isRef (.static Bundle.tN "SUPPRESSED_SENTINEL" Bundle.listD)).before args s = true)
    (lU : (Cond.laysStatic Bundle.tN "UNASSIGNED_STACK" Bundle.steD).before args s = true) (lN : (Cond.laysStatic Bundle.tN "SUPPRESSED_SENTINEL" Bundle.listD).before args s = true) : ∀ w ∈ L, w.before args s = true := by
  intro w hw
  by_cases e1 : w = .isRef (.static Bundle.tN "UNASSIGNED_STACK" Bundle.steD)
  · rw [e1]; exact hU
  · by_cases e2 : w = .isRef (.static Bundle.tN "SUPPRESSED_SENTINEL" Bundle.listD)
    · rw [e2]; exact hN
    · by_cases e3 : w = .laysStatic Bundle.tN "UNASSIGNED_STACK" Bundle.steD
      · rw [e3]; exact lU
      · by_cases e4 : w = .laysStatic Bundle.tN "SUPPRESSED_SENTINEL" Bundle.listD
        · rw [e4]; exact lN
        · exact h1 w (List.mem_filter.mpr ⟨hw, by unfold vx_no; rw [decide_eq_true e1, decide_eq_true e2, decide_eq_true e3, decide_eq_true e4]; rfl⟩)
/-- where a static field lies, its class's statics cell in H -/
def vx_L (C n d : String) (A : Nat → Prop) (U : State) (H : Heap) : Prop := ∃ (c : ClassId) (k : Class) (i : Nat) (f : Field) (a : Nat) (cell : Cell), U.vm.findClass C = some c ∧ U.fieldFound? C n d = some (c, k, i, f) ∧ f.isStatic = true ∧ k.statics = some a ∧ H[a]? = some cell ∧ cell.vm.isStatics = true ∧ cell.cls = c ∧ f.slot < cell.slots.size ∧ k.staticTypes[f.slot]? = some f.type ∧ ¬ A a
theorem vx_L.moved {C n d : String} {A : Nat → Prop} {u U : State} {H : Heap} (hvm : u.vm.Alike U.vm) (h : vx_L C n d A u H) : vx_L C n d A U H := by
  obtain ⟨c, k, i, f, a, cell, h1, h2, h3, h4, h5, h6, h7, h8, h9, h10⟩ := h
  obtain ⟨k', hi', he⟩ := State.fieldFound?_setVm hvm h2
  exact ⟨c, k', i, f, a, cell, by rw [hvm.findClass]; exact h1, hi', h3, by rw [he]; exact h4, h5, h6, h7, h8, by rw [he]; exact h9, h10⟩
theorem vx_L.kept {C n d : String} {A : Nat → Prop} {U : State} {H H1 : Heap} (h : vx_L C n d A U H) (hq : ∀ a : Nat, a < H.size → ¬ A a → H1[a]? = H[a]?) : vx_L C n d A U H1 := by
  obtain ⟨c, k, i, f, a, cell, h1, h2, h3, h4, h5, h6, h7, h8, h9, h10⟩ := h
  exact ⟨c, k, i, f, a, cell, h1, h2, h3, h4, by rw [hq a (Array.getElem?_eq_some_iff.mp h5).1 h10]; exact h5, h6, h7, h8, h9, h10⟩
theorem vx_L.narrow {C n d : String} {A B : Nat → Prop} {U : State} {H : Heap} (h : vx_L C n d A U H) (hAB : ∀ q, B q → A q) : vx_L C n d B U H := by
  obtain ⟨c, k, i, f, a, cell, h1, h2, h3, h4, h5, h6, h7, h8, h9, h10⟩ := h
  exact ⟨c, k, i, f, a, cell, h1, h2, h3, h4, h5, h6, h7, h8, h9, fun z => h10 (hAB _ z)⟩
theorem vx_L.word {C n d : String} {A : Nat → Prop} {s : State} {args : Array Value} (h : vx_L C n d A s s.heap) : (Cond.laysStatic C n d).before args s = true := by
  obtain ⟨c, k, i, f, a, cell, h1, h2, h3, h4, h5, h6, h7, h8, h9, -⟩ := h
  show (Cond.laysStatic C n d).holds args s none s [] = true
  exact Cond.laysStatic_of h1 h2 h3 h4 h5 h6 h7 h8 h9
/-- .. and what it holds: null or some reference -/
def vx_Zq (C n d : String) (A : Nat → Prop) (U : State) (H : Heap) : Prop := va_Zq C n d A U H ∧ vx_L C n d A U H
theorem vx_Zq.moved {C n d : String} {A : Nat → Prop} {u U : State} {H : Heap} (hvm : u.vm.Alike U.vm) (h : vx_Zq C n d A u H) : vx_Zq C n d A U H := ⟨va_Zq.moved hvm h.1, vx_L.moved hvm h.2⟩
theorem vx_Zq.kept {C n d : String} {A : Nat → Prop} {U : State} {H H1 : Heap} (h : vx_Zq C n d A U H) (hq : ∀ a : Nat, a < H.size → ¬ A a → H1[a]? = H[a]?) : vx_Zq C n d A U H1 := ⟨va_Zq.kept h.1 hq, vx_L.kept h.2 hq⟩
theorem vx_Zq.narrow {C n d : String} {A B : Nat → Prop} {U : State} {H : Heap} (h : vx_Zq C n d A U H) (hAB : ∀ q, B q → A q) : vx_Zq C n d B U H := ⟨va_Zq.narrow h.1 hAB, vx_L.narrow h.2 hAB⟩
theorem vx_Zqof {args : Array Value} {s : State} {C n d : String} {A : Nat → Prop} (hl : (Cond.laysStatic C n d).before args s = true) (hini : (Cond.initialized C).before args s = true) (h : (Cond.isRef (.static C n d)).before args s = true) (hA : ∀ a : Nat, a < s.heap.size → ¬ A a) : vx_Zq C n d A s s.heap := by
  refine ⟨va_Zqof hl hini h hA, ?_⟩
  obtain ⟨c, k, i, f, a, cell, h1, h2, h3, h4, h5, h6, h7, h8, h9⟩ := Cond.laysStatic_spec hl
  exact ⟨c, k, i, f, a, cell, h1, h2, h3, h4, h5, h6, h7, h8, h9, hA a (Array.getElem?_eq_some_iff.mp h5).1⟩
theorem vx_isRef {C n d : String} {v : Value} {A : Nat → Prop} {s : State} {args : Array Value} (h : va_Z C n d v A s s.heap) (hv : v.isRef = true) : (Cond.isRef (.static C n d)).before args s = true := by
  obtain ⟨cf, kf, fi, f, a, cell, h1, h2, h3, h4, h5, h6, h7, -⟩ := h
  have he : (Term.static C n d).eval args s none [] s = some v := by
    simp [Term.eval, State.fieldNamed?, h1, h2, h4, h5, h6, h7]
  simp only [Cond.before, Cond.holds, Cond.value, he]
  cases v <;> simp_all [Value.isRef]
theorem vx_isRefq {C n d : String} {A : Nat → Prop} {s : State} {args : Array Value} (h : va_Zq C n d A s s.heap) : (Cond.isRef (.static C n d)).before args s = true := by
  rcases h with h | ⟨t, h⟩
  · exact vx_isRef h rfl
  · exact vx_isRef h rfl
/-- the same frame, seen from here: as if the method were called anew in this heap -/
theorem vx_rebase {T : State} (X : Stand p l e R s m args below meth c T locs cells slots) {R' : Room} (hf : R'.frames ≤ R.frames) (hl : R'.locals ≤ R.locals) (hc : cells + R'.cells ≤ R.cells) (hs : slots + R'.slots ≤ R.slots) :
    Stand p l e R' ((T.setVm s.vm).setFrames (.invoking m args :: below)) m args below meth c T [] 0 0 := by
  have htop : (T.setVm s.vm).topJava?.isSome := X.here.top
  have hF : ((T.setVm s.vm).setFrames (.invoking m args :: below)).frames = .invoking m args :: below := State.frames_setFrames _ (State.cur_lt_of_top htop)
  obtain ⟨g₀, hg0⟩ := Option.isSome_iff_exists.mp htop
  obtain ⟨r, hr⟩ := State.topJava?_eq_some.mp hg0
  have hl9 : e.platform.stackLimits (T.setVm s.vm).me = e.platform.stackLimits s.me := X.limits
  have hb9 : (T.setVm s.vm).me.stackBytes = s.me.stackBytes := X.bytes
  refine ⟨X.admits, X.cas, X.clock, hF, ?_, X.hears, X.method, X.code, X.here, X.tail, X.warmed, ?_, ?_, ?_⟩
  · have h := X.room
    have hU : ((T.setVm s.vm).setFrames (.invoking m args :: below)).localsInUse = s.localsInUse := by
      rw [State.localsInUse_invoking hF (meth := meth) (c := c) X.method X.code, State.localsInUse_invoking X.frames X.method X.code]
    simp only [State.hasRoom, Bool.and_eq_true, decide_eq_true_eq] at h ⊢
    obtain ⟨⟨⟨⟨h1, h2, h3, h4, h5, h6⟩, h7⟩, h8⟩, h9⟩ := h
    rw [X.frames, List.length_cons] at h2 h3
    have q1 := X.heapSize
    have q2 := X.used
    simp only [hF, hU, List.length_cons, State.stackLimits_setFrames, State.stackBytes_setFrames, hl9, hb9]
    refine ⟨⟨⟨⟨by omega, by omega, by omega, by omega, by omega, h6⟩, ?_⟩, ?_⟩, X.book⟩
    · show T.heap.size + R'.cells ≤ e.platform.maxCells
      omega
    · show T.slotsUsed + R'.slots ≤ e.platform.maxSlots
      omega
  · rw [State.stackLimits_setFrames]; rfl
  · rw [State.stackBytes_setFrames]; rfl
  · refine ⟨?_, Nat.le_refl _, Nat.le_refl _, ?_, ?_, fun a c9 h9 => ⟨c9, h9, rfl, rfl, fun _ _ => rfl⟩⟩
    · obtain ⟨t, ht, -⟩ := State.frames_cons hr
      show T.setVm s.vm = { ((T.setVm s.vm).setFrames (.invoking m args :: below)).setFrames (T.setVm s.vm).frames with heap := T.heap, slotsUsed := T.slotsUsed }
      rw [State.setFrames_setFrames, State.setFrames_self ht]
      rfl
    · show T.slotsUsed = T.slotsUsed + ((T.heap.toList.drop T.heap.size).map (·.slots.size)).sum
      rw [List.drop_eq_nil_of_le (Nat.le_of_eq Array.length_toList)]
      rfl
    · show ((T.heap.toList.drop T.heap.size).map (·.slots.size)).sum ≤ 0
      rw [List.drop_eq_nil_of_le (Nat.le_of_eq Array.length_toList)]
      exact Nat.le_refl _
/-- 'throw new E()': new; dup; invokespecial; athrow -/
theorem vx_throw0 {cc : ByteArray} {pc : Nat} (hexec : p.tables.exec = Jvm.exec) (hb : c.code = cc) (hl : l.stackTraces = false) {own cls : String} {names : List String} {ik ic mc ms : Nat} {A : Nat → Prop}
    (hown : s.vm.findClass own = some m.cls) (hcls : Bundle.fit cls = true) (hnames : ∀ n ∈ names, Bundle.fit n = true)
    (hk : (Cond.classLink own ik cls).before args s = true) (hini : (Cond.initialized cls).before args s = true) (hat : ∀ w ∈ vx_at0 own ic cls names, w.before args s = true)
    (hgood : ∀ w ∈ Cond.classLink own ik cls :: Cond.initialized cls :: vx_at0 own ic cls names, vx_ot w = true)
    (hU : vx_Zq Bundle.tN "UNASSIGNED_STACK" Bundle.steD A s s.heap) (hN : vx_Zq Bundle.tN "SUPPRESSED_SENTINEL" Bundle.listD A s s.heap) (hS : va_S A s.heap H locs) (hsize : ls.size = c.maxLocals)
    (d0 : decode cc pc = .ok (.new ik, 3)) (d3 : decode cc (pc + 3) = .ok (.dup, 1)) (d4 : decode cc (pc + 4) = .ok (.invokespecial ic, 3)) (d7 : decode cc (pc + 7) = .ok (.athrow, 1))
    (hout : ∀ x ∈ c.exceptionTable.toList, covers x (pc + 7) = false)
    (hRframes : names.length + 3 < R.frames) (hRlocals : (rest.map fun v => v.category).sum + (13 * (names.length + 1) + 42) ≤ R.locals) (hRcells : cells + 1 ≤ R.cells) (hRslots : slots + 6 ≤ R.slots) (hlocks : meth.locks = false)
    (hx : ∀ t : State, s.vm.Alike t.vm → H.size ≤ t.heap.size → (∀ q : Nat, q < H.size → t.heap[q]? = H[q]?) → XC cls s t)
    (hf : ∀ z ∈ locs, free z.base) (hc : cells + 1 ≤ mc) (hs : slots + 6 ≤ ms) :
    W p l e R s m args below meth c H locs cells slots (vx_MQ below Qc XC args s mc ms free) (F0 m pc ls rest) := by
  intro T hT X
  have htr : e.platform.stackTraces = false := (show e.platform.stackTraces = l.stackTraces by rw [X.admits.platform]).trans hl
  have Y := vx_rebase X (R' := { frames := R.frames, locals := R.locals, cells := 1, slots := 6 }) (Nat.le_refl _) (Nat.le_refl _) hRcells hRslots
  obtain ⟨s', hA⟩ : ∃ z, z = (T.setVm s.vm).setFrames (.invoking m args :: below) := ⟨_, rfl⟩
  rw [← hA] at Y
  have hvm : s'.vm = s.vm := by rw [hA]; rfl
  have hhp : s'.heap = H := by rw [hA]; exact hT
  have hW0 : s.WarmedH s'.vm := by rw [hvm]; exact State.WarmedH.refl s
  have hat' : ∀ w ∈ vx_at0 own ic cls names, w.before args s' = true := fun w hw => vx_ot_at hW0 hvm.symm (hgood w (List.mem_cons_of_mem _ (List.mem_cons_of_mem _ hw))) (hat w hw)
  have hk' : (Cond.classLink own ik cls).before args s' = true := vx_ot_at hW0 hvm.symm (hgood _ List.mem_cons_self) hk
  have hini' : (Cond.initialized cls).before args s' = true := vx_ot_at hW0 hvm.symm (hgood _ (List.mem_cons_of_mem _ List.mem_cons_self)) hini
  have hU' : vx_Zq Bundle.tN "UNASSIGNED_STACK" Bundle.steD A s' s'.heap := by rw [hhp]; exact vx_Zq.moved hW0.alike (hU.kept hS.2.1)
  have hN' : vx_Zq Bundle.tN "SUPPRESSED_SENTINEL" Bundle.listD A s' s'.heap := by rw [hhp]; exact vx_Zq.moved hW0.alike (hN.kept hS.2.1)
  have h : ∀ w ∈ Bundle.ownAtoms0 own ic cls names, w.before args s' = true := vx_own hat' (vx_isRefq hU'.1) (vx_isRefq hN'.1) hU'.2.word hN'.2.word
  have hown' : s'.vm.findClass own = some m.cls := by rw [hvm]; exact hown
  have hins : (Cond.instantiable cls 6).before args s' = true := h _ (by simp [Bundle.ownAtoms0])
  obtain ⟨vm₁, cX, kX, hfX, hkX, -, -, X₁, st1⟩ := Y.newCold hexec (own := own) (C := cls) (index := ik) (n := 6) hown' hk' hins hini'
    (g := F0 m pc ls rest) rfl (by rw [hb]; exact d0) (Nat.le_refl _) (Nat.le_refl _)
  generalize hT1 : (T.setVm vm₁).pushCell { cls := cX, slots := kX.instanceTypes.map defaultValue, vm := .none } = T1 at X₁ st1
  have hcat : (Value.ref T.heap.size).category = 1 := rfl
  have hcellA : T1.heap[T.heap.size]? = some (freshCell cX kX) := by rw [← hT1]; exact State.heap_pushCell_size _ _
  have d3' : decode c.code (pc + 3) = .ok (.dup, 1) := by rw [hb]; exact d3
  obtain ⟨U, hsteps, hrun, hend, hW, hsame, ce, hce, hO⟩ := X₁.ctorThrow0 hexec htr (own := own) (cls := cls) (names := names) (ic := ic) hown' hcls hnames h (fun x hx => nomatch hx) hfX hkX hcellA (by rw [hhp, hT]; exact Nat.le_refl _)
    (g := { method := m, pc := pc + 4, locals := ls, stack := .ref T.heap.size :: .ref T.heap.size :: rest, locked := none }) rfl hsize rfl rfl (rest := rest) rfl
    (by rw [hb]; exact d4) (by rw [hb]; exact d7) hout hRframes (by simp only [List.map_cons, List.sum_cons, hcat]; omega) hlocks
  obtain ⟨f1, f2⟩ := vx_frame hsame
  rw [hhp] at f1 f2
  have hWs : s.WarmedH U.vm := State.WarmedH.trans hW0 hW
  have hcl : s.vm.findClass cls = some ce.cls := by
    have h9 := hO.cls
    rw [hvm] at h9
    exact h9
  have hall : s.sameButNew ({ U with vm := s.vm } : State) locs mc ms := by
    subst hA
    obtain ⟨e1, e2⟩ := hsame
    rw [State.setFrames_setFrames] at e1
    have h2 : (T.setVm s.vm).sameButNew ({ U with vm := s.vm } : State) [] (0 + 1) (0 + 6) := ⟨e1, e2⟩
    have h3 := X.same.trans h2
    rw [List.append_nil] at h3
    exact h3.mono hc hs
  refine ⟨U, ?_, .threw T.heap.size, hrun, hend, Or.inr ⟨T.heap.size, rfl, cls, ce, locs, hx U hWs.alike f1 (fun q hq => f2 q hq (fun z hz => nomatch hz)), hce, hO.vm, hcl, hWs, hall, hf⟩⟩
  refine st1 _ ?_
  show Steps p.tables e below (T1.setTop { method := m, pc := pc + 3, locals := ls, stack := .ref T.heap.size :: rest, locked := none }) _
  jvm_step X₁.here [X₁.here.top, hexec, d3', Value.category]
  exact hsteps
/-- 'throw new E("text")': new; dup; ldc; invokespecial; athrow -/
theorem vx_throwS {cc : ByteArray} {pc : Nat} (hexec : p.tables.exec = Jvm.exec) (hb : c.code = cc) (hl : l.stackTraces = false) {own cls text : String} {names : List String} {ik is ic mc ms sa : Nat} {A : Nat → Prop}
    (hown : s.vm.findClass own = some m.cls) (hcls : Bundle.fit cls = true) (hnames : ∀ n ∈ names, Bundle.fit n = true)
    (hk : (Cond.classLink own ik cls).before args s = true) (hini : (Cond.initialized cls).before args s = true) (hstr : vk_R own is text sa s) (hat : ∀ w ∈ vx_atS own ic cls names, w.before args s = true)
    (hgood : ∀ w ∈ Cond.classLink own ik cls :: Cond.initialized cls :: vx_atS own ic cls names, vx_ot w = true)
    (hU : vx_Zq Bundle.tN "UNASSIGNED_STACK" Bundle.steD A s s.heap) (hN : vx_Zq Bundle.tN "SUPPRESSED_SENTINEL" Bundle.listD A s s.heap) (hS : va_S A s.heap H locs) (hsize : ls.size = c.maxLocals)
    (d0 : decode cc pc = .ok (.new ik, 3)) (d3 : decode cc (pc + 3) = .ok (.dup, 1)) (d4 : decode cc (pc + 4) = .ok (.ldc is, 2)) (d6 : decode cc (pc + 6) = .ok (.invokespecial ic, 3)) (d9 : decode cc (pc + 9) = .ok (.athrow, 1))
    (hout : ∀ x ∈ c.exceptionTable.toList, covers x (pc + 9) = false)
    (hRframes : names.length + 3 < R.frames) (hRlocals : (rest.map fun v => v.category).sum + (13 * (names.length + 1) + 43) ≤ R.locals) (hRcells : cells + 1 ≤ R.cells) (hRslots : slots + 6 ≤ R.slots) (hlocks : meth.locks = false)
    (hx : ∀ t : State, s.vm.Alike t.vm → H.size ≤ t.heap.size → (∀ q : Nat, q < H.size → t.heap[q]? = H[q]?) → XC cls s t)
    (hf : ∀ z ∈ locs, free z.base) (hc : cells + 1 ≤ mc) (hs : slots + 6 ≤ ms) :
    W p l e R s m args below meth c H locs cells slots (vx_MQ below Qc XC args s mc ms free) (F0 m pc ls rest) := by
  intro T hT X
  have htr : e.platform.stackTraces = false := (show e.platform.stackTraces = l.stackTraces by rw [X.admits.platform]).trans hl
  have Y := vx_rebase X (R' := { frames := R.frames, locals := R.locals, cells := 1, slots := 6 }) (Nat.le_refl _) (Nat.le_refl _) hRcells hRslots
  obtain ⟨s', hA⟩ : ∃ z, z = (T.setVm s.vm).setFrames (.invoking m args :: below) := ⟨_, rfl⟩
  rw [← hA] at Y
  have hvm : s'.vm = s.vm := by rw [hA]; rfl
  have hhp : s'.heap = H := by rw [hA]; exact hT
  have hW0 : s.WarmedH s'.vm := by rw [hvm]; exact State.WarmedH.refl s
  have hat' : ∀ w ∈ vx_atS own ic cls names, w.before args s' = true := fun w hw => vx_ot_at hW0 hvm.symm (hgood w (List.mem_cons_of_mem _ (List.mem_cons_of_mem _ hw))) (hat w hw)
  have hk' : (Cond.classLink own ik cls).before args s' = true := vx_ot_at hW0 hvm.symm (hgood _ List.mem_cons_self) hk
  have hini' : (Cond.initialized cls).before args s' = true := vx_ot_at hW0 hvm.symm (hgood _ (List.mem_cons_of_mem _ List.mem_cons_self)) hini
  have hU' : vx_Zq Bundle.tN "UNASSIGNED_STACK" Bundle.steD A s' s'.heap := by rw [hhp]; exact vx_Zq.moved hW0.alike (hU.kept hS.2.1)
  have hN' : vx_Zq Bundle.tN "SUPPRESSED_SENTINEL" Bundle.listD A s' s'.heap := by rw [hhp]; exact vx_Zq.moved hW0.alike (hN.kept hS.2.1)
  have h : ∀ w ∈ Bundle.ownAtoms own ic cls names, w.before args s' = true := vx_own hat' (vx_isRefq hU'.1) (vx_isRefq hN'.1) hU'.2.word hN'.2.word
  have hown' : s'.vm.findClass own = some m.cls := by rw [hvm]; exact hown
  have hins : (Cond.instantiable cls 6).before args s' = true := h _ (by simp [Bundle.ownAtoms])
  obtain ⟨vm₁, cX, kX, hfX, hkX, -, -, X₁, st1⟩ := Y.newCold hexec (own := own) (C := cls) (index := ik) (n := 6) hown' hk' hins hini'
    (g := F0 m pc ls rest) rfl (by rw [hb]; exact d0) (Nat.le_refl _) (Nat.le_refl _)
  generalize hT1 : (T.setVm vm₁).pushCell { cls := cX, slots := kX.instanceTypes.map defaultValue, vm := .none } = T1 at X₁ st1
  have hcat : (Value.ref T.heap.size).category = 1 := rfl
  have hcellA : T1.heap[T.heap.size]? = some (freshCell cX kX) := by rw [← hT1]; exact State.heap_pushCell_size _ _
  have d3' : decode c.code (pc + 3) = .ok (.dup, 1) := by rw [hb]; exact d3
  have d4' : decode c.code (pc + 4) = .ok (.ldc is, 2) := by rw [hb]; exact d4
  have hstr' : vk_R own is text sa s' := vk_R.warm hW0 hstr
  obtain ⟨U, hsteps, hrun, hend, hW, hsame, ce, hce, hO⟩ := X₁.ctorThrowS hexec htr (own := own) (cls := cls) (names := names) (ic := ic) hown' hcls hnames h (fun x hx => nomatch hx) hfX hkX hcellA (by rw [hhp, hT]; exact Nat.le_refl _) (msg := .ref sa) rfl
    (g := { method := m, pc := pc + 6, locals := ls, stack := .ref sa :: .ref T.heap.size :: .ref T.heap.size :: rest, locked := none }) rfl hsize rfl rfl (rest := rest) rfl
    (by rw [hb]; exact d6) (by rw [hb]; exact d9) hout hRframes (by simp only [List.map_cons, List.sum_cons, hcat]; omega) hlocks
  obtain ⟨f1, f2⟩ := vx_frame hsame
  rw [hhp] at f1 f2
  have hWs : s.WarmedH U.vm := State.WarmedH.trans hW0 hW
  have hcl : s.vm.findClass cls = some ce.cls := by
    have h9 := hO.cls
    rw [hvm] at h9
    exact h9
  have hall : s.sameButNew ({ U with vm := s.vm } : State) locs mc ms := by
    subst hA
    obtain ⟨e1, e2⟩ := hsame
    rw [State.setFrames_setFrames] at e1
    have h2 : (T.setVm s.vm).sameButNew ({ U with vm := s.vm } : State) [] (0 + 1) (0 + 6) := ⟨e1, e2⟩
    have h3 := X.same.trans h2
    rw [List.append_nil] at h3
    exact h3.mono hc hs
  refine ⟨U, ?_, .threw T.heap.size, hrun, hend, Or.inr ⟨T.heap.size, rfl, cls, ce, locs, hx U hWs.alike f1 (fun q hq => f2 q hq (fun z hz => nomatch hz)), hce, hO.vm, hcl, hWs, hall, hf⟩⟩
  refine st1 _ ?_
  show Steps p.tables e below (T1.setTop { method := m, pc := pc + 3, locals := ls, stack := .ref T.heap.size :: rest, locked := none }) _
  jvm_step X₁.here [X₁.here.top, hexec, d3', Value.category]
  exact X₁.ldcString hexec (own := own) (text := text) (index := is) (a := sa) hown' hstr'.1 hstr'.2
    (g := { method := m, pc := pc + 4, locals := ls, stack := .ref T.heap.size :: .ref T.heap.size :: rest, locked := none }) rfl d4' _ hsteps
/-- 'throw new E("text")', the text by a wide index -/
theorem vx_throwSW {cc : ByteArray} {pc : Nat} (hexec : p.tables.exec = Jvm.exec) (hb : c.code = cc) (hl : l.stackTraces = false) {own cls text : String} {names : List String} {ik is ic mc ms sa : Nat} {A : Nat → Prop}
    (hown : s.vm.findClass own = some m.cls) (hcls : Bundle.fit cls = true) (hnames : ∀ n ∈ names, Bundle.fit n = true)
    (hk : (Cond.classLink own ik cls).before args s = true) (hini : (Cond.initialized cls).before args s = true) (hstr : vk_R own is text sa s) (hat : ∀ w ∈ vx_atS own ic cls names, w.before args s = true)
    (hgood : ∀ w ∈ Cond.classLink own ik cls :: Cond.initialized cls :: vx_atS own ic cls names, vx_ot w = true)
    (hU : vx_Zq Bundle.tN "UNASSIGNED_STACK" Bundle.steD A s s.heap) (hN : vx_Zq Bundle.tN "SUPPRESSED_SENTINEL" Bundle.listD A s s.heap) (hS : va_S A s.heap H locs) (hsize : ls.size = c.maxLocals)
    (d0 : decode cc pc = .ok (.new ik, 3)) (d3 : decode cc (pc + 3) = .ok (.dup, 1)) (d4 : decode cc (pc + 4) = .ok (.ldc_w is, 3)) (d7 : decode cc (pc + 7) = .ok (.invokespecial ic, 3)) (d10 : decode cc (pc + 10) = .ok (.athrow, 1))
    (hout : ∀ x ∈ c.exceptionTable.toList, covers x (pc + 10) = false)
    (hRframes : names.length + 3 < R.frames) (hRlocals : (rest.map fun v => v.category).sum + (13 * (names.length + 1) + 43) ≤ R.locals) (hRcells : cells + 1 ≤ R.cells) (hRslots : slots + 6 ≤ R.slots) (hlocks : meth.locks = false)
    (hx : ∀ t : State, s.vm.Alike t.vm → H.size ≤ t.heap.size → (∀ q : Nat, q < H.size → t.heap[q]? = H[q]?) → XC cls s t)
    (hf : ∀ z ∈ locs, free z.base) (hc : cells + 1 ≤ mc) (hs : slots + 6 ≤ ms) :
    W p l e R s m args below meth c H locs cells slots (vx_MQ below Qc XC args s mc ms free) (F0 m pc ls rest) := by
  intro T hT X
  have htr : e.platform.stackTraces = false := (show e.platform.stackTraces = l.stackTraces by rw [X.admits.platform]).trans hl
  have Y := vx_rebase X (R' := { frames := R.frames, locals := R.locals, cells := 1, slots := 6 }) (Nat.le_refl _) (Nat.le_refl _) hRcells hRslots
  obtain ⟨s', hA⟩ : ∃ z, z = (T.setVm s.vm).setFrames (.invoking m args :: below) := ⟨_, rfl⟩
  rw [← hA] at Y
  have hvm : s'.vm = s.vm := by rw [hA]; rfl
  have hhp : s'.heap = H := by rw [hA]; exact hT
  have hW0 : s.WarmedH s'.vm := by rw [hvm]; exact State.WarmedH.refl s
  have hat' : ∀ w ∈ vx_atS own ic cls names, w.before args s' = true := fun w hw => vx_ot_at hW0 hvm.symm (hgood w (List.mem_cons_of_mem _ (List.mem_cons_of_mem _ hw))) (hat w hw)
  have hk' : (Cond.classLink own ik cls).before args s' = true := vx_ot_at hW0 hvm.symm (hgood _ List.mem_cons_self) hk
  have hini' : (Cond.initialized cls).before args s' = true := vx_ot_at hW0 hvm.symm (hgood _ (List.mem_cons_of_mem _ List.mem_cons_self)) hini
  have hU' : vx_Zq Bundle.tN "UNASSIGNED_STACK" Bundle.steD A s' s'.heap := by rw [hhp]; exact vx_Zq.moved hW0.alike (hU.kept hS.2.1)
  have hN' : vx_Zq Bundle.tN "SUPPRESSED_SENTINEL" Bundle.listD A s' s'.heap := by rw [hhp]; exact vx_Zq.moved hW0.alike (hN.kept hS.2.1)
  have h : ∀ w ∈ Bundle.ownAtoms own ic cls names, w.before args s' = true := vx_own hat' (vx_isRefq hU'.1) (vx_isRefq hN'.1) hU'.2.word hN'.2.word
  have hown' : s'.vm.findClass own = some m.cls := by rw [hvm]; exact hown
  have hins : (Cond.instantiable cls 6).before args s' = true := h _ (by simp [Bundle.ownAtoms])
  obtain ⟨vm₁, cX, kX, hfX, hkX, -, -, X₁, st1⟩ := Y.newCold hexec (own := own) (C := cls) (index := ik) (n := 6) hown' hk' hins hini'
    (g := F0 m pc ls rest) rfl (by rw [hb]; exact d0) (Nat.le_refl _) (Nat.le_refl _)
  generalize hT1 : (T.setVm vm₁).pushCell { cls := cX, slots := kX.instanceTypes.map defaultValue, vm := .none } = T1 at X₁ st1
  have hcat : (Value.ref T.heap.size).category = 1 := rfl
  have hcellA : T1.heap[T.heap.size]? = some (freshCell cX kX) := by rw [← hT1]; exact State.heap_pushCell_size _ _
  have d3' : decode c.code (pc + 3) = .ok (.dup, 1) := by rw [hb]; exact d3
  have d4' : decode c.code (pc + 4) = .ok (.ldc_w is, 3) := by rw [hb]; exact d4
  have hstr' : vk_R own is text sa s' := vk_R.warm hW0 hstr
  obtain ⟨U, hsteps, hrun, hend, hW, hsame, ce, hce, hO⟩ := X₁.ctorThrowS hexec htr (own := own) (cls := cls) (names := names) (ic := ic) hown' hcls hnames h (fun x hx => nomatch hx) hfX hkX hcellA (by rw [hhp, hT]; exact Nat.le_refl _) (msg := .ref sa) rfl
    (g := { method := m, pc := pc + 7, locals := ls, stack := .ref sa :: .ref T.heap.size :: .ref T.heap.size :: rest, locked := none }) rfl hsize rfl rfl (rest := rest) rfl
    (by rw [hb]; exact d7) (by rw [hb]; exact d10) hout hRframes (by simp only [List.map_cons, List.sum_cons, hcat]; omega) hlocks
  obtain ⟨f1, f2⟩ := vx_frame hsame
  rw [hhp] at f1 f2
  have hWs : s.WarmedH U.vm := State.WarmedH.trans hW0 hW
  have hcl : s.vm.findClass cls = some ce.cls := by
    have h9 := hO.cls
    rw [hvm] at h9
    exact h9
  have hall : s.sameButNew ({ U with vm := s.vm } : State) locs mc ms := by
    subst hA
    obtain ⟨e1, e2⟩ := hsame
    rw [State.setFrames_setFrames] at e1
    have h2 : (T.setVm s.vm).sameButNew ({ U with vm := s.vm } : State) [] (0 + 1) (0 + 6) := ⟨e1, e2⟩
    have h3 := X.same.trans h2
    rw [List.append_nil] at h3
    exact h3.mono hc hs
  refine ⟨U, ?_, .threw T.heap.size, hrun, hend, Or.inr ⟨T.heap.size, rfl, cls, ce, locs, hx U hWs.alike f1 (fun q hq => f2 q hq (fun z hz => nomatch hz)), hce, hO.vm, hcl, hWs, hall, hf⟩⟩
  refine st1 _ ?_
  show Steps p.tables e below (T1.setTop { method := m, pc := pc + 3, locals := ls, stack := .ref T.heap.size :: rest, locked := none }) _
  jvm_step X₁.here [X₁.here.top, hexec, d3', Value.category]
  exact X₁.ldcStringW hexec (own := own) (text := text) (index := is) (a := sa) hown' hstr'.1 hstr'.2
    (g := { method := m, pc := pc + 4, locals := ls, stack := .ref T.heap.size :: .ref T.heap.size :: rest, locked := none }) rfl d4' _ hsteps
end Ends
section Bodies
variable {l : Launch}
theorem vx_ofW {y : MethodName} {ws ws' : List Cond} {rm : Room} {Pc : Array Value → State → Prop} {Qc : Array Value → State → Outcome → State → Prop} {XC : String → State → State → Prop} {mc ms : Nat} {free : Addr → Prop} {cc : ByteArray} {maxL : Nat} {ret : Option FieldType}
    (hy : plainName y.cls = true) (hw : ws = Cond.code y cc maxL ret :: ws')
    (body : ∀ p e s m args below meth c s₁, BodyLoose p l y (headSpec ws rm) cc maxL ret e s m args below meth c s₁ → c.maxLocals = maxL → (∀ x ∈ c.exceptionTable.toList, False) → Pc args s →
      W p l e (headSpec ws rm).room s m args below meth c s.heap [] 0 0 (vx_MQ below Qc XC args s mc ms free) (entryFrame m args maxL)) : vx_Met l y ws rm Pc Qc XC mc ms free := by
  refine MetFree.of_bodyS (code := cc) (maxLocals := maxL) (ret := ret) hy ?_ ?_
  · intro args s m h hn
    obtain ⟨meth, c, h1, h2, h3, h4, h5, h6, -, -⟩ := Cond.code_spec hn (atoms_spec (ws := ws) h _ (by rw [hw]; exact List.mem_cons_self))
    exact ⟨meth, c, h1, h2, h3, h4, h5, h6⟩
  · intro p e s m args below meth c s₁ B hml hP _
    have hh0 : s₁.heap = s.heap := by rw [B.state]; rfl
    have ht : ∀ x ∈ c.exceptionTable.toList, False := by
      obtain ⟨meth9, c9, h1, h2, -, -, -, -, h7, -⟩ := Cond.code_spec B.named (atoms_spec (ws := ws) B.pre _ (by rw [hw]; exact List.mem_cons_self))
      cases Option.some.inj (h1.symm.trans B.method)
      cases Option.some.inj (h2.symm.trans (Stand.of_body B).code)
      intro x hx
      rw [Array.isEmpty_iff.mp h7] at hx
      cases hx
    obtain ⟨t, a1, o, b1, b2, b3⟩ := body p e s m args below meth c s₁ B hml ht hP s₁ hh0 (Stand.of_body B)
    exact ⟨t, o, a1, b1, b2, b3⟩
/-- the table of a body with handlers -/
theorem vx_table {p : Program} {x y : MethodName} {S : Spec} {cc bytes : ByteArray} {maxL maxL' : Nat} {ret ret' : Option FieldType} {e : Env} {s s₁ : State} {m : MethodId} {args : Array Value} {below : List Frame} {meth : Method} {c : Code} {hh : List (Nat × Nat × Nat × Nat)}
    (B : BodyLoose p l y S cc maxL ret e s m args below meth c s₁) (h : (Cond.codeWith y bytes maxL' ret' hh).before args s = true) : c.exceptionTable.toList = tableOf hh := by
  obtain ⟨m9, meth9, c9, hn9, h1, h2, -, -, h6, -⟩ := Cond.codeWith_spec h
  cases Option.some.inj (hn9.symm.trans B.named)
  cases Option.some.inj (h1.symm.trans B.method)
  cases Option.some.inj (h2.symm.trans (Stand.of_body B).code)
  rw [← h6, table_eq]
end Bodies
end VXA
/-! ===== END ===== -/
/-! ===== BEGIN a static call of a method with an exception table ===== -/
section VXS
variable {p : Program} {l : Launch} {e : Env} {R : Room} {s : State} {m : MethodId} {args : Array Value} {below : List Frame} {meth : Method} {c : Code} {T : State} {H : Heap} {locs : List Loc} {cells slots : Nat}
abbrev vx_CSW (R : Room) (s : State) (args : Array Value) (own : String) (index : Nat) (y : MethodName) (bytes : ByteArray) (maxL : Nat) (ret : Option FieldType) (hh : List (Nat × Nat × Nat × Nat)) (ws : List Cond) (rm : Room) (mc ms n : Nat) : Prop :=
  (rm.cells = mc ∧ rm.slots = ms ∧ rm.frames + 1 ≤ R.frames ∧ 8 + (maxL + 11) + rm.locals ≤ R.locals ∧ (∀ w ∈ ws, ∀ (a' : Array Value) (U : State), s.WarmedH U.vm → w.before a' U = true) ∧ Cond.codeWith y bytes maxL ret hh ∈ ws) ∧
  (Cond.codeWith y bytes maxL ret hh).before args s = true ∧ (Cond.initialized y.cls).before args s = true ∧ (y.cls ≠ "java/lang/invoke/MethodHandle" ∧ y.cls ≠ "java/lang/invoke/VarHandle") ∧
  (∀ sig, parseMethodDescriptor y.desc = some sig → n = sig.parameters.length) ∧ (Cond.methodLink own index y).before args s = true ∧ (Cond.static y).before args s = true
theorem vx_cwSW {own : String} {index maxL mc ms : Nat} {y : MethodName} {bytes : ByteArray} {ret : Option FieldType} {hh : List (Nat × Nat × Nat × Nat)} {Ts ws ws' : List Cond} {rm : Room} (n : Nat) (ht : ∀ w ∈ Ts, w.before args s = true) (hT : GoodIn Ts (va_wsS own index y ws)) (hw : ws = Cond.codeWith y bytes maxL ret hh :: ws') (hrc : rm.cells = mc) (hrs : rm.slots = ms)
    (hd : y.cls ≠ "java/lang/invoke/MethodHandle" ∧ y.cls ≠ "java/lang/invoke/VarHandle" ∧ (parseMethodDescriptor y.desc).map (fun d => d.parameters.length) = some n) (hR : rm.frames + 1 ≤ R.frames ∧ 8 + (maxL + 11) + rm.locals ≤ R.locals) :
    vx_CSW R s args own index y bytes maxL ret hh ws rm mc ms n := by
  have ok : ∀ w ∈ va_wsS own index y ws, w.before args s = true := fun w h => ht w (hT w h).1
  have hG : GoodIn Ts ws := fun w h => hT w (by unfold va_wsS; exact List.mem_append_right _ h)
  have hc : Cond.codeWith y bytes maxL ret hh ∈ ws := by rw [hw]; exact List.mem_cons_self
  refine ⟨⟨hrc, hrs, hR.1, hR.2, pay_in ht hG, hc⟩, ht _ (hG _ hc).1, ok _ (by simp [va_wsS]), ⟨hd.1, hd.2.1⟩, fun sig h => ?_, ok _ (by simp [va_wsS]), ok _ (by simp [va_wsS])⟩
  have h2 := hd.2.2
  rw [h] at h2
  exact (Option.some.inj h2).symm
theorem vx_callSW (X : Stand p l e R s m args below meth c T locs cells slots) (hexec : p.tables.exec = Jvm.exec) {own : String} {index : Nat} {y : MethodName} {bytes : ByteArray} {maxL : Nat} {ret : Option FieldType} {hh : List (Nat × Nat × Nat × Nat)}
    (hown : s.vm.findClass own = some m.cls) (hlink : (Cond.methodLink own index y).before args s = true) (hstat : (Cond.static y).before args s = true) (hinit : (Cond.initialized y.cls).before args s = true)
    (hcode : (Cond.codeWith y bytes maxL ret hh).before args s = true) (hy : y.cls ≠ "java/lang/invoke/MethodHandle" ∧ y.cls ≠ "java/lang/invoke/VarHandle")
    {W9 : Nat} {Pre : Pt → Array Value → Prop} {Post : Pt → Array Value → Option Value → Pt → Prop} (hK : Back l R p e below s args y 3 W9 Pre Post)
    {g : JFrame} (hg : g.method = m) (hsize : g.locals.size = c.maxLocals) {argsL rest : List Value} (hlen : ∀ sig, parseMethodDescriptor y.desc = some sig → argsL.length = sig.parameters.length)
    (hstack : g.stack = argsL.reverse ++ rest) (hW : 2 * g.monitorRoom + (rest.map fun v => v.category).sum ≤ W9) (hdg : decode c.code g.pc = .ok (.invokestatic index, 3))
    (hpre : ∀ vm₁, s.WarmedH vm₁ → Pre ⟨T.setVm vm₁, locs, cells, slots⟩ argsL.toArray) :
    ∃ (v : Option Value) (vm₁ : Vm) (B : Pt), s.WarmedH vm₁ ∧ Stand p l e R s m args below meth c B.U B.locs B.cells B.slots ∧ Post ⟨T.setVm vm₁, locs, cells, slots⟩ argsL.toArray v B ∧
      ∀ target, Steps p.tables e below (B.U.setTop { g with pc := g.pc + 3, stack := v.toList ++ rest }) target → Steps p.tables e below (T.setTop g) target := by
  obtain ⟨mk, methM, cM, hnamed, hmethM, -, -, -, -, -, -, hsigM⟩ := Cond.codeWith_spec hcode
  have hstatic : methM.isStatic = true := Cond.static_spec hnamed hmethM hstat
  obtain ⟨kP, hkP, -⟩ := className_of_methodNamed hnamed
  have hinitP : kP.init = .initialized := Cond.initialized_spec (findClass_of_methodNamed hnamed) hkP hinit
  obtain ⟨vm₁, X₁, hstep₁⟩ := X.invokestatic hexec hown hlink hnamed hmethM hstatic hkP hinitP hy (g := g) hg (argsL := argsL) (rest := rest) (hlen _ hsigM) hstack hdg
  obtain ⟨v, B, X', hpost, hsteps⟩ := hK m meth c ⟨T.setVm vm₁, locs, cells, slots⟩ { g with stack := rest } (.invokestatic index) mk argsL.toArray X₁ hg hsize hdg hW (X₁.named hnamed) (hpre vm₁ X₁.warmed)
  exact ⟨v, vm₁, B, X₁.warmed, X', hpost, fun target h => hstep₁ _ fun acts => by rw [doInvoke_state]; exact hsteps.trans h⟩
theorem vx_runSW {y : MethodName} {bytes cc : ByteArray} {maxL nL mc ms n index : Nat} {ret : Option FieldType} {hh : List (Nat × Nat × Nat × Nat)} {ws : List Cond} {rm : Room} {Pc : Array Value → State → Prop} {Qc : Array Value → State → Outcome → State → Prop} {free : Addr → Prop} {Ts : List Cond} {own : String} {As rest : List Value} {g : JFrame}
    (S : CallFix p m c cc nL s args Ts own) (hM : Met l y ws rm Pc Qc mc ms free) (cw : vx_CSW R s args own index y bytes maxL ret hh ws rm mc ms n) (hp : PreS s H Pc As)
    (hg : g.method = m) (hn : As.length = n) (hsize : g.locals.size = nL) (hstack : g.stack = As.reverse ++ rest) (hW : 2 * g.monitorRoom + (rest.map fun v => v.category).sum ≤ 8) (hdg : decode cc g.pc = .ok (.invokestatic index, 3)) (hf : cells + mc ≤ R.cells ∧ slots + ms ≤ R.slots) :
    va_Run p l e R s m args below meth c H locs cells slots mc ms g rest (Qc As.toArray) (free) := by
  obtain ⟨⟨hrc, hrs, hfr, hlo, hws, hcw⟩, hcode, hini, hy, hlen, hl, hstt⟩ := cw
  have hK : Back l R p e below s args y 3 8 (PreOf R mc ms Pc) (PostOf Qc mc ms free) := va_backW (hh := hh) (bytes := bytes) (maxL := maxL) (ret := ret) hM hp.1 hrc hrs hfr hlo hws hcw (fun a' U hW => word_at hW (Or.inl (by first | rfl | simp [Cond.onTables, Cond.keeps, Cond.steady])) hini)
  obtain ⟨hx, hb, hml, ho, -⟩ := S
  intro T hT X
  obtain ⟨v, vm₁, ⟨U', l2, c2, s2⟩, hW₁, X', ⟨g', mk, t, L, e1, e2, hq, h1, hL, h2, h3⟩, st⟩ := vx_callSW X hx (hh := hh) (bytes := bytes) (maxL := maxL) (ret := ret) ho hl hstt hini hcode hy hK hg (hsize.trans hml.symm) (argsL := As) (rest := rest) (fun sig h => hn.trans (hlen sig h)) hstack hW (by rw [hb]; exact hdg)
    (fun vm₁ hW₁ => ⟨hf.1, hf.2, hp.2 (T.setVm vm₁) hT hW₁⟩)
  dsimp only [Pt.U, Pt.locs, Pt.cells, Pt.slots] at X' e1 e2 h1 h2 h3 st
  subst h1; subst h2; subst h3
  exact ⟨v, (T.setVm vm₁).calling g' mk As.toArray, t, U', L, hT, X', hL, e1, e2, hq, st⟩
/-- a thing of a world lies in the heap -/
theorem vx_lt {D : va_G} {cl : List vw_C} {ws : va_W} {H1 : Heap} (h : va_P D cl ws H1) {k : Nat} {q : Nat × va_E} (hk : ws[k]? = some q) : q.1 < H1.size := (h k q hk).lt
end VXS
/-! ===== END ===== -/
/-! ===== BEGIN methods with a table of their own: called by a name, returning or throwing ===== -/
section VXH
/-! vx_backW, vx_callVX, vx_callSX, vx_callVW, vx_runVW, vx_runVX, vx_runSX, vx_ofWH follow the same proofs as their sisters above (Free/Laws.lean, Shelf42/LK1.lean); vx_outP calls Shelf42/NT130.lean (outThrough). -/
section
variable {l : Launch} {R : Room} {p : Program} {e : Env} {below : List Frame} {s : State} {sargs : Array Value} {y : MethodName} {len W9 : Nat}
theorem vx_backW {ws : List Cond} {rm : Room} {Pc : Array Value → State → Prop} {Qc : Array Value → State → Outcome → State → Prop} {XC : String → State → State → Prop} {mc ms : Nat} {free : Addr → Prop} {bytes : ByteArray} {maxL : Nat} {ret : Option FieldType} {hh : List (Nat × Nat × Nat × Nat)}
    (hM : vx_Met l y ws rm Pc Qc XC mc ms free) (hblind : FrameBlind Pc) (hrc : rm.cells = mc) (hrs : rm.slots = ms)
    (hframes : rm.frames + 1 ≤ R.frames) (hlocals : W9 + (maxL + 11) + rm.locals ≤ R.locals)
    (hws : ∀ w ∈ ws, ∀ a' U, s.WarmedH U.vm → w.before a' U = true) (hcode : Cond.codeWith y bytes maxL ret hh ∈ ws) (hinit : ∀ a' U, s.WarmedH U.vm → (Cond.initialized y.cls).before a' U = true) :
    vx_Back l R p e below s sargs y len W9 (PreOf R mc ms Pc) (PostOf Qc mc ms free) (vx_Post XC mc ms free) := by
  intro m meth c A g ig mk a X hg hsize hdg hW hn hp
  have h1 : (headSpec ws rm).pre.before a A.U = true := atoms_intro fun w hw => hws w hw _ _ X.warmed
  have h2 : (Cond.codeWith y bytes maxL ret hh).before a A.U = true := hws _ hcode _ _ X.warmed
  have h3 : (Cond.initialized y.cls).before a A.U = true := hinit _ _ X.warmed
  have h4 : A.cells + (headSpec ws rm).room.cells ≤ R.cells := by rw [show (headSpec ws rm).room.cells = mc from hrc]; exact hp.1
  have h5 : A.slots + (headSpec ws rm).room.slots ≤ R.slots := by rw [show (headSpec ws rm).room.slots = ms from hrs]; exact hp.2.1
  have hPc : Pc a (A.U.calling g mk a) := hblind _ _ _ _ hp.2.2
  obtain ⟨U, Ls, c0, s0⟩ := A
  dsimp only [Pt.U, Pt.locs, Pt.cells, Pt.slots] at h1 h2 h3 h4 h5 X hn hPc ⊢
  obtain ⟨m9, methY, cY, hn9, hmY, hcY, -, hlY, -⟩ := Cond.codeWith_spec h2
  cases Option.some.inj (hn9.symm.trans hn)
  obtain ⟨kY, hkY, -⟩ := className_of_methodNamed hn
  have hinitY : kY.init = .initialized := Cond.initialized_spec (findClass_of_methodNamed hn) hkY h3
  have h : At U g.method c below := by rw [hg]; exact X.here
  have hlocals9 : W9 + (maxL + 11) + (headSpec ws rm).room.locals ≤ R.locals := hlocals
  have happ : (headSpec ws rm).appliesLoose y e.platform (U.calling g mk a) = true :=
    Spec.appliesLoose_calling (g := g) h hdg hn hkY hinitY
      (X.room_calling (g := g) (R' := (headSpec ws rm).room) hsize hmY hcY hframes (by rw [hlY]; omega) h4 h5) h1
  obtain ⟨mid, hmid⟩ := h.above
  have hfr : (U.setTop g).frames = (.java g :: mid) ++ below := by rw [State.frames_setTop' g h.top, hmid]; rfl
  obtain ⟨o, s₂, hsteps, -, hend, hq⟩ := Steps.callFree hM p X.admits X.cas X.clock (acts := []) hfr happ hPc trivial
  have hq' : vx_Q Qc XC mc ms free a (U.calling g mk a) o s₂ := hq
  rw [State.frames_setTop' g h.top] at hend
  obtain ⟨g₀, hg0⟩ := Option.isSome_iff_exists.mp h.top
  obtain ⟨r, hr⟩ := State.topJava?_eq_some.mp hg0
  have hr' : (({ U with heap := s₂.heap, slotsUsed := s₂.slotsUsed } : State).setVm s₂.vm).frames = .java g₀ :: r := hr
  rcases hq' with ⟨hqc, L, hfe, hL⟩ | ⟨q, rfl, E, ce, L, hx, hce, hcv, hcl, hW₂, hsm, hL⟩
  · obtain ⟨⟨v, rfl⟩, hW₂, e2, q2, q3, q4, q5, q6⟩ := id hfe
    have e3 : s₂ = ({ (U.calling g mk a).setFrames s₂.frames with heap := s₂.heap, slotsUsed := s₂.slotsUsed } : State).setVm s₂.vm := by
      have : s₂ = ({ s₂ with vm := (U.calling g mk a).vm } : State).setVm s₂.vm := rfl
      rw [e2] at this
      exact this
    obtain ⟨c₂, i₂, len₂, hc₂, hd₂, hf₂⟩ := hend
    have hW' : U.WarmedH s₂.vm := hW₂
    have hcc : c₂ = c := by
      have h1 : s₂.code? g.method = U.code? g.method := by
        rw [State.code?_eq, State.code?_eq, hW'.alike.method?]
      exact Option.some.inj (hc₂.symm.trans (h1.trans h.code))
    subst hcc
    have hlen : len₂ = len := by rw [hdg] at hd₂; cases hd₂; rfl
    subst hlen
    have hs₂ : s₂ = (({ U with heap := s₂.heap, slotsUsed := s₂.slotsUsed } : State).setVm s₂.vm).setTop { g with pc := g.pc + len₂, stack := v.toList ++ g.stack } := by
      refine e3.trans ?_
      rw [hf₂, State.calling_eq h.top, State.setFrames_setFrames, State.setTop_of_frames _ hr', hr]
      rfl
    have hsame : U.sameButNew ({ U with heap := s₂.heap, slotsUsed := s₂.slotsUsed } : State) L mc ms := by
      refine ⟨?_, q2, q3, q4, q5, q6⟩
      obtain ⟨t, ht, -⟩ := State.frames_cons hr
      show ({ U with heap := s₂.heap, slotsUsed := s₂.slotsUsed } : State) = { U.setFrames U.frames with heap := s₂.heap, slotsUsed := s₂.slotsUsed }
      rw [State.setFrames_self ht]
    subst hg
    refine Or.inl ⟨v, ⟨(({ U with heap := s₂.heap, slotsUsed := s₂.slotsUsed } : State).setVm s₂.vm), Ls ++ L, c0 + mc, s0 + ms⟩,
      ⟨X.admits, X.cas, X.clock, X.frames, X.room, X.hears, X.method, X.code, (X.here.setHeapUsed s₂.heap s₂.slotsUsed).setVm hW'.alike, X.tail, State.WarmedH.trans X.warmed hW', X.limits, X.bytes, X.same.trans (hsame.setVm s.vm)⟩,
      ⟨g, mk, s₂, L, rfl, rfl, hqc, rfl, hL, rfl, rfl⟩, ?_⟩
    show Steps p.tables e below _ ((({ U with heap := s₂.heap, slotsUsed := s₂.slotsUsed } : State).setVm s₂.vm).setTop { g with pc := g.pc + len₂, stack := v.toList ++ g.stack })
    rw [← hs₂]
    exact hsteps
  · obtain ⟨e2, q2, q3, q4, q5, q6⟩ := id hsm
    have e3 : s₂ = ({ (U.calling g mk a).setFrames s₂.frames with heap := s₂.heap, slotsUsed := s₂.slotsUsed } : State).setVm s₂.vm := by
      have : s₂ = ({ s₂ with vm := (U.calling g mk a).vm } : State).setVm s₂.vm := rfl
      rw [e2] at this
      exact this
    have hf₂ : s₂.frames = .throwing q :: .java g :: U.frames.tail := hend
    have hW' : U.WarmedH s₂.vm := hW₂
    have hs₂ : s₂ = ((({ U with heap := s₂.heap, slotsUsed := s₂.slotsUsed } : State).setVm s₂.vm).setTop g).pushFrame (.throwing q) := by
      refine e3.trans ?_
      rw [hf₂, State.calling_eq h.top, State.setFrames_setFrames, State.pushFrame, State.frames_setTop _ hr', State.setTop_of_frames _ hr', State.setFrames_setFrames, hr]
      rfl
    have hsame : U.sameButNew ({ U with heap := s₂.heap, slotsUsed := s₂.slotsUsed } : State) L mc ms := by
      refine ⟨?_, q2, q3, q4, q5, q6⟩
      obtain ⟨t, ht, -⟩ := State.frames_cons hr
      show ({ U with heap := s₂.heap, slotsUsed := s₂.slotsUsed } : State) = { U.setFrames U.frames with heap := s₂.heap, slotsUsed := s₂.slotsUsed }
      rw [State.setFrames_self ht]
    subst hg
    refine Or.inr ⟨q, ⟨(({ U with heap := s₂.heap, slotsUsed := s₂.slotsUsed } : State).setVm s₂.vm), Ls ++ L, c0 + mc, s0 + ms⟩,
      ⟨X.admits, X.cas, X.clock, X.frames, X.room, X.hears, X.method, X.code, (X.here.setHeapUsed s₂.heap s₂.slotsUsed).setVm hW'.alike, X.tail, State.WarmedH.trans X.warmed hW', X.limits, X.bytes, X.same.trans (hsame.setVm s.vm)⟩,
      ⟨g, mk, s₂, L, E, ce, rfl, rfl, hx, hce, hcv, hcl, rfl, hL, rfl, rfl⟩, ?_⟩
    show Steps p.tables e below _ (((({ U with heap := s₂.heap, slotsUsed := s₂.slotsUsed } : State).setVm s₂.vm).setTop g).pushFrame (.throwing q))
    rw [← hs₂]
    exact hsteps
end
variable {p : Program} {l : Launch} {e : Env} {R : Room} {s : State} {m : MethodId} {args : Array Value} {below : List Frame} {meth : Method} {c : Code} {T : State} {H : Heap} {locs : List Loc} {cells slots : Nat}
theorem vx_callVX (X : Stand p l e R s m args below meth c T locs cells slots) (hexec : p.tables.exec = Jvm.exec) {own C : String} {index : Nat} {y : MethodName} {bytes : ByteArray} {maxL : Nat} {ret : Option FieldType} {hh : List (Nat × Nat × Nat × Nat)}
    (hown : s.vm.findClass own = some m.cls) (hlink : (Cond.methodLink own index y).before args s = true) (hinst : (Cond.instanceMethod y).before args s = true) (hsel : (Cond.selects C y y).before args s = true)
    (hcode : (Cond.codeWith y bytes maxL ret hh).before args s = true) (hy : y.cls ≠ "java/lang/invoke/MethodHandle" ∧ y.cls ≠ "java/lang/invoke/VarHandle")
    {W9 : Nat} {Pre : Pt → Array Value → Prop} {Post : Pt → Array Value → Option Value → Pt → Prop} {PostX : Pt → Array Value → Addr → Pt → Prop} (hK : vx_Back l R p e below s args y 3 W9 Pre Post PostX)
    {b : Addr} {cellB : Cell} (hcell : T.heap[b]? = some cellB) (hobj : cellB.vm.isStatics = false) (hcls : s.vm.findClass C = some cellB.cls)
    {g : JFrame} (hg : g.method = m) (hsize : g.locals.size = c.maxLocals) {argsL rest : List Value} (hlen : ∀ sig, parseMethodDescriptor y.desc = some sig → argsL.length = sig.parameters.length)
    (hstack : g.stack = argsL.reverse ++ .ref b :: rest) (hW : 2 * g.monitorRoom + (rest.map fun v => v.category).sum ≤ W9) (hdg : decode c.code g.pc = .ok (.invokevirtual index, 3))
    (hpre : ∀ vm₁, s.WarmedH vm₁ → Pre ⟨T.setVm vm₁, locs, cells, slots⟩ (Value.ref b :: argsL).toArray) :
    (∃ (v : Option Value) (vm₁ : Vm) (B : Pt), s.WarmedH vm₁ ∧ Stand p l e R s m args below meth c B.U B.locs B.cells B.slots ∧ Post ⟨T.setVm vm₁, locs, cells, slots⟩ (Value.ref b :: argsL).toArray v B ∧
      ∀ target, Steps p.tables e below (B.U.setTop { g with pc := g.pc + 3, stack := v.toList ++ rest }) target → Steps p.tables e below (T.setTop g) target) ∨
    (∃ (q : Addr) (vm₁ : Vm) (B : Pt), s.WarmedH vm₁ ∧ Stand p l e R s m args below meth c B.U B.locs B.cells B.slots ∧ PostX ⟨T.setVm vm₁, locs, cells, slots⟩ (Value.ref b :: argsL).toArray q B ∧
      Steps p.tables e below (T.setTop g) ((B.U.setTop { g with stack := rest }).pushFrame (.throwing q))) := by
  obtain ⟨mk, methM, hnamed, hmethM, hstM, habM⟩ := Cond.instanceMethod_spec hinst
  obtain ⟨m8, methM', cM, hn8, hmethM', -, -, -, -, -, -, hsigM⟩ := Cond.codeWith_spec hcode
  cases Option.some.inj (hn8.symm.trans hnamed)
  cases hmethM.symm.trans hmethM'
  obtain ⟨c2, r2, m2, q1, q2, q3, q4, kP, hkP, hkPi⟩ := Cond.selects_spec hsel
  cases hcls.symm.trans q1
  cases (State.methodFound?_of_named hnamed hy).symm.trans q2
  cases hnamed.symm.trans q3
  have hselP : selectMethod e.platform s.vm cellB.cls mk = .method mk := by rw [Launch.admits_selectMethod X.admits]; exact q4
  obtain ⟨vm₁, X₁, hstep₁⟩ := X.invokevirtual hexec hown hlink hnamed hmethM hstM hkP hkPi hy (a := b) (cell := cellB) hcell
    (fun z h => by rw [h] at hobj; cases hobj) hselP hmethM habM hkP hkPi (g := g) hg (argsL := argsL) (rest := rest) (hlen _ hsigM) hstack hdg
  rcases hK m meth c ⟨T.setVm vm₁, locs, cells, slots⟩ { g with stack := rest } (.invokevirtual index) mk (Value.ref b :: argsL).toArray X₁ hg hsize hdg hW (X₁.named hnamed) (hpre vm₁ X₁.warmed) with ⟨v, B, X', hpost, hsteps⟩ | ⟨q, B, X', hpost, hsteps⟩
  · exact Or.inl ⟨v, vm₁, B, X₁.warmed, X', hpost, fun target h => hstep₁ _ fun acts => by rw [doInvoke_state]; exact hsteps.trans h⟩
  · exact Or.inr ⟨q, vm₁, B, X₁.warmed, X', hpost, hstep₁ _ fun acts => by rw [doInvoke_state]; exact hsteps⟩
theorem vx_callSX (X : Stand p l e R s m args below meth c T locs cells slots) (hexec : p.tables.exec = Jvm.exec) {own : String} {index : Nat} {y : MethodName} {bytes : ByteArray} {maxL : Nat} {ret : Option FieldType} {hh : List (Nat × Nat × Nat × Nat)}
    (hown : s.vm.findClass own = some m.cls) (hlink : (Cond.methodLink own index y).before args s = true) (hstat : (Cond.static y).before args s = true) (hinit : (Cond.initialized y.cls).before args s = true)
    (hcode : (Cond.codeWith y bytes maxL ret hh).before args s = true) (hy : y.cls ≠ "java/lang/invoke/MethodHandle" ∧ y.cls ≠ "java/lang/invoke/VarHandle")
    {W9 : Nat} {Pre : Pt → Array Value → Prop} {Post : Pt → Array Value → Option Value → Pt → Prop} {PostX : Pt → Array Value → Addr → Pt → Prop} (hK : vx_Back l R p e below s args y 3 W9 Pre Post PostX)
    {g : JFrame} (hg : g.method = m) (hsize : g.locals.size = c.maxLocals) {argsL rest : List Value} (hlen : ∀ sig, parseMethodDescriptor y.desc = some sig → argsL.length = sig.parameters.length)
    (hstack : g.stack = argsL.reverse ++ rest) (hW : 2 * g.monitorRoom + (rest.map fun v => v.category).sum ≤ W9) (hdg : decode c.code g.pc = .ok (.invokestatic index, 3))
    (hpre : ∀ vm₁, s.WarmedH vm₁ → Pre ⟨T.setVm vm₁, locs, cells, slots⟩ argsL.toArray) :
    (∃ (v : Option Value) (vm₁ : Vm) (B : Pt), s.WarmedH vm₁ ∧ Stand p l e R s m args below meth c B.U B.locs B.cells B.slots ∧ Post ⟨T.setVm vm₁, locs, cells, slots⟩ argsL.toArray v B ∧
      ∀ target, Steps p.tables e below (B.U.setTop { g with pc := g.pc + 3, stack := v.toList ++ rest }) target → Steps p.tables e below (T.setTop g) target) ∨
    (∃ (q : Addr) (vm₁ : Vm) (B : Pt), s.WarmedH vm₁ ∧ Stand p l e R s m args below meth c B.U B.locs B.cells B.slots ∧ PostX ⟨T.setVm vm₁, locs, cells, slots⟩ argsL.toArray q B ∧
      Steps p.tables e below (T.setTop g) ((B.U.setTop { g with stack := rest }).pushFrame (.throwing q))) := by
  obtain ⟨mk, methM, cM, hnamed, hmethM, -, -, -, -, -, -, hsigM⟩ := Cond.codeWith_spec hcode
  have hstatic : methM.isStatic = true := Cond.static_spec hnamed hmethM hstat
  obtain ⟨kP, hkP, -⟩ := className_of_methodNamed hnamed
  have hinitP : kP.init = .initialized := Cond.initialized_spec (findClass_of_methodNamed hnamed) hkP hinit
  obtain ⟨vm₁, X₁, hstep₁⟩ := X.invokestatic hexec hown hlink hnamed hmethM hstatic hkP hinitP hy (g := g) hg (argsL := argsL) (rest := rest) (hlen _ hsigM) hstack hdg
  rcases hK m meth c ⟨T.setVm vm₁, locs, cells, slots⟩ { g with stack := rest } (.invokestatic index) mk argsL.toArray X₁ hg hsize hdg hW (X₁.named hnamed) (hpre vm₁ X₁.warmed) with ⟨v, B, X', hpost, hsteps⟩ | ⟨q, B, X', hpost, hsteps⟩
  · exact Or.inl ⟨v, vm₁, B, X₁.warmed, X', hpost, fun target h => hstep₁ _ fun acts => by rw [doInvoke_state]; exact hsteps.trans h⟩
  · exact Or.inr ⟨q, vm₁, B, X₁.warmed, X', hpost, hstep₁ _ fun acts => by rw [doInvoke_state]; exact hsteps⟩
theorem vx_callVW (X : Stand p l e R s m args below meth c T locs cells slots) (hexec : p.tables.exec = Jvm.exec) {own C : String} {index : Nat} {y : MethodName} {bytes : ByteArray} {maxL : Nat} {ret : Option FieldType} {hh : List (Nat × Nat × Nat × Nat)}
    (hown : s.vm.findClass own = some m.cls) (hlink : (Cond.methodLink own index y).before args s = true) (hinst : (Cond.instanceMethod y).before args s = true) (hsel : (Cond.selects C y y).before args s = true)
    (hcode : (Cond.codeWith y bytes maxL ret hh).before args s = true) (hy : y.cls ≠ "java/lang/invoke/MethodHandle" ∧ y.cls ≠ "java/lang/invoke/VarHandle")
    {W9 : Nat} {Pre : Pt → Array Value → Prop} {Post : Pt → Array Value → Option Value → Pt → Prop} (hK : Back l R p e below s args y 3 W9 Pre Post)
    {b : Addr} {cellB : Cell} (hcell : T.heap[b]? = some cellB) (hobj : cellB.vm.isStatics = false) (hcls : s.vm.findClass C = some cellB.cls)
    {g : JFrame} (hg : g.method = m) (hsize : g.locals.size = c.maxLocals) {argsL rest : List Value} (hlen : ∀ sig, parseMethodDescriptor y.desc = some sig → argsL.length = sig.parameters.length)
    (hstack : g.stack = argsL.reverse ++ .ref b :: rest) (hW : 2 * g.monitorRoom + (rest.map fun v => v.category).sum ≤ W9) (hdg : decode c.code g.pc = .ok (.invokevirtual index, 3))
    (hpre : ∀ vm₁, s.WarmedH vm₁ → Pre ⟨T.setVm vm₁, locs, cells, slots⟩ (Value.ref b :: argsL).toArray) :
    ∃ (v : Option Value) (vm₁ : Vm) (B : Pt), s.WarmedH vm₁ ∧ Stand p l e R s m args below meth c B.U B.locs B.cells B.slots ∧ Post ⟨T.setVm vm₁, locs, cells, slots⟩ (Value.ref b :: argsL).toArray v B ∧
      ∀ target, Steps p.tables e below (B.U.setTop { g with pc := g.pc + 3, stack := v.toList ++ rest }) target → Steps p.tables e below (T.setTop g) target := by
  obtain ⟨mk, methM, hnamed, hmethM, hstM, habM⟩ := Cond.instanceMethod_spec hinst
  obtain ⟨m8, methM', cM, hn8, hmethM', -, -, -, -, -, -, hsigM⟩ := Cond.codeWith_spec hcode
  cases Option.some.inj (hn8.symm.trans hnamed)
  cases hmethM.symm.trans hmethM'
  obtain ⟨c2, r2, m2, q1, q2, q3, q4, kP, hkP, hkPi⟩ := Cond.selects_spec hsel
  cases hcls.symm.trans q1
  cases (State.methodFound?_of_named hnamed hy).symm.trans q2
  cases hnamed.symm.trans q3
  have hselP : selectMethod e.platform s.vm cellB.cls mk = .method mk := by rw [Launch.admits_selectMethod X.admits]; exact q4
  obtain ⟨vm₁, X₁, hstep₁⟩ := X.invokevirtual hexec hown hlink hnamed hmethM hstM hkP hkPi hy (a := b) (cell := cellB) hcell
    (fun z h => by rw [h] at hobj; cases hobj) hselP hmethM habM hkP hkPi (g := g) hg (argsL := argsL) (rest := rest) (hlen _ hsigM) hstack hdg
  obtain ⟨v, B, X', hpost, hsteps⟩ := hK m meth c ⟨T.setVm vm₁, locs, cells, slots⟩ { g with stack := rest } (.invokevirtual index) mk (Value.ref b :: argsL).toArray X₁ hg hsize hdg hW (X₁.named hnamed) (hpre vm₁ X₁.warmed)
  exact ⟨v, vm₁, B, X₁.warmed, X', hpost, fun target h => hstep₁ _ fun acts => by rw [doInvoke_state]; exact hsteps.trans h⟩
abbrev vx_CVW (R : Room) (s : State) (args : Array Value) (own C : String) (index : Nat) (y : MethodName) (bytes : ByteArray) (maxL : Nat) (ret : Option FieldType) (hh : List (Nat × Nat × Nat × Nat)) (ws : List Cond) (rm : Room) (mc ms n : Nat) : Prop :=
  (rm.cells = mc ∧ rm.slots = ms ∧ rm.frames + 1 ≤ R.frames ∧ 8 + (maxL + 11) + rm.locals ≤ R.locals ∧ (∀ w ∈ ws, ∀ (a' : Array Value) (U : State), s.WarmedH U.vm → w.before a' U = true) ∧ Cond.codeWith y bytes maxL ret hh ∈ ws) ∧
  (Cond.codeWith y bytes maxL ret hh).before args s = true ∧ (Cond.initialized y.cls).before args s = true ∧ (y.cls ≠ "java/lang/invoke/MethodHandle" ∧ y.cls ≠ "java/lang/invoke/VarHandle") ∧
  (∀ sig, parseMethodDescriptor y.desc = some sig → n = sig.parameters.length) ∧ (Cond.methodLink own index y).before args s = true ∧ (Cond.instanceMethod y).before args s = true ∧ (Cond.selects C y y).before args s = true
theorem vx_cwVW {own C : String} {index maxL mc ms : Nat} {y : MethodName} {bytes : ByteArray} {ret : Option FieldType} {hh : List (Nat × Nat × Nat × Nat)} {Ts ws ws' : List Cond} {rm : Room} (n : Nat) (ht : ∀ w ∈ Ts, w.before args s = true) (hT : GoodIn Ts (wsV own index C y ws)) (hw : ws = Cond.codeWith y bytes maxL ret hh :: ws') (hrc : rm.cells = mc) (hrs : rm.slots = ms)
    (hd : y.cls = C ∧ y.cls ≠ "java/lang/invoke/MethodHandle" ∧ y.cls ≠ "java/lang/invoke/VarHandle" ∧ (parseMethodDescriptor y.desc).map (fun d => d.parameters.length) = some n) (hR : rm.frames + 1 ≤ R.frames ∧ 8 + (maxL + 11) + rm.locals ≤ R.locals) :
    vx_CVW R s args own C index y bytes maxL ret hh ws rm mc ms n := by
  obtain ⟨hC, hd⟩ := hd
  subst hC
  have ok : ∀ w ∈ wsV own index y.cls y ws, w.before args s = true := fun w h => ht w (hT w h).1
  have hG : GoodIn Ts ws := fun w h => hT w (by unfold wsV; exact List.mem_append_right _ h)
  have hc : Cond.codeWith y bytes maxL ret hh ∈ ws := by rw [hw]; exact List.mem_cons_self
  refine ⟨⟨hrc, hrs, hR.1, hR.2, pay_in ht hG, hc⟩, ht _ (hG _ hc).1, ok _ (by simp [wsV]), ⟨hd.1, hd.2.1⟩, fun sig h => ?_, ok _ (by simp [wsV]), ok _ (by simp [wsV]), ok _ (by simp [wsV])⟩
  have h2 := hd.2.2
  rw [h] at h2
  exact (Option.some.inj h2).symm
theorem vx_runVW {y : MethodName} {bytes cc : ByteArray} {maxL nL mc ms n index : Nat} {ret : Option FieldType} {hh : List (Nat × Nat × Nat × Nat)} {ws : List Cond} {rm : Room} {Pc : Array Value → State → Prop} {Qc : Array Value → State → Outcome → State → Prop} {free : Addr → Prop} {Ts : List Cond} {own C : String} {b : Addr} {As rest : List Value} {g : JFrame}
    (S : CallFix p m c cc nL s args Ts own) (hM : Met l y ws rm Pc Qc mc ms free) (cw : vx_CVW R s args own C index y bytes maxL ret hh ws rm mc ms n) (hp : PreV s H C b Pc As)
    (hg : g.method = m) (hn : As.length = n) (hsize : g.locals.size = nL) (hstack : g.stack = As.reverse ++ .ref b :: rest) (hW : 2 * g.monitorRoom + (rest.map fun v => v.category).sum ≤ 8) (hdg : decode cc g.pc = .ok (.invokevirtual index, 3)) (hf : cells + mc ≤ R.cells ∧ slots + ms ≤ R.slots) :
    va_Run p l e R s m args below meth c H locs cells slots mc ms g rest (Qc (Value.ref b :: As).toArray) free := by
  obtain ⟨⟨hrc, hrs, hfr, hlo, hws, hcw⟩, hcode, hini, hy, hlen, hl, hin, hse⟩ := cw
  have hK : Back l R p e below s args y 3 8 (PreOf R mc ms Pc) (PostOf Qc mc ms free) := va_backW (hh := hh) (bytes := bytes) (maxL := maxL) (ret := ret) hM hp.1 hrc hrs hfr hlo hws hcw (fun a' U hW => word_at hW (Or.inl (by first | rfl | simp [Cond.onTables, Cond.keeps, Cond.steady])) hini)
  obtain ⟨hx, hb, hml, ho, -⟩ := S
  obtain ⟨-, ⟨cellB, hcB, hoB, hclB⟩, hPc⟩ := hp
  intro T hT X
  obtain ⟨v, vm₁, ⟨U', l2, c2, s2⟩, hW₁, X', ⟨g', mk, t, L, e1, e2, hq, h1, hL, h2, h3⟩, st⟩ := vx_callVW X hx (C := C) (hh := hh) (bytes := bytes) (maxL := maxL) (ret := ret) ho hl hin hse hcode hy hK (by rw [hT]; exact hcB) hoB hclB hg (hsize.trans hml.symm) (argsL := As) (rest := rest) (fun sig h => hn.trans (hlen sig h)) hstack hW (by rw [hb]; exact hdg)
    (fun vm₁ hW₁ => ⟨hf.1, hf.2, hPc (T.setVm vm₁) hT hW₁⟩)
  dsimp only [Pt.U, Pt.locs, Pt.cells, Pt.slots] at X' e1 e2 h1 h2 h3 st
  subst h1; subst h2; subst h3
  exact ⟨v, (T.setVm vm₁).calling g' mk (Value.ref b :: As).toArray, t, U', L, hT, X', hL, e1, e2, hq, st⟩
section
variable {y : MethodName} {bytes cc : ByteArray} {maxL nL mc ms n index : Nat} {ret : Option FieldType} {ws : List Cond} {rm : Room} {Pc : Array Value → State → Prop} {Qc : Array Value → State → Outcome → State → Prop} {XC : String → State → State → Prop} {free : Addr → Prop} {Ts : List Cond} {own C : String} {b : Addr} {As rest : List Value} {g : JFrame}
theorem vx_runVX {hh : List (Nat × Nat × Nat × Nat)} (S : CallFix p m c cc nL s args Ts own) (hM : vx_Met l y ws rm Pc Qc XC mc ms free) (cw : vx_CVW R s args own C index y bytes maxL ret hh ws rm mc ms n) (hp : PreV s H C b Pc As)
    (hg : g.method = m) (hn : As.length = n) (hsize : g.locals.size = nL) (hstack : g.stack = As.reverse ++ .ref b :: rest) (hW : 2 * g.monitorRoom + (rest.map fun v => v.category).sum ≤ 8) (hdg : decode cc g.pc = .ok (.invokevirtual index, 3)) (hf : cells + mc ≤ R.cells ∧ slots + ms ≤ R.slots) :
    vx_Run p l e R s m args below meth c H locs cells slots mc ms g rest (Qc (Value.ref b :: As).toArray) XC free := by
  obtain ⟨⟨hrc, hrs, hfr, hlo, hws, hcw⟩, hcode, hini, hy, hlen, hl, hin, hse⟩ := cw
  have hK : vx_Back l R p e below s args y 3 8 (PreOf R mc ms Pc) (PostOf Qc mc ms free) (vx_Post XC mc ms free) := vx_backW (hh := hh) (bytes := bytes) (maxL := maxL) (ret := ret) hM hp.1 hrc hrs hfr hlo hws hcw (fun a' U hW => word_at hW (Or.inl (by first | rfl | simp [Cond.onTables, Cond.keeps, Cond.steady])) hini)
  obtain ⟨hx, hb, hml, ho, -⟩ := S
  obtain ⟨-, ⟨cellB, hcB, hoB, hclB⟩, hPc⟩ := hp
  intro T hT X
  rcases vx_callVX X hx (C := C) (hh := hh) (bytes := bytes) (maxL := maxL) (ret := ret) ho hl hin hse hcode hy hK (by rw [hT]; exact hcB) hoB hclB hg (hsize.trans hml.symm) (argsL := As) (rest := rest) (fun sig h => hn.trans (hlen sig h)) hstack hW (by rw [hb]; exact hdg)
    (fun vm₁ hW₁ => ⟨hf.1, hf.2, hPc (T.setVm vm₁) hT hW₁⟩) with ⟨v, vm₁, ⟨U', l2, c2, s2⟩, hW₁, X', ⟨g', mk, t, L, e1, e2, hq, h1, hL, h2, h3⟩, st⟩ | ⟨q, vm₁, ⟨U', l2, c2, s2⟩, hW₁, X', ⟨g', mk, t, L, E, ce, e1, e2, hq, hce, hcv, hcl, h1, hL, h2, h3⟩, st⟩
  · dsimp only [Pt.U, Pt.locs, Pt.cells, Pt.slots] at X' e1 e2 h1 h2 h3 st
    subst h1; subst h2; subst h3
    exact Or.inl ⟨v, (T.setVm vm₁).calling g' mk (Value.ref b :: As).toArray, t, U', L, hT, X', hL, e1, e2, hq, st⟩
  · dsimp only [Pt.U, Pt.locs, Pt.cells, Pt.slots] at X' e1 e2 h1 h2 h3 st hcl
    subst h1; subst h2; subst h3
    exact Or.inr ⟨q, (T.setVm vm₁).calling g' mk (Value.ref b :: As).toArray, t, U', L, E, ce, hT, X', hL, e1, e2, hq, hce, hcv, vx_cls hW₁ hcl, st⟩
theorem vx_runSX {hh : List (Nat × Nat × Nat × Nat)} (S : CallFix p m c cc nL s args Ts own) (hM : vx_Met l y ws rm Pc Qc XC mc ms free) (cw : vx_CSW R s args own index y bytes maxL ret hh ws rm mc ms n) (hp : PreS s H Pc As)
    (hg : g.method = m) (hn : As.length = n) (hsize : g.locals.size = nL) (hstack : g.stack = As.reverse ++ rest) (hW : 2 * g.monitorRoom + (rest.map fun v => v.category).sum ≤ 8) (hdg : decode cc g.pc = .ok (.invokestatic index, 3)) (hf : cells + mc ≤ R.cells ∧ slots + ms ≤ R.slots) :
    vx_Run p l e R s m args below meth c H locs cells slots mc ms g rest (Qc As.toArray) XC free := by
  obtain ⟨⟨hrc, hrs, hfr, hlo, hws, hcw⟩, hcode, hini, hy, hlen, hl, hstt⟩ := cw
  have hK : vx_Back l R p e below s args y 3 8 (PreOf R mc ms Pc) (PostOf Qc mc ms free) (vx_Post XC mc ms free) := vx_backW (hh := hh) (bytes := bytes) (maxL := maxL) (ret := ret) hM hp.1 hrc hrs hfr hlo hws hcw (fun a' U hW => word_at hW (Or.inl (by first | rfl | simp [Cond.onTables, Cond.keeps, Cond.steady])) hini)
  obtain ⟨hx, hb, hml, ho, -⟩ := S
  intro T hT X
  rcases vx_callSX X hx (hh := hh) (bytes := bytes) (maxL := maxL) (ret := ret) ho hl hstt hini hcode hy hK hg (hsize.trans hml.symm) (argsL := As) (rest := rest) (fun sig h => hn.trans (hlen sig h)) hstack hW (by rw [hb]; exact hdg)
    (fun vm₁ hW₁ => ⟨hf.1, hf.2, hp.2 (T.setVm vm₁) hT hW₁⟩) with ⟨v, vm₁, ⟨U', l2, c2, s2⟩, hW₁, X', ⟨g', mk, t, L, e1, e2, hq, h1, hL, h2, h3⟩, st⟩ | ⟨q, vm₁, ⟨U', l2, c2, s2⟩, hW₁, X', ⟨g', mk, t, L, E, ce, e1, e2, hq, hce, hcv, hcl, h1, hL, h2, h3⟩, st⟩
  · dsimp only [Pt.U, Pt.locs, Pt.cells, Pt.slots] at X' e1 e2 h1 h2 h3 st
    subst h1; subst h2; subst h3
    exact Or.inl ⟨v, (T.setVm vm₁).calling g' mk As.toArray, t, U', L, hT, X', hL, e1, e2, hq, st⟩
  · dsimp only [Pt.U, Pt.locs, Pt.cells, Pt.slots] at X' e1 e2 h1 h2 h3 st hcl
    subst h1; subst h2; subst h3
    exact Or.inr ⟨q, (T.setVm vm₁).calling g' mk As.toArray, t, U', L, E, ce, hT, X', hL, e1, e2, hq, hce, hcv, vx_cls hW₁ hcl, st⟩
end
end VXH
theorem vx_ofWH {l : Launch} {y : MethodName} {ws ws' : List Cond} {rm : Room} {Pc : Array Value → State → Prop} {Qc : Array Value → State → Outcome → State → Prop} {XC : String → State → State → Prop} {mc ms : Nat} {free : Addr → Prop} {cc : ByteArray} {maxL : Nat} {ret : Option FieldType} {hh : List (Nat × Nat × Nat × Nat)}
    (hy : plainName y.cls = true) (hw : ws = Cond.codeWith y cc maxL ret hh :: ws')
    (body : ∀ p e s m args below meth c s₁, BodyLoose p l y (headSpec ws rm) cc maxL ret e s m args below meth c s₁ → c.maxLocals = maxL → Pc args s →
      W p l e (headSpec ws rm).room s m args below meth c s.heap [] 0 0 (vx_MQ below Qc XC args s mc ms free) (entryFrame m args maxL)) : vx_Met l y ws rm Pc Qc XC mc ms free := by
  refine MetFree.of_bodyS (code := cc) (maxLocals := maxL) (ret := ret) hy ?_ ?_
  · intro args s m h hn
    obtain ⟨m9, meth, c, hn9, h1, h2, h3, h4, -, h5, h6, -⟩ := Cond.codeWith_spec (atoms_spec (ws := ws) h _ (by rw [hw]; exact List.mem_cons_self))
    cases hn.symm.trans hn9
    exact ⟨meth, c, h1, h2, h3, h4, h5, h6⟩
  · intro p e s m args below meth c s₁ B hml hP _
    have hh0 : s₁.heap = s.heap := by rw [B.state]; rfl
    obtain ⟨t, a1, o, b1, b2, b3⟩ := body p e s m args below meth c s₁ B hml hP s₁ hh0 (Stand.of_body B)
    exact ⟨t, o, a1, b1, b2, b3⟩
/-! ===== END ===== -/
end
section
def RX0 : String := "TurnKeeper$1"
def TX0 : u_T := fun k => match k with
  | _ => ("", "", "", false)
def tyX0 : Nat → FieldType := fun k => match k with
  | _ => .int
abbrev wsX00 : List Cond := u_ws RX0 TX0 0
theorem nmX0 : ∀ a, a < 0 → ∀ b, b < 0 → a ≠ b → (TX0 a).2.1 ≠ (TX0 b).2.1 := by decide +kernel
theorem tyX0_ok : ∀ k, k < 0 → parseFieldDescriptor (TX0 k).2.2.1 = some (tyX0 k) := by decide +kernel
def RX1 : String := "TurnKeeper$Gate"
def TX1 : u_T := fun k => match k with
  | 0 => ("TurnKeeper$Sync", "number", "I", true)
  | 1 => ("TurnKeeper$Sync", "kind", "I", true)
  | 2 => ("TurnKeeper$Sync", "row", "LTurnKeeper$Row;", true)
  | 3 => ("TurnKeeper$Gate", "owner", "I", false)
  | _ => ("TurnKeeper$Gate", "readers", "I", false)
def tyX1 : Nat → FieldType := fun k => match k with
  | 0 => .int
  | 1 => .int
  | 2 => .object "TurnKeeper$Row"
  | 3 => .int
  | _ => .int
abbrev wsX10 : List Cond := u_ws RX1 TX1 5
theorem nmX1 : ∀ a, a < 5 → ∀ b, b < 5 → a ≠ b → (TX1 a).2.1 ≠ (TX1 b).2.1 := by decide +kernel
theorem tyX1_ok : ∀ k, k < 5 → parseFieldDescriptor (TX1 k).2.2.1 = some (tyX1 k) := by decide +kernel
abbrev cX1_init : ByteArray := prog_3_method_1_code
def yX1_init : MethodName := ⟨RX1, "<init>", "(I)V"⟩
abbrev cX1_perform : ByteArray := prog_3_method_2_code
def yX1_perform : MethodName := ⟨RX1, "perform", "(LTurnKeeper$Strand;LTurnKeeper$Word;)V"⟩
abbrev cX1_leave : ByteArray := prog_3_method_3_code
def yX1_leave : MethodName := ⟨RX1, "leave", "(LTurnKeeper$Strand;)V"⟩
abbrev cX1_giveBack : ByteArray := prog_3_method_4_code
def yX1_giveBack : MethodName := ⟨RX1, "giveBack", "(LTurnKeeper$Strand;)V"⟩
abbrev cX1_rowGoesOn : ByteArray := prog_3_method_5_code
def yX1_rowGoesOn : MethodName := ⟨RX1, "rowGoesOn", "()V"⟩
abbrev cX1_value : ByteArray := prog_3_method_6_code
def yX1_value : MethodName := ⟨RX1, "value", "()J"⟩
abbrev cX1_tells : ByteArray := prog_3_method_7_code
def yX1_tells : MethodName := ⟨RX1, "tells", "(I)Z"⟩
abbrev cX1_detail : ByteArray := prog_3_method_8_code
def yX1_detail : MethodName := ⟨RX1, "detail", "(I)J"⟩
def RX2 : String := "TurnKeeper$Holder"
def TX2 : u_T := fun k => match k with
  | 0 => ("TurnKeeper$Sync", "number", "I", true)
  | 1 => ("TurnKeeper$Sync", "kind", "I", true)
  | 2 => ("TurnKeeper$Sync", "row", "LTurnKeeper$Row;", true)
  | 3 => ("TurnKeeper$Holder", "filled", "Z", false)
  | _ => ("TurnKeeper$Holder", "held", "I", false)
def tyX2 : Nat → FieldType := fun k => match k with
  | 0 => .int
  | 1 => .int
  | 2 => .object "TurnKeeper$Row"
  | 3 => .boolean
  | _ => .int
abbrev wsX20 : List Cond := u_ws RX2 TX2 5
theorem nmX2 : ∀ a, a < 5 → ∀ b, b < 5 → a ≠ b → (TX2 a).2.1 ≠ (TX2 b).2.1 := by decide +kernel
theorem tyX2_ok : ∀ k, k < 5 → parseFieldDescriptor (TX2 k).2.2.1 = some (tyX2 k) := by decide +kernel
abbrev cX2_init : ByteArray := prog_4_method_1_code
def yX2_init : MethodName := ⟨RX2, "<init>", "(IIZI)V"⟩
abbrev cX2_perform : ByteArray := prog_4_method_2_code
def yX2_perform : MethodName := ⟨RX2, "perform", "(LTurnKeeper$Strand;LTurnKeeper$Word;)V"⟩
abbrev cX2_isGiven : ByteArray := prog_4_method_3_code
def yX2_isGiven : MethodName := ⟨RX2, "isGiven", "(I)Z"⟩
abbrev cX2_value : ByteArray := prog_4_method_4_code
def yX2_value : MethodName := ⟨RX2, "value", "()J"⟩
def RX3 : String := "TurnKeeper$Hurdle"
def TX3 : u_T := fun k => match k with
  | 0 => ("TurnKeeper$Sync", "number", "I", true)
  | 1 => ("TurnKeeper$Sync", "kind", "I", true)
  | 2 => ("TurnKeeper$Sync", "row", "LTurnKeeper$Row;", true)
  | _ => ("TurnKeeper$Hurdle", "height", "I", false)
def tyX3 : Nat → FieldType := fun k => match k with
  | 0 => .int
  | 1 => .int
  | 2 => .object "TurnKeeper$Row"
  | _ => .int
abbrev wsX30 : List Cond := u_ws RX3 TX3 4
theorem nmX3 : ∀ a, a < 4 → ∀ b, b < 4 → a ≠ b → (TX3 a).2.1 ≠ (TX3 b).2.1 := by decide +kernel
theorem tyX3_ok : ∀ k, k < 4 → parseFieldDescriptor (TX3 k).2.2.1 = some (tyX3 k) := by decide +kernel
abbrev cX3_init : ByteArray := prog_5_method_1_code
def yX3_init : MethodName := ⟨RX3, "<init>", "(III)V"⟩
abbrev cX3_perform : ByteArray := prog_5_method_2_code
def yX3_perform : MethodName := ⟨RX3, "perform", "(LTurnKeeper$Strand;LTurnKeeper$Word;)V"⟩
abbrev cX3_value : ByteArray := prog_5_method_3_code
def yX3_value : MethodName := ⟨RX3, "value", "()J"⟩
def RX4 : String := "TurnKeeper$Lock"
def TX4 : u_T := fun k => match k with
  | 0 => ("TurnKeeper$Sync", "number", "I", true)
  | 1 => ("TurnKeeper$Sync", "kind", "I", true)
  | 2 => ("TurnKeeper$Sync", "row", "LTurnKeeper$Row;", true)
  | 3 => ("TurnKeeper$Lock", "owner", "I", false)
  | 4 => ("TurnKeeper$Lock", "fair", "Z", true)
  | 5 => ("TurnKeeper$Lock", "holds", "I", false)
  | _ => ("TurnKeeper$Lock", "second", "LTurnKeeper$Row;", true)
def tyX4 : Nat → FieldType := fun k => match k with
  | 0 => .int
  | 1 => .int
  | 2 => .object "TurnKeeper$Row"
  | 3 => .int
  | 4 => .boolean
  | 5 => .int
  | _ => .object "TurnKeeper$Row"
abbrev wsX40 : List Cond := u_ws RX4 TX4 7
theorem nmX4 : ∀ a, a < 7 → ∀ b, b < 7 → a ≠ b → (TX4 a).2.1 ≠ (TX4 b).2.1 := by decide +kernel
theorem tyX4_ok : ∀ k, k < 7 → parseFieldDescriptor (TX4 k).2.2.1 = some (tyX4 k) := by decide +kernel
abbrev cX4_init : ByteArray := prog_6_method_1_code
def yX4_init : MethodName := ⟨RX4, "<init>", "(IZ)V"⟩
abbrev cX4_perform : ByteArray := prog_6_method_2_code
def yX4_perform : MethodName := ⟨RX4, "perform", "(LTurnKeeper$Strand;LTurnKeeper$Word;)V"⟩
abbrev cX4_grabOrStandIn : ByteArray := prog_6_method_3_code
def yX4_grabOrStandIn : MethodName := ⟨RX4, "grabOrStandIn", "(LTurnKeeper$Strand;)V"⟩
abbrev cX4_isGrabbed : ByteArray := prog_6_method_4_code
def yX4_isGrabbed : MethodName := ⟨RX4, "isGrabbed", "(LTurnKeeper$Strand;)Z"⟩
abbrev cX4_free : ByteArray := prog_6_method_5_code
def yX4_free : MethodName := ⟨RX4, "free", "()V"⟩
abbrev cX4_have : ByteArray := prog_6_method_6_code
def yX4_have : MethodName := ⟨RX4, "have", "(LTurnKeeper$Strand;)V"⟩
abbrev cX4_tryAgain : ByteArray := prog_6_method_7_code
def yX4_tryAgain : MethodName := ⟨RX4, "tryAgain", "(LTurnKeeper$Strand;)V"⟩
abbrev cX4_callUp : ByteArray := prog_6_method_8_code
def yX4_callUp : MethodName := ⟨RX4, "callUp", "(I)V"⟩
abbrev cX4_comeToFirst : ByteArray := prog_6_method_9_code
def yX4_comeToFirst : MethodName := ⟨RX4, "comeToFirst", "(LTurnKeeper$Strand;I)V"⟩
abbrev cX4_interruptWait : ByteArray := prog_6_method_10_code
def yX4_interruptWait : MethodName := ⟨RX4, "interruptWait", "(LTurnKeeper$Strand;)V"⟩
abbrev cX4_hasStrands : ByteArray := prog_6_method_11_code
def yX4_hasStrands : MethodName := ⟨RX4, "hasStrands", "()Z"⟩
abbrev cX4_value : ByteArray := prog_6_method_12_code
def yX4_value : MethodName := ⟨RX4, "value", "()J"⟩
abbrev cX4_tells : ByteArray := prog_6_method_13_code
def yX4_tells : MethodName := ⟨RX4, "tells", "(I)Z"⟩
abbrev cX4_detail : ByteArray := prog_6_method_14_code
def yX4_detail : MethodName := ⟨RX4, "detail", "(I)J"⟩
def RX5 : String := "TurnKeeper$Queue"
def TX5 : u_T := fun k => match k with
  | 0 => ("TurnKeeper$Sync", "number", "I", true)
  | 1 => ("TurnKeeper$Sync", "kind", "I", true)
  | 2 => ("TurnKeeper$Sync", "row", "LTurnKeeper$Row;", true)
  | 3 => ("TurnKeeper$Queue", "items", "[I", true)
  | 4 => ("TurnKeeper$Queue", "head", "I", false)
  | _ => ("TurnKeeper$Queue", "size", "I", false)
def tyX5 : Nat → FieldType := fun k => match k with
  | 0 => .int
  | 1 => .int
  | 2 => .object "TurnKeeper$Row"
  | 3 => .array .int
  | 4 => .int
  | _ => .int
abbrev wsX50 : List Cond := u_ws RX5 TX5 6
theorem nmX5 : ∀ a, a < 6 → ∀ b, b < 6 → a ≠ b → (TX5 a).2.1 ≠ (TX5 b).2.1 := by decide +kernel
theorem tyX5_ok : ∀ k, k < 6 → parseFieldDescriptor (TX5 k).2.2.1 = some (tyX5 k) := by decide +kernel
abbrev cX5_init : ByteArray := prog_7_method_1_code
def yX5_init : MethodName := ⟨RX5, "<init>", "(II)V"⟩
abbrev cX5_perform : ByteArray := prog_7_method_2_code
def yX5_perform : MethodName := ⟨RX5, "perform", "(LTurnKeeper$Strand;LTurnKeeper$Word;)V"⟩
abbrev cX5_isAccepted : ByteArray := prog_7_method_3_code
def yX5_isAccepted : MethodName := ⟨RX5, "isAccepted", "(I)Z"⟩
abbrev cX5_takenOut : ByteArray := prog_7_method_4_code
def yX5_takenOut : MethodName := ⟨RX5, "takenOut", "()I"⟩
abbrev cX5_append : ByteArray := prog_7_method_5_code
def yX5_append : MethodName := ⟨RX5, "append", "(I)V"⟩
abbrev cX5_value : ByteArray := prog_7_method_6_code
def yX5_value : MethodName := ⟨RX5, "value", "()J"⟩
abbrev cX5_tells : ByteArray := prog_7_method_7_code
def yX5_tells : MethodName := ⟨RX5, "tells", "(I)Z"⟩
abbrev cX5_detail : ByteArray := prog_7_method_8_code
def yX5_detail : MethodName := ⟨RX5, "detail", "(I)J"⟩
def RX6 : String := "TurnKeeper$Row"
def TX6 : u_T := fun k => match k with
  | 0 => ("TurnKeeper$Row", "size", "I", false)
  | _ => ("TurnKeeper$Row", "strands", "[LTurnKeeper$Strand;", true)
def tyX6 : Nat → FieldType := fun k => match k with
  | 0 => .int
  | _ => .array (.object "TurnKeeper$Strand")
abbrev wsX60 : List Cond := u_ws RX6 TX6 2
theorem nmX6 : ∀ a, a < 2 → ∀ b, b < 2 → a ≠ b → (TX6 a).2.1 ≠ (TX6 b).2.1 := by decide +kernel
theorem tyX6_ok : ∀ k, k < 2 → parseFieldDescriptor (TX6 k).2.2.1 = some (tyX6 k) := by decide +kernel
abbrev cX6_init : ByteArray := prog_8_method_1_code
def yX6_init : MethodName := ⟨RX6, "<init>", "()V"⟩
abbrev cX6_first : ByteArray := prog_8_method_2_code
def yX6_first : MethodName := ⟨RX6, "first", "()LTurnKeeper$Strand;"⟩
abbrev cX6_add : ByteArray := prog_8_method_3_code
def yX6_add : MethodName := ⟨RX6, "add", "(LTurnKeeper$Strand;)V"⟩
abbrev cX6_remove : ByteArray := prog_8_method_4_code
def yX6_remove : MethodName := ⟨RX6, "remove", "(LTurnKeeper$Strand;)V"⟩
def RX7 : String := "TurnKeeper$Semaphore"
def TX7 : u_T := fun k => match k with
  | 0 => ("TurnKeeper$Sync", "number", "I", true)
  | 1 => ("TurnKeeper$Sync", "kind", "I", true)
  | 2 => ("TurnKeeper$Sync", "row", "LTurnKeeper$Row;", true)
  | _ => ("TurnKeeper$Semaphore", "permits", "I", false)
def tyX7 : Nat → FieldType := fun k => match k with
  | 0 => .int
  | 1 => .int
  | 2 => .object "TurnKeeper$Row"
  | _ => .int
abbrev wsX70 : List Cond := u_ws RX7 TX7 4
theorem nmX7 : ∀ a, a < 4 → ∀ b, b < 4 → a ≠ b → (TX7 a).2.1 ≠ (TX7 b).2.1 := by decide +kernel
theorem tyX7_ok : ∀ k, k < 4 → parseFieldDescriptor (TX7 k).2.2.1 = some (tyX7 k) := by decide +kernel
abbrev cX7_init : ByteArray := prog_9_method_1_code
def yX7_init : MethodName := ⟨RX7, "<init>", "(II)V"⟩
abbrev cX7_perform : ByteArray := prog_9_method_2_code
def yX7_perform : MethodName := ⟨RX7, "perform", "(LTurnKeeper$Strand;LTurnKeeper$Word;)V"⟩
abbrev cX7_handOut : ByteArray := prog_9_method_3_code
def yX7_handOut : MethodName := ⟨RX7, "handOut", "()V"⟩
abbrev cX7_value : ByteArray := prog_9_method_4_code
def yX7_value : MethodName := ⟨RX7, "value", "()J"⟩
def RX8 : String := "TurnKeeper$Strand"
def TX8 : u_T := fun k => match k with
  | 0 => ("TurnKeeper$Strand", "number", "I", true)
  | 1 => ("TurnKeeper$Strand", "state", "I", false)
  | 2 => ("TurnKeeper$Strand", "a", "I", false)
  | 3 => ("TurnKeeper$Strand", "at", "I", false)
  | 4 => ("TurnKeeper$Strand", "why", "I", false)
  | 5 => ("TurnKeeper$Strand", "interrupted", "Z", false)
  | 6 => ("TurnKeeper$Strand", "wakesAt", "J", false)
  | 7 => ("TurnKeeper$Strand", "sync", "LTurnKeeper$Sync;", false)
  | 8 => ("TurnKeeper$Strand", "row", "LTurnKeeper$Row;", false)
  | 9 => ("TurnKeeper$Strand", "kept", "I", false)
  | 10 => ("TurnKeeper$Strand", "answer", "I", false)
  | 11 => ("TurnKeeper$Strand", "code", "[I", true)
  | _ => ("TurnKeeper$Strand", "size", "I", false)
def tyX8 : Nat → FieldType := fun k => match k with
  | 0 => .int
  | 1 => .int
  | 2 => .int
  | 3 => .int
  | 4 => .int
  | 5 => .boolean
  | 6 => .long
  | 7 => .object "TurnKeeper$Sync"
  | 8 => .object "TurnKeeper$Row"
  | 9 => .int
  | 10 => .int
  | 11 => .array .int
  | _ => .int
abbrev wsX80 : List Cond := u_ws RX8 TX8 13
theorem nmX8 : ∀ a, a < 13 → ∀ b, b < 13 → a ≠ b → (TX8 a).2.1 ≠ (TX8 b).2.1 := by decide +kernel
theorem tyX8_ok : ∀ k, k < 13 → parseFieldDescriptor (TX8 k).2.2.1 = some (tyX8 k) := by decide +kernel
abbrev cX8_init : ByteArray := prog_10_method_1_code
def yX8_init : MethodName := ⟨RX8, "<init>", "(I)V"⟩
abbrev cX8_isVacant : ByteArray := prog_10_method_2_code
def yX8_isVacant : MethodName := ⟨RX8, "isVacant", "()Z"⟩
abbrev cX8_start : ByteArray := prog_10_method_3_code
def yX8_start : MethodName := ⟨RX8, "start", "([II)V"⟩
abbrev cX8_word : ByteArray := prog_10_method_4_code
def yX8_word : MethodName := ⟨RX8, "word", "()LTurnKeeper$Word;"⟩
abbrev cX8_operand : ByteArray := prog_10_method_5_code
def yX8_operand : MethodName := ⟨RX8, "operand", "(I)I"⟩
abbrev cX8_codeAt : ByteArray := prog_10_method_6_code
def yX8_codeAt : MethodName := ⟨RX8, "codeAt", "(I)I"⟩
abbrev cX8_goTo : ByteArray := prog_10_method_7_code
def yX8_goTo : MethodName := ⟨RX8, "goTo", "(I)V"⟩
abbrev cX8_goOn : ByteArray := prog_10_method_8_code
def yX8_goOn : MethodName := ⟨RX8, "goOn", "()V"⟩
abbrev cX8_goOnWith : ByteArray := prog_10_method_9_code
def yX8_goOnWith : MethodName := ⟨RX8, "goOnWith", "(I)V"⟩
abbrev cX8_fail : ByteArray := prog_10_method_10_code
def yX8_fail : MethodName := ⟨RX8, "fail", "(I)V"⟩
abbrev cX8_standIn : ByteArray := prog_10_method_11_code
def yX8_standIn : MethodName := ⟨RX8, "standIn", "(LTurnKeeper$Row;LTurnKeeper$Sync;)V"⟩
abbrev cX8_refusesToWait : ByteArray := prog_10_method_12_code
def yX8_refusesToWait : MethodName := ⟨RX8, "refusesToWait", "()Z"⟩
def RX9 : String := "TurnKeeper$Sync"
def TX9 : u_T := fun k => match k with
  | _ => ("", "", "", false)
def tyX9 : Nat → FieldType := fun k => match k with
  | _ => .int
abbrev wsX90 : List Cond := u_ws RX9 TX9 0
theorem nmX9 : ∀ a, a < 0 → ∀ b, b < 0 → a ≠ b → (TX9 a).2.1 ≠ (TX9 b).2.1 := by decide +kernel
theorem tyX9_ok : ∀ k, k < 0 → parseFieldDescriptor (TX9 k).2.2.1 = some (tyX9 k) := by decide +kernel
abbrev cX9_init : ByteArray := prog_11_method_1_code
def yX9_init : MethodName := ⟨RX9, "<init>", "(II)V"⟩
abbrev cX9_hasStrands : ByteArray := prog_11_method_4_code
def yX9_hasStrands : MethodName := ⟨RX9, "hasStrands", "()Z"⟩
abbrev cX9_tells : ByteArray := prog_11_method_5_code
def yX9_tells : MethodName := ⟨RX9, "tells", "(I)Z"⟩
abbrev cX9_detail : ByteArray := prog_11_method_6_code
def yX9_detail : MethodName := ⟨RX9, "detail", "(I)J"⟩
abbrev cX9_holdUp : ByteArray := prog_11_method_7_code
def yX9_holdUp : MethodName := ⟨RX9, "holdUp", "(LTurnKeeper$Strand;)V"⟩
abbrev cX9_allGoOn : ByteArray := prog_11_method_8_code
def yX9_allGoOn : MethodName := ⟨RX9, "allGoOn", "()V"⟩
def RX10 : String := "TurnKeeper$Tape"
def TX10 : u_T := fun k => match k with
  | 0 => ("TurnKeeper$Tape", "code", "[I", true)
  | 1 => ("TurnKeeper$Tape", "size", "I", false)
  | 2 => ("TurnKeeper$Tape", "length", "I", false)
  | 3 => ("TurnKeeper$Tape", "place", "I", false)
  | 4 => ("TurnKeeper$Tape", "bytes", "[B", true)
  | _ => ("TurnKeeper$Tape", "at", "I", false)
def tyX10 : Nat → FieldType := fun k => match k with
  | 0 => .array .int
  | 1 => .int
  | 2 => .int
  | 3 => .int
  | 4 => .array .byte
  | _ => .int
abbrev wsX100 : List Cond := u_ws RX10 TX10 6
theorem nmX10 : ∀ a, a < 6 → ∀ b, b < 6 → a ≠ b → (TX10 a).2.1 ≠ (TX10 b).2.1 := by decide +kernel
theorem tyX10_ok : ∀ k, k < 6 → parseFieldDescriptor (TX10 k).2.2.1 = some (tyX10 k) := by decide +kernel
abbrev cX10_init : ByteArray := prog_12_method_1_code
def yX10_init : MethodName := ⟨RX10, "<init>", "()V"⟩
abbrev cX10_append : ByteArray := prog_12_method_2_code
def yX10_append : MethodName := ⟨RX10, "append", "(I)V"⟩
abbrev cX10_read : ByteArray := prog_12_method_3_code
def yX10_read : MethodName := ⟨RX10, "read", "()Z"⟩
abbrev cX10_readInstruction : ByteArray := prog_12_method_4_code
def yX10_readInstruction : MethodName := ⟨RX10, "readInstruction", "(I)Z"⟩
abbrev cX10_readNumber : ByteArray := prog_12_method_5_code
def yX10_readNumber : MethodName := ⟨RX10, "readNumber", "(IC)Z"⟩
abbrev cX10_inRange : ByteArray := prog_12_method_6_code
def yX10_inRange : MethodName := ⟨RX10, "inRange", "(CI)Z"⟩
abbrev cX10_wordAt : ByteArray := prog_12_method_7_code
def yX10_wordAt : MethodName := ⟨RX10, "wordAt", "(I)I"⟩
abbrev cX10_isText : ByteArray := prog_12_method_8_code
def yX10_isText : MethodName := ⟨RX10, "isText", "(ILjava/lang/String;)Z"⟩
abbrev cX10_skipBlanks : ByteArray := prog_12_method_9_code
def yX10_skipBlanks : MethodName := ⟨RX10, "skipBlanks", "()V"⟩
abbrev cX10_here : ByteArray := prog_12_method_10_code
def yX10_here : MethodName := ⟨RX10, "here", "()I"⟩
abbrev cX10_store : ByteArray := prog_12_method_11_code
def yX10_store : MethodName := ⟨RX10, "store", "(II)V"⟩
abbrev cX10_broken : ByteArray := prog_12_method_12_code
def yX10_broken : MethodName := ⟨RX10, "broken", "(I)Z"⟩
def RX11 : String := "TurnKeeper$Word"
def TX11 : u_T := fun k => match k with
  | _ => ("", "", "", false)
def tyX11 : Nat → FieldType := fun k => match k with
  | _ => .int
abbrev wsX110 : List Cond := u_ws RX11 TX11 0
theorem nmX11 : ∀ a, a < 0 → ∀ b, b < 0 → a ≠ b → (TX11 a).2.1 ≠ (TX11 b).2.1 := by decide +kernel
theorem tyX11_ok : ∀ k, k < 0 → parseFieldDescriptor (TX11 k).2.2.1 = some (tyX11 k) := by decide +kernel
def RX12 : String := "TurnKeeper"
def TX12 : u_T := fun k => match k with
  | 0 => ("TurnKeeper", "tape", "LTurnKeeper$Tape;", true)
  | 1 => ("TurnKeeper", "syncs", "[LTurnKeeper$Sync;", true)
  | 2 => ("TurnKeeper", "strands", "[LTurnKeeper$Strand;", true)
  | 3 => ("TurnKeeper", "clock", "J", false)
  | 4 => ("TurnKeeper", "steps", "J", false)
  | _ => ("TurnKeeper", "latest", "I", false)
def tyX12 : Nat → FieldType := fun k => match k with
  | 0 => .object "TurnKeeper$Tape"
  | 1 => .array (.object "TurnKeeper$Sync")
  | 2 => .array (.object "TurnKeeper$Strand")
  | 3 => .long
  | 4 => .long
  | _ => .int
abbrev wsX120 : List Cond := u_ws RX12 TX12 6
theorem nmX12 : ∀ a, a < 6 → ∀ b, b < 6 → a ≠ b → (TX12 a).2.1 ≠ (TX12 b).2.1 := by decide +kernel
theorem tyX12_ok : ∀ k, k < 6 → parseFieldDescriptor (TX12 k).2.2.1 = some (tyX12 k) := by decide +kernel
abbrev cX12_init : ByteArray := prog_1_method_1_code
def yX12_init : MethodName := ⟨RX12, "<init>", "()V"⟩
abbrev cX12_feed : ByteArray := prog_1_method_2_code
def yX12_feed : MethodName := ⟨RX12, "feed", "(IIIII)I"⟩
abbrev cX12_end : ByteArray := prog_1_method_3_code
def yX12_end : MethodName := ⟨RX12, "end", "(I)I"⟩
abbrev cX12_make : ByteArray := prog_1_method_4_code
def yX12_make : MethodName := ⟨RX12, "make", "(II)I"⟩
abbrev cX12_drop : ByteArray := prog_1_method_5_code
def yX12_drop : MethodName := ⟨RX12, "drop", "(I)I"⟩
abbrev cX12_thread : ByteArray := prog_1_method_6_code
def yX12_thread : MethodName := ⟨RX12, "thread", "()I"⟩
abbrev cX12_step : ByteArray := prog_1_method_7_code
def yX12_step : MethodName := ⟨RX12, "step", "(I)I"⟩
abbrev cX12_run : ByteArray := prog_1_method_8_code
def yX12_run : MethodName := ⟨RX12, "run", "(III)I"⟩
abbrev cX12_tick : ByteArray := prog_1_method_9_code
def yX12_tick : MethodName := ⟨RX12, "tick", "(I)I"⟩
abbrev cX12_interrupt : ByteArray := prog_1_method_10_code
def yX12_interrupt : MethodName := ⟨RX12, "interrupt", "(I)I"⟩
abbrev cX12_look : ByteArray := prog_1_method_11_code
def yX12_look : MethodName := ⟨RX12, "look", "(II)I"⟩
abbrev cX12_dead : ByteArray := prog_1_method_12_code
def yX12_dead : MethodName := ⟨RX12, "dead", "()I"⟩
abbrev cX12_sync : ByteArray := prog_1_method_13_code
def yX12_sync : MethodName := ⟨RX12, "sync", "(II)J"⟩
abbrev cX12_count : ByteArray := prog_1_method_14_code
def yX12_count : MethodName := ⟨RX12, "count", "(I)J"⟩
abbrev cX12_fits : ByteArray := prog_1_method_15_code
def yX12_fits : MethodName := ⟨RX12, "fits", "(II)Z"⟩
abbrev cX12_built : ByteArray := prog_1_method_16_code
def yX12_built : MethodName := ⟨RX12, "built", "(III)LTurnKeeper$Sync;"⟩
abbrev cX12_syncAt : ByteArray := prog_1_method_17_code
def yX12_syncAt : MethodName := ⟨RX12, "syncAt", "(I)LTurnKeeper$Sync;"⟩
abbrev cX12_leastFree : ByteArray := prog_1_method_18_code
def yX12_leastFree : MethodName := ⟨RX12, "leastFree", "()I"⟩
abbrev cX12_howManySyncs : ByteArray := prog_1_method_19_code
def yX12_howManySyncs : MethodName := ⟨RX12, "howManySyncs", "()I"⟩
abbrev cX12_strandAt : ByteArray := prog_1_method_20_code
def yX12_strandAt : MethodName := ⟨RX12, "strandAt", "(I)LTurnKeeper$Strand;"⟩
abbrev cX12_howManyReady : ByteArray := prog_1_method_21_code
def yX12_howManyReady : MethodName := ⟨RX12, "howManyReady", "()I"⟩
abbrev cX12_readyFrom : ByteArray := prog_1_method_22_code
def yX12_readyFrom : MethodName := ⟨RX12, "readyFrom", "(II)LTurnKeeper$Strand;"⟩
abbrev cX12_takeTurn : ByteArray := prog_1_method_23_code
def yX12_takeTurn : MethodName := ⟨RX12, "takeTurn", "(LTurnKeeper$Strand;)V"⟩
abbrev cX12_doAlone : ByteArray := prog_1_method_24_code
def yX12_doAlone : MethodName := ⟨RX12, "doAlone", "(LTurnKeeper$Strand;LTurnKeeper$Word;)V"⟩
abbrev cX12_fallAsleep : ByteArray := prog_1_method_25_code
def yX12_fallAsleep : MethodName := ⟨RX12, "fallAsleep", "(LTurnKeeper$Strand;I)V"⟩
abbrev cX12_blockerOf : ByteArray := prog_1_method_26_code
def yX12_blockerOf : MethodName := ⟨RX12, "blockerOf", "(I)I"⟩
def RX13 : String := "TurnKeeperModel"
def TX13 : u_T := fun k => match k with
  | 0 => ("TurnKeeperModel", "thrown", "I", false)
  | 1 => ("TurnKeeperModel", "tape", "[I", true)
  | 2 => ("TurnKeeperModel", "taped", "I", false)
  | 3 => ("TurnKeeperModel", "place", "I", false)
  | 4 => ("TurnKeeperModel", "words", "[J", true)
  | 5 => ("TurnKeeperModel", "program", "[I", true)
  | 6 => ("TurnKeeperModel", "programLong", "I", false)
  | 7 => ("TurnKeeperModel", "tapeLong", "I", false)
  | 8 => ("TurnKeeperModel", "from", "I", false)
  | 9 => ("TurnKeeperModel", "to", "I", false)
  | 10 => ("TurnKeeperModel", "fault", "I", false)
  | 11 => ("TurnKeeperModel", "lines", "[I", true)
  | 12 => ("TurnKeeperModel", "many", "[I", true)
  | 13 => ("TurnKeeperModel", "state", "[I", true)
  | 14 => ("TurnKeeperModel", "a", "[I", true)
  | 15 => ("TurnKeeperModel", "at", "[I", true)
  | 16 => ("TurnKeeperModel", "waitsFor", "[I", true)
  | 17 => ("TurnKeeperModel", "why", "[I", true)
  | 18 => ("TurnKeeperModel", "kept", "[I", true)
  | 19 => ("TurnKeeperModel", "then", "[I", true)
  | 20 => ("TurnKeeperModel", "stopped", "[Z", true)
  | 21 => ("TurnKeeperModel", "inSecond", "[Z", true)
  | 22 => ("TurnKeeperModel", "afterWait", "[Z", true)
  | 23 => ("TurnKeeperModel", "until", "[J", true)
  | 24 => ("TurnKeeperModel", "clock", "J", false)
  | 25 => ("TurnKeeperModel", "steps", "J", false)
  | 26 => ("TurnKeeperModel", "latest", "I", false)
  | 27 => ("TurnKeeperModel", "seed", "I", false)
  | 28 => ("TurnKeeperModel", "kind", "[I", true)
  | 29 => ("TurnKeeperModel", "first", "[I", true)
  | 30 => ("TurnKeeperModel", "second", "[I", true)
  | 31 => ("TurnKeeperModel", "owner", "[I", true)
  | 32 => ("TurnKeeperModel", "row", "[I", true)
  | 33 => ("TurnKeeperModel", "rowLong", "[I", true)
  | 34 => ("TurnKeeperModel", "row2", "[I", true)
  | 35 => ("TurnKeeperModel", "row2Long", "[I", true)
  | 36 => ("TurnKeeperModel", "queue", "[I", true)
  | _ => ("TurnKeeperModel", "queueLong", "[I", true)
def tyX13 : Nat → FieldType := fun k => match k with
  | 0 => .int
  | 1 => .array .int
  | 2 => .int
  | 3 => .int
  | 4 => .array .long
  | 5 => .array .int
  | 6 => .int
  | 7 => .int
  | 8 => .int
  | 9 => .int
  | 10 => .int
  | 11 => .array .int
  | 12 => .array .int
  | 13 => .array .int
  | 14 => .array .int
  | 15 => .array .int
  | 16 => .array .int
  | 17 => .array .int
  | 18 => .array .int
  | 19 => .array .int
  | 20 => .array .boolean
  | 21 => .array .boolean
  | 22 => .array .boolean
  | 23 => .array .long
  | 24 => .long
  | 25 => .long
  | 26 => .int
  | 27 => .int
  | 28 => .array .int
  | 29 => .array .int
  | 30 => .array .int
  | 31 => .array .int
  | 32 => .array .int
  | 33 => .array .int
  | 34 => .array .int
  | 35 => .array .int
  | 36 => .array .int
  | _ => .array .int
abbrev wsX130 : List Cond := u_ws RX13 TX13 38
theorem nmX13 : ∀ a, a < 38 → ∀ b, b < 38 → a ≠ b → (TX13 a).2.1 ≠ (TX13 b).2.1 := by decide +kernel
theorem tyX13_ok : ∀ k, k < 38 → parseFieldDescriptor (TX13 k).2.2.1 = some (tyX13 k) := by decide +kernel
abbrev cX13_init : ByteArray := prog_15_method_1_code
def yX13_init : MethodName := ⟨RX13, "<init>", "()V"⟩
abbrev cX13_thrown : ByteArray := prog_15_method_2_code
def yX13_thrown : MethodName := ⟨RX13, "thrown", "()I"⟩
abbrev cX13_refuse : ByteArray := prog_15_method_3_code
def yX13_refuse : MethodName := ⟨RX13, "refuse", "(I)I"⟩
abbrev cX13_in : ByteArray := prog_15_method_4_code
def yX13_in : MethodName := ⟨RX13, "in", "(III)Z"⟩
abbrev cX13_feed : ByteArray := prog_15_method_5_code
def yX13_feed : MethodName := ⟨RX13, "feed", "(IIIII)I"⟩
abbrev cX13_four : ByteArray := prog_15_method_6_code
def yX13_four : MethodName := ⟨RX13, "four", "(I)V"⟩
abbrev cX13_end : ByteArray := prog_15_method_7_code
def yX13_end : MethodName := ⟨RX13, "end", "(I)I"⟩
abbrev cX13_byteAt : ByteArray := prog_15_method_8_code
def yX13_byteAt : MethodName := ⟨RX13, "byteAt", "(I)I"⟩
abbrev cX13_wrong : ByteArray := prog_15_method_9_code
def yX13_wrong : MethodName := ⟨RX13, "wrong", "()I"⟩
abbrev cX13_next : ByteArray := prog_15_method_10_code
def yX13_next : MethodName := ⟨RX13, "next", "()V"⟩
abbrev cX13_word : ByteArray := prog_15_method_11_code
def yX13_word : MethodName := ⟨RX13, "word", "()I"⟩
abbrev cX13_number : ByteArray := prog_15_method_12_code
def yX13_number : MethodName := ⟨RX13, "number", "(II)I"⟩
abbrev cX13_line : ByteArray := prog_15_method_13_code
def yX13_line : MethodName := ⟨RX13, "line", "()V"⟩
abbrev cX13_read : ByteArray := prog_15_method_14_code
def yX13_read : MethodName := ⟨RX13, "read", "()V"⟩
abbrev cX13_isThere : ByteArray := prog_15_method_15_code
def yX13_isThere : MethodName := ⟨RX13, "isThere", "(I)Z"⟩
abbrev cX13_make : ByteArray := prog_15_method_16_code
def yX13_make : MethodName := ⟨RX13, "make", "(II)I"⟩
abbrev cX13_objects : ByteArray := prog_15_method_17_code
def yX13_objects : MethodName := ⟨RX13, "objects", "()I"⟩
abbrev cX13_drop : ByteArray := prog_15_method_18_code
def yX13_drop : MethodName := ⟨RX13, "drop", "(I)I"⟩
abbrev cX13_thread : ByteArray := prog_15_method_19_code
def yX13_thread : MethodName := ⟨RX13, "thread", "()I"⟩
abbrev cX13_part : ByteArray := prog_15_method_20_code
def yX13_part : MethodName := ⟨RX13, "part", "(II)I"⟩
abbrev cX13_waitFor : ByteArray := prog_15_method_21_code
def yX13_waitFor : MethodName := ⟨RX13, "waitFor", "(II)V"⟩
abbrev cX13_leaves : ByteArray := prog_15_method_22_code
def yX13_leaves : MethodName := ⟨RX13, "leaves", "(II)V"⟩
abbrev cX13_goesOn : ByteArray := prog_15_method_23_code
def yX13_goesOn : MethodName := ⟨RX13, "goesOn", "(I)V"⟩
abbrev cX13_firstGoesOn : ByteArray := prog_15_method_24_code
def yX13_firstGoesOn : MethodName := ⟨RX13, "firstGoesOn", "(I)I"⟩
abbrev cX13_fails : ByteArray := prog_15_method_25_code
def yX13_fails : MethodName := ⟨RX13, "fails", "(II)Z"⟩
abbrev cX13_has : ByteArray := prog_15_method_26_code
def yX13_has : MethodName := ⟨RX13, "has", "(II)V"⟩
abbrev cX13_freed : ByteArray := prog_15_method_27_code
def yX13_freed : MethodName := ⟨RX13, "freed", "(I)V"⟩
abbrev cX13_signalled : ByteArray := prog_15_method_28_code
def yX13_signalled : MethodName := ⟨RX13, "signalled", "(II)V"⟩
abbrev cX13_rowOf : ByteArray := prog_15_method_29_code
def yX13_rowOf : MethodName := ⟨RX13, "rowOf", "(I)I"⟩
abbrev cX13_kindOf : ByteArray := prog_15_method_30_code
def yX13_kindOf : MethodName := ⟨RX13, "kindOf", "(I)I"⟩
abbrev cX13_passes : ByteArray := prog_15_method_31_code
def yX13_passes : MethodName := ⟨RX13, "passes", "(II)Z"⟩
abbrev cX13_one : ByteArray := prog_15_method_32_code
def yX13_one : MethodName := ⟨RX13, "one", "(I)V"⟩
abbrev cX13_with : ByteArray := prog_15_method_33_code
def yX13_with : MethodName := ⟨RX13, "with", "(III)Z"⟩
abbrev cX13_atLock : ByteArray := prog_15_method_34_code
def yX13_atLock : MethodName := ⟨RX13, "atLock", "(III)Z"⟩
abbrev cX13_atCell : ByteArray := prog_15_method_35_code
def yX13_atCell : MethodName := ⟨RX13, "atCell", "(III)Z"⟩
abbrev cX13_atSemaphore : ByteArray := prog_15_method_36_code
def yX13_atSemaphore : MethodName := ⟨RX13, "atSemaphore", "(III)Z"⟩
abbrev cX13_append : ByteArray := prog_15_method_37_code
def yX13_append : MethodName := ⟨RX13, "append", "(II)V"⟩
abbrev cX13_atQueue : ByteArray := prog_15_method_38_code
def yX13_atQueue : MethodName := ⟨RX13, "atQueue", "(III)Z"⟩
abbrev cX13_atGate : ByteArray := prog_15_method_39_code
def yX13_atGate : MethodName := ⟨RX13, "atGate", "(III)Z"⟩
abbrev cX13_opened : ByteArray := prog_15_method_40_code
def yX13_opened : MethodName := ⟨RX13, "opened", "(I)V"⟩
abbrev cX13_step : ByteArray := prog_15_method_41_code
def yX13_step : MethodName := ⟨RX13, "step", "(I)I"⟩
abbrev cX13_ready : ByteArray := prog_15_method_42_code
def yX13_ready : MethodName := ⟨RX13, "ready", "()I"⟩
abbrev cX13_run : ByteArray := prog_15_method_43_code
def yX13_run : MethodName := ⟨RX13, "run", "(III)I"⟩
abbrev cX13_tick : ByteArray := prog_15_method_44_code
def yX13_tick : MethodName := ⟨RX13, "tick", "(I)I"⟩
abbrev cX13_interrupt : ByteArray := prog_15_method_45_code
def yX13_interrupt : MethodName := ⟨RX13, "interrupt", "(I)I"⟩
abbrev cX13_look : ByteArray := prog_15_method_46_code
def yX13_look : MethodName := ⟨RX13, "look", "(II)I"⟩
abbrev cX13_nextOf : ByteArray := prog_15_method_47_code
def yX13_nextOf : MethodName := ⟨RX13, "nextOf", "(I)I"⟩
abbrev cX13_dead : ByteArray := prog_15_method_48_code
def yX13_dead : MethodName := ⟨RX13, "dead", "()I"⟩
abbrev cX13_sync : ByteArray := prog_15_method_49_code
def yX13_sync : MethodName := ⟨RX13, "sync", "(II)J"⟩
abbrev cX13_count : ByteArray := prog_15_method_50_code
def yX13_count : MethodName := ⟨RX13, "count", "(I)J"⟩
def RJx29ce0 : String := "java/lang/Enum"
def TJx29ce0 : u_T := fun k => match k with
  | _ => ("", "", "", false)
def tyJx29ce0 : Nat → FieldType := fun k => match k with
  | _ => .int
abbrev wsJx29ce00 : List Cond := u_ws RJx29ce0 TJx29ce0 0
theorem nmJx29ce0 : ∀ a, a < 0 → ∀ b, b < 0 → a ≠ b → (TJx29ce0 a).2.1 ≠ (TJx29ce0 b).2.1 := by decide +kernel
theorem tyJx29ce0_ok : ∀ k, k < 0 → parseFieldDescriptor (TJx29ce0 k).2.2.1 = some (tyJx29ce0 k) := by decide +kernel
abbrev cJx29ce0_ordinal_8abf5 : ByteArray := prog_16_method_2_code
def yJx29ce0_ordinal_8abf5 : MethodName := ⟨RJx29ce0, "ordinal", "()I"⟩
def RJ0 : String := "java/lang/String"
def TJ0 : u_T := fun k => match k with
  | _ => ("", "", "", false)
def tyJ0 : Nat → FieldType := fun k => match k with
  | _ => .int
abbrev wsJ00 : List Cond := u_ws RJ0 TJ0 0
theorem nmJ0 : ∀ a, a < 0 → ∀ b, b < 0 → a ≠ b → (TJ0 a).2.1 ≠ (TJ0 b).2.1 := by decide +kernel
theorem tyJ0_ok : ∀ k, k < 0 → parseFieldDescriptor (TJ0 k).2.2.1 = some (tyJ0 k) := by decide +kernel
abbrev cJ0_length_8abf5 : ByteArray := prog_22_method_54_code
def yJ0_length_8abf5 : MethodName := ⟨RJ0, "length", "()I"⟩
abbrev cJ0_charAt_5068e : ByteArray := prog_22_method_56_code
def yJ0_charAt_5068e : MethodName := ⟨RJ0, "charAt", "(I)C"⟩
abbrev cJ0_coder_7d493 : ByteArray := prog_22_method_152_code
def yJ0_coder_7d493 : MethodName := ⟨RJ0, "coder", "()B"⟩
abbrev cJ0_isLatin1_aae02 : ByteArray := prog_22_method_154_code
def yJ0_isLatin1_aae02 : MethodName := ⟨RJ0, "isLatin1", "()Z"⟩
abbrev cJ0_checkIndex_df160 : ByteArray := prog_22_method_155_code
def yJ0_checkIndex_df160 : MethodName := ⟨RJ0, "checkIndex", "(II)V"⟩
def RJ1 : String := "java/lang/StringLatin1"
def TJ1 : u_T := fun k => match k with
  | _ => ("", "", "", false)
def tyJ1 : Nat → FieldType := fun k => match k with
  | _ => .int
abbrev wsJ10 : List Cond := u_ws RJ1 TJ1 0
theorem nmJ1 : ∀ a, a < 0 → ∀ b, b < 0 → a ≠ b → (TJ1 a).2.1 ≠ (TJ1 b).2.1 := by decide +kernel
theorem tyJ1_ok : ∀ k, k < 0 → parseFieldDescriptor (TJ1 k).2.2.1 = some (tyJ1 k) := by decide +kernel
abbrev cJ1_charAt_3b067 : ByteArray := prog_23_method_2_code
def yJ1_charAt_3b067 : MethodName := ⟨RJ1, "charAt", "([BI)C"⟩
def RJ2 : String := "java/lang/StringUTF16"
def TJ2 : u_T := fun k => match k with
  | _ => ("", "", "", false)
def tyJ2 : Nat → FieldType := fun k => match k with
  | _ => .int
abbrev wsJ20 : List Cond := u_ws RJ2 TJ2 0
theorem nmJ2 : ∀ a, a < 0 → ∀ b, b < 0 → a ≠ b → (TJ2 a).2.1 ≠ (TJ2 b).2.1 := by decide +kernel
theorem tyJ2_ok : ∀ k, k < 0 → parseFieldDescriptor (TJ2 k).2.2.1 = some (tyJ2 k) := by decide +kernel
abbrev cJ2_getChar_3b067 : ByteArray := prog_24_method_5_code
def yJ2_getChar_3b067 : MethodName := ⟨RJ2, "getChar", "([BI)C"⟩
abbrev cJ2_length_9d52b : ByteArray := prog_24_method_6_code
def yJ2_length_9d52b : MethodName := ⟨RJ2, "length", "([B)I"⟩
abbrev cJ2_charAt_3b067 : ByteArray := prog_24_method_83_code
def yJ2_charAt_3b067 : MethodName := ⟨RJ2, "charAt", "([BI)C"⟩
abbrev cJ2_checkIndex_2214a : ByteArray := prog_24_method_91_code
def yJ2_checkIndex_2214a : MethodName := ⟨RJ2, "checkIndex", "(I[B)V"⟩
def RJ3 : String := "jdk/internal/util/Preconditions"
def TJ3 : u_T := fun k => match k with
  | _ => ("", "", "", false)
def tyJ3 : Nat → FieldType := fun k => match k with
  | _ => .int
abbrev wsJ30 : List Cond := u_ws RJ3 TJ3 0
theorem nmJ3 : ∀ a, a < 0 → ∀ b, b < 0 → a ≠ b → (TJ3 a).2.1 ≠ (TJ3 b).2.1 := by decide +kernel
theorem tyJ3_ok : ∀ k, k < 0 → parseFieldDescriptor (TJ3 k).2.2.1 = some (tyJ3 k) := by decide +kernel
abbrev cJ3_checkIndex_8e157 : ByteArray := prog_28_method_11_code
def yJ3_checkIndex_8e157 : MethodName := ⟨RJ3, "checkIndex", "(IILjava/util/function/BiFunction;)I"⟩
def RL : String := "TurnKeeperLaw"
abbrev cL_feed : ByteArray := method_3_code
def yL_feed : MethodName := ⟨RL, "feed", "(LTurnKeeper;IIIII[J)I"⟩
abbrev cL_end : ByteArray := method_4_code
def yL_end : MethodName := ⟨RL, "end", "(LTurnKeeper;I[J)I"⟩
abbrev cL_make : ByteArray := method_5_code
def yL_make : MethodName := ⟨RL, "make", "(LTurnKeeper;II[J)I"⟩
abbrev cL_drop : ByteArray := method_6_code
def yL_drop : MethodName := ⟨RL, "drop", "(LTurnKeeper;I[J)I"⟩
abbrev cL_thread : ByteArray := method_7_code
def yL_thread : MethodName := ⟨RL, "thread", "(LTurnKeeper;[J)I"⟩
abbrev cL_step : ByteArray := method_8_code
def yL_step : MethodName := ⟨RL, "step", "(LTurnKeeper;I[J)I"⟩
abbrev cL_run : ByteArray := method_9_code
def yL_run : MethodName := ⟨RL, "run", "(LTurnKeeper;III[J)I"⟩
abbrev cL_tick : ByteArray := method_10_code
def yL_tick : MethodName := ⟨RL, "tick", "(LTurnKeeper;I[J)I"⟩
abbrev cL_interrupt : ByteArray := method_11_code
def yL_interrupt : MethodName := ⟨RL, "interrupt", "(LTurnKeeper;I[J)I"⟩
abbrev cL_look : ByteArray := method_12_code
def yL_look : MethodName := ⟨RL, "look", "(LTurnKeeper;II[J)I"⟩
abbrev cL_sync : ByteArray := method_13_code
def yL_sync : MethodName := ⟨RL, "sync", "(LTurnKeeper;II[J)I"⟩
abbrev cL_count : ByteArray := method_14_code
def yL_count : MethodName := ⟨RL, "count", "(LTurnKeeper;I[J)I"⟩
abbrev cL_law : ByteArray := code
def yL_law : MethodName := ⟨RL, "law", "([I)Z"⟩
abbrev vwCl : List vw_C := [(RX1, TX1, 5), (RX2, TX2, 5), (RX3, TX3, 4), (RX4, TX4, 7), (RX5, TX5, 6), (RX6, TX6, 2), (RX7, TX7, 4), (RX8, TX8, 13), (RX10, TX10, 6), (RX12, TX12, 6), (RX13, TX13, 38)]
end
section
theorem dX1_init_0 : decode cX1_init 0 = .ok (.aload_n 0, 1) := by decide +kernel
theorem dX1_init_1 : decode cX1_init 1 = .ok (.iload_n 1, 1) := by decide +kernel
theorem dX1_init_2 : decode cX1_init 2 = .ok (.bipush 7, 2) := by decide +kernel
theorem dX1_init_4 : decode cX1_init 4 = .ok (.invokespecial 3, 3) := by decide +kernel
theorem dX1_init_7 : decode cX1_init 7 = .ok (.aload_n 0, 1) := by decide +kernel
theorem dX1_init_8 : decode cX1_init 8 = .ok (.iconst (-1), 1) := by decide +kernel
theorem dX1_init_9 : decode cX1_init 9 = .ok (.putfield 9, 3) := by decide +kernel
theorem dX1_init_12 : decode cX1_init 12 = .ok (.return_, 1) := by decide +kernel
theorem dX1_perform_0 : decode cX1_perform 0 = .ok (.getstatic 15, 3) := by decide +kernel
theorem dX1_perform_3 : decode cX1_perform 3 = .ok (.aload_n 2, 1) := by decide +kernel
theorem dX1_perform_4 : decode cX1_perform 4 = .ok (.invokevirtual 21, 3) := by decide +kernel
theorem dX1_perform_7 : decode cX1_perform 7 = .ok (.iaload, 1) := by decide +kernel
theorem dX1_perform_8 : decode cX1_perform 8 = .ok (.tableswitch 117 20 22 #[28, 71, 79], 28) := by decide +kernel
theorem dX1_perform_36 : decode cX1_perform 36 = .ok (.aload_n 0, 1) := by decide +kernel
theorem dX1_perform_37 : decode cX1_perform 37 = .ok (.getfield 9, 3) := by decide +kernel
theorem dX1_perform_40 : decode cX1_perform 40 = .ok (.iconst (-1), 1) := by decide +kernel
theorem dX1_perform_41 : decode cX1_perform 41 = .ok (.if_icmp .ne 30, 3) := by decide +kernel
theorem dX1_perform_44 : decode cX1_perform 44 = .ok (.aload_n 0, 1) := by decide +kernel
theorem dX1_perform_45 : decode cX1_perform 45 = .ok (.getfield 27, 3) := by decide +kernel
theorem dX1_perform_48 : decode cX1_perform 48 = .ok (.getfield 31, 3) := by decide +kernel
theorem dX1_perform_51 : decode cX1_perform 51 = .ok (.ifCond .ne 20, 3) := by decide +kernel
theorem dX1_perform_54 : decode cX1_perform 54 = .ok (.aload_n 0, 1) := by decide +kernel
theorem dX1_perform_55 : decode cX1_perform 55 = .ok (.dup, 1) := by decide +kernel
theorem dX1_perform_56 : decode cX1_perform 56 = .ok (.getfield 36, 3) := by decide +kernel
theorem dX1_perform_59 : decode cX1_perform 59 = .ok (.iconst 1, 1) := by decide +kernel
theorem dX1_perform_60 : decode cX1_perform 60 = .ok (.iadd, 1) := by decide +kernel
theorem dX1_perform_61 : decode cX1_perform 61 = .ok (.putfield 36, 3) := by decide +kernel
theorem dX1_perform_64 : decode cX1_perform 64 = .ok (.aload_n 1, 1) := by decide +kernel
theorem dX1_perform_65 : decode cX1_perform 65 = .ok (.invokevirtual 39, 3) := by decide +kernel
theorem dX1_perform_68 : decode cX1_perform 68 = .ok (.goto 62, 3) := by decide +kernel
theorem dX1_perform_71 : decode cX1_perform 71 = .ok (.aload_n 0, 1) := by decide +kernel
theorem dX1_perform_72 : decode cX1_perform 72 = .ok (.aload_n 1, 1) := by decide +kernel
theorem dX1_perform_73 : decode cX1_perform 73 = .ok (.invokevirtual 45, 3) := by decide +kernel
theorem dX1_perform_76 : decode cX1_perform 76 = .ok (.goto 54, 3) := by decide +kernel
theorem dX1_perform_79 : decode cX1_perform 79 = .ok (.aload_n 0, 1) := by decide +kernel
theorem dX1_perform_80 : decode cX1_perform 80 = .ok (.aload_n 1, 1) := by decide +kernel
theorem dX1_perform_81 : decode cX1_perform 81 = .ok (.invokevirtual 49, 3) := by decide +kernel
theorem dX1_perform_84 : decode cX1_perform 84 = .ok (.goto 46, 3) := by decide +kernel
theorem dX1_perform_87 : decode cX1_perform 87 = .ok (.aload_n 0, 1) := by decide +kernel
theorem dX1_perform_88 : decode cX1_perform 88 = .ok (.getfield 9, 3) := by decide +kernel
theorem dX1_perform_91 : decode cX1_perform 91 = .ok (.iconst (-1), 1) := by decide +kernel
theorem dX1_perform_92 : decode cX1_perform 92 = .ok (.if_icmp .ne 25, 3) := by decide +kernel
theorem dX1_perform_95 : decode cX1_perform 95 = .ok (.aload_n 0, 1) := by decide +kernel
theorem dX1_perform_96 : decode cX1_perform 96 = .ok (.getfield 36, 3) := by decide +kernel
theorem dX1_perform_99 : decode cX1_perform 99 = .ok (.ifCond .ne 18, 3) := by decide +kernel
theorem dX1_perform_102 : decode cX1_perform 102 = .ok (.aload_n 0, 1) := by decide +kernel
theorem dX1_perform_103 : decode cX1_perform 103 = .ok (.aload_n 1, 1) := by decide +kernel
theorem dX1_perform_104 : decode cX1_perform 104 = .ok (.getfield 52, 3) := by decide +kernel
theorem dX1_perform_107 : decode cX1_perform 107 = .ok (.putfield 9, 3) := by decide +kernel
theorem dX1_perform_110 : decode cX1_perform 110 = .ok (.aload_n 1, 1) := by decide +kernel
theorem dX1_perform_111 : decode cX1_perform 111 = .ok (.invokevirtual 39, 3) := by decide +kernel
theorem dX1_perform_114 : decode cX1_perform 114 = .ok (.goto 16, 3) := by decide +kernel
theorem dX1_perform_117 : decode cX1_perform 117 = .ok (.aload_n 0, 1) := by decide +kernel
theorem dX1_perform_118 : decode cX1_perform 118 = .ok (.aload_n 1, 1) := by decide +kernel
theorem dX1_perform_119 : decode cX1_perform 119 = .ok (.invokevirtual 45, 3) := by decide +kernel
theorem dX1_perform_122 : decode cX1_perform 122 = .ok (.goto 8, 3) := by decide +kernel
theorem dX1_perform_125 : decode cX1_perform 125 = .ok (.aload_n 0, 1) := by decide +kernel
theorem dX1_perform_126 : decode cX1_perform 126 = .ok (.aload_n 1, 1) := by decide +kernel
theorem dX1_perform_127 : decode cX1_perform 127 = .ok (.invokevirtual 55, 3) := by decide +kernel
theorem dX1_perform_130 : decode cX1_perform 130 = .ok (.return_, 1) := by decide +kernel
theorem dX1_leave_0 : decode cX1_leave 0 = .ok (.aload_n 0, 1) := by decide +kernel
theorem dX1_leave_1 : decode cX1_leave 1 = .ok (.getfield 36, 3) := by decide +kernel
theorem dX1_leave_4 : decode cX1_leave 4 = .ok (.ifCond .ne 9, 3) := by decide +kernel
theorem dX1_leave_7 : decode cX1_leave 7 = .ok (.aload_n 1, 1) := by decide +kernel
theorem dX1_leave_8 : decode cX1_leave 8 = .ok (.iconst 3, 1) := by decide +kernel
theorem dX1_leave_9 : decode cX1_leave 9 = .ok (.invokevirtual 58, 3) := by decide +kernel
theorem dX1_leave_12 : decode cX1_leave 12 = .ok (.return_, 1) := by decide +kernel
theorem dX1_leave_13 : decode cX1_leave 13 = .ok (.aload_n 0, 1) := by decide +kernel
theorem dX1_leave_14 : decode cX1_leave 14 = .ok (.dup, 1) := by decide +kernel
theorem dX1_leave_15 : decode cX1_leave 15 = .ok (.getfield 36, 3) := by decide +kernel
theorem dX1_leave_18 : decode cX1_leave 18 = .ok (.iconst 1, 1) := by decide +kernel
theorem dX1_leave_19 : decode cX1_leave 19 = .ok (.isub, 1) := by decide +kernel
theorem dX1_leave_20 : decode cX1_leave 20 = .ok (.putfield 36, 3) := by decide +kernel
theorem dX1_leave_23 : decode cX1_leave 23 = .ok (.aload_n 1, 1) := by decide +kernel
theorem dX1_leave_24 : decode cX1_leave 24 = .ok (.invokevirtual 39, 3) := by decide +kernel
theorem dX1_leave_27 : decode cX1_leave 27 = .ok (.aload_n 0, 1) := by decide +kernel
theorem dX1_leave_28 : decode cX1_leave 28 = .ok (.getfield 36, 3) := by decide +kernel
theorem dX1_leave_31 : decode cX1_leave 31 = .ok (.ifCond .ne 7, 3) := by decide +kernel
theorem dX1_leave_34 : decode cX1_leave 34 = .ok (.aload_n 0, 1) := by decide +kernel
theorem dX1_leave_35 : decode cX1_leave 35 = .ok (.invokevirtual 62, 3) := by decide +kernel
theorem dX1_leave_38 : decode cX1_leave 38 = .ok (.return_, 1) := by decide +kernel
theorem dX1_giveBack_0 : decode cX1_giveBack 0 = .ok (.aload_n 0, 1) := by decide +kernel
theorem dX1_giveBack_1 : decode cX1_giveBack 1 = .ok (.getfield 9, 3) := by decide +kernel
theorem dX1_giveBack_4 : decode cX1_giveBack 4 = .ok (.aload_n 1, 1) := by decide +kernel
theorem dX1_giveBack_5 : decode cX1_giveBack 5 = .ok (.getfield 52, 3) := by decide +kernel
theorem dX1_giveBack_8 : decode cX1_giveBack 8 = .ok (.if_icmp .eq 9, 3) := by decide +kernel
theorem dX1_giveBack_11 : decode cX1_giveBack 11 = .ok (.aload_n 1, 1) := by decide +kernel
theorem dX1_giveBack_12 : decode cX1_giveBack 12 = .ok (.iconst 1, 1) := by decide +kernel
theorem dX1_giveBack_13 : decode cX1_giveBack 13 = .ok (.invokevirtual 58, 3) := by decide +kernel
theorem dX1_giveBack_16 : decode cX1_giveBack 16 = .ok (.return_, 1) := by decide +kernel
theorem dX1_giveBack_17 : decode cX1_giveBack 17 = .ok (.aload_n 0, 1) := by decide +kernel
theorem dX1_giveBack_18 : decode cX1_giveBack 18 = .ok (.iconst (-1), 1) := by decide +kernel
theorem dX1_giveBack_19 : decode cX1_giveBack 19 = .ok (.putfield 9, 3) := by decide +kernel
theorem dX1_giveBack_22 : decode cX1_giveBack 22 = .ok (.aload_n 1, 1) := by decide +kernel
theorem dX1_giveBack_23 : decode cX1_giveBack 23 = .ok (.invokevirtual 39, 3) := by decide +kernel
theorem dX1_giveBack_26 : decode cX1_giveBack 26 = .ok (.aload_n 0, 1) := by decide +kernel
theorem dX1_giveBack_27 : decode cX1_giveBack 27 = .ok (.invokevirtual 62, 3) := by decide +kernel
theorem dX1_giveBack_30 : decode cX1_giveBack 30 = .ok (.return_, 1) := by decide +kernel
theorem dX1_rowGoesOn_0 : decode cX1_rowGoesOn 0 = .ok (.iconst 0, 1) := by decide +kernel
theorem dX1_rowGoesOn_1 : decode cX1_rowGoesOn 1 = .ok (.istore_n 1, 1) := by decide +kernel
theorem dX1_rowGoesOn_2 : decode cX1_rowGoesOn 2 = .ok (.iload_n 1, 1) := by decide +kernel
theorem dX1_rowGoesOn_3 : decode cX1_rowGoesOn 3 = .ok (.bipush 8, 2) := by decide +kernel
theorem dX1_rowGoesOn_5 : decode cX1_rowGoesOn 5 = .ok (.if_icmp .ge 76, 3) := by decide +kernel
theorem dX1_rowGoesOn_8 : decode cX1_rowGoesOn 8 = .ok (.aload_n 0, 1) := by decide +kernel
theorem dX1_rowGoesOn_9 : decode cX1_rowGoesOn 9 = .ok (.getfield 9, 3) := by decide +kernel
theorem dX1_rowGoesOn_12 : decode cX1_rowGoesOn 12 = .ok (.iconst (-1), 1) := by decide +kernel
theorem dX1_rowGoesOn_13 : decode cX1_rowGoesOn 13 = .ok (.if_icmp .ne 68, 3) := by decide +kernel
theorem dX1_rowGoesOn_16 : decode cX1_rowGoesOn 16 = .ok (.aload_n 0, 1) := by decide +kernel
theorem dX1_rowGoesOn_17 : decode cX1_rowGoesOn 17 = .ok (.getfield 27, 3) := by decide +kernel
theorem dX1_rowGoesOn_20 : decode cX1_rowGoesOn 20 = .ok (.invokevirtual 65, 3) := by decide +kernel
theorem dX1_rowGoesOn_23 : decode cX1_rowGoesOn 23 = .ok (.astore_n 2, 1) := by decide +kernel
theorem dX1_rowGoesOn_24 : decode cX1_rowGoesOn 24 = .ok (.aload_n 2, 1) := by decide +kernel
theorem dX1_rowGoesOn_25 : decode cX1_rowGoesOn 25 = .ok (.ifnonnull 4, 3) := by decide +kernel
theorem dX1_rowGoesOn_28 : decode cX1_rowGoesOn 28 = .ok (.return_, 1) := by decide +kernel
theorem dX1_rowGoesOn_29 : decode cX1_rowGoesOn 29 = .ok (.aload_n 2, 1) := by decide +kernel
theorem dX1_rowGoesOn_30 : decode cX1_rowGoesOn 30 = .ok (.invokevirtual 69, 3) := by decide +kernel
theorem dX1_rowGoesOn_33 : decode cX1_rowGoesOn 33 = .ok (.getstatic 73, 3) := by decide +kernel
theorem dX1_rowGoesOn_36 : decode cX1_rowGoesOn 36 = .ok (.if_acmp .eq 16, 3) := by decide +kernel
theorem dX1_rowGoesOn_39 : decode cX1_rowGoesOn 39 = .ok (.aload_n 0, 1) := by decide +kernel
theorem dX1_rowGoesOn_40 : decode cX1_rowGoesOn 40 = .ok (.dup, 1) := by decide +kernel
theorem dX1_rowGoesOn_41 : decode cX1_rowGoesOn 41 = .ok (.getfield 36, 3) := by decide +kernel
theorem dX1_rowGoesOn_44 : decode cX1_rowGoesOn 44 = .ok (.iconst 1, 1) := by decide +kernel
theorem dX1_rowGoesOn_45 : decode cX1_rowGoesOn 45 = .ok (.iadd, 1) := by decide +kernel
theorem dX1_rowGoesOn_46 : decode cX1_rowGoesOn 46 = .ok (.putfield 36, 3) := by decide +kernel
theorem dX1_rowGoesOn_49 : decode cX1_rowGoesOn 49 = .ok (.goto 22, 3) := by decide +kernel
theorem dX1_rowGoesOn_52 : decode cX1_rowGoesOn 52 = .ok (.aload_n 0, 1) := by decide +kernel
theorem dX1_rowGoesOn_53 : decode cX1_rowGoesOn 53 = .ok (.getfield 36, 3) := by decide +kernel
theorem dX1_rowGoesOn_56 : decode cX1_rowGoesOn 56 = .ok (.ifCond .ne 14, 3) := by decide +kernel
theorem dX1_rowGoesOn_59 : decode cX1_rowGoesOn 59 = .ok (.aload_n 0, 1) := by decide +kernel
theorem dX1_rowGoesOn_60 : decode cX1_rowGoesOn 60 = .ok (.aload_n 2, 1) := by decide +kernel
theorem dX1_rowGoesOn_61 : decode cX1_rowGoesOn 61 = .ok (.getfield 52, 3) := by decide +kernel
theorem dX1_rowGoesOn_64 : decode cX1_rowGoesOn 64 = .ok (.putfield 9, 3) := by decide +kernel
theorem dX1_rowGoesOn_67 : decode cX1_rowGoesOn 67 = .ok (.goto 4, 3) := by decide +kernel
theorem dX1_rowGoesOn_70 : decode cX1_rowGoesOn 70 = .ok (.return_, 1) := by decide +kernel
theorem dX1_rowGoesOn_71 : decode cX1_rowGoesOn 71 = .ok (.aload_n 2, 1) := by decide +kernel
theorem dX1_rowGoesOn_72 : decode cX1_rowGoesOn 72 = .ok (.invokevirtual 39, 3) := by decide +kernel
theorem dX1_rowGoesOn_75 : decode cX1_rowGoesOn 75 = .ok (.iinc 1 1, 3) := by decide +kernel
theorem dX1_rowGoesOn_78 : decode cX1_rowGoesOn 78 = .ok (.goto (-76), 3) := by decide +kernel
theorem dX1_rowGoesOn_81 : decode cX1_rowGoesOn 81 = .ok (.return_, 1) := by decide +kernel
theorem dX1_value_0 : decode cX1_value 0 = .ok (.aload_n 0, 1) := by decide +kernel
theorem dX1_value_1 : decode cX1_value 1 = .ok (.getfield 36, 3) := by decide +kernel
theorem dX1_value_4 : decode cX1_value 4 = .ok (.i2l, 1) := by decide +kernel
theorem dX1_value_5 : decode cX1_value 5 = .ok (.lreturn, 1) := by decide +kernel
theorem dX1_tells_0 : decode cX1_tells 0 = .ok (.iload_n 1, 1) := by decide +kernel
theorem dX1_tells_1 : decode cX1_tells 1 = .ok (.iconst 2, 1) := by decide +kernel
theorem dX1_tells_2 : decode cX1_tells 2 = .ok (.if_icmp .gt 7, 3) := by decide +kernel
theorem dX1_tells_5 : decode cX1_tells 5 = .ok (.iconst 1, 1) := by decide +kernel
theorem dX1_tells_6 : decode cX1_tells 6 = .ok (.goto 4, 3) := by decide +kernel
theorem dX1_tells_9 : decode cX1_tells 9 = .ok (.iconst 0, 1) := by decide +kernel
theorem dX1_tells_10 : decode cX1_tells 10 = .ok (.ireturn, 1) := by decide +kernel
theorem dX1_detail_0 : decode cX1_detail 0 = .ok (.aload_n 0, 1) := by decide +kernel
theorem dX1_detail_1 : decode cX1_detail 1 = .ok (.getfield 9, 3) := by decide +kernel
theorem dX1_detail_4 : decode cX1_detail 4 = .ok (.i2l, 1) := by decide +kernel
theorem dX1_detail_5 : decode cX1_detail 5 = .ok (.lreturn, 1) := by decide +kernel
theorem dX2_init_0 : decode cX2_init 0 = .ok (.aload_n 0, 1) := by decide +kernel
theorem dX2_init_1 : decode cX2_init 1 = .ok (.iload_n 1, 1) := by decide +kernel
theorem dX2_init_2 : decode cX2_init 2 = .ok (.iload_n 2, 1) := by decide +kernel
theorem dX2_init_3 : decode cX2_init 3 = .ok (.invokespecial 3, 3) := by decide +kernel
theorem dX2_init_6 : decode cX2_init 6 = .ok (.aload_n 0, 1) := by decide +kernel
theorem dX2_init_7 : decode cX2_init 7 = .ok (.iload_n 3, 1) := by decide +kernel
theorem dX2_init_8 : decode cX2_init 8 = .ok (.putfield 9, 3) := by decide +kernel
theorem dX2_init_11 : decode cX2_init 11 = .ok (.aload_n 0, 1) := by decide +kernel
theorem dX2_init_12 : decode cX2_init 12 = .ok (.iload 4, 2) := by decide +kernel
theorem dX2_init_14 : decode cX2_init 14 = .ok (.putfield 15, 3) := by decide +kernel
theorem dX2_init_17 : decode cX2_init 17 = .ok (.return_, 1) := by decide +kernel
theorem dX2_perform_0 : decode cX2_perform 0 = .ok (.getstatic 19, 3) := by decide +kernel
theorem dX2_perform_3 : decode cX2_perform 3 = .ok (.aload_n 2, 1) := by decide +kernel
theorem dX2_perform_4 : decode cX2_perform 4 = .ok (.invokevirtual 25, 3) := by decide +kernel
theorem dX2_perform_7 : decode cX2_perform 7 = .ok (.iaload, 1) := by decide +kernel
theorem dX2_perform_8 : decode cX2_perform 8 = .ok (.tableswitch 164 15 19 #[36, 47, 62, 87, 141], 36) := by decide +kernel
theorem dX2_perform_44 : decode cX2_perform 44 = .ok (.aload_n 1, 1) := by decide +kernel
theorem dX2_perform_45 : decode cX2_perform 45 = .ok (.aload_n 0, 1) := by decide +kernel
theorem dX2_perform_46 : decode cX2_perform 46 = .ok (.getfield 15, 3) := by decide +kernel
theorem dX2_perform_49 : decode cX2_perform 49 = .ok (.invokevirtual 31, 3) := by decide +kernel
theorem dX2_perform_52 : decode cX2_perform 52 = .ok (.goto 143, 3) := by decide +kernel
theorem dX2_perform_55 : decode cX2_perform 55 = .ok (.aload_n 0, 1) := by decide +kernel
theorem dX2_perform_56 : decode cX2_perform 56 = .ok (.aload_n 1, 1) := by decide +kernel
theorem dX2_perform_57 : decode cX2_perform 57 = .ok (.getfield 37, 3) := by decide +kernel
theorem dX2_perform_60 : decode cX2_perform 60 = .ok (.putfield 15, 3) := by decide +kernel
theorem dX2_perform_63 : decode cX2_perform 63 = .ok (.aload_n 1, 1) := by decide +kernel
theorem dX2_perform_64 : decode cX2_perform 64 = .ok (.invokevirtual 40, 3) := by decide +kernel
theorem dX2_perform_67 : decode cX2_perform 67 = .ok (.goto 128, 3) := by decide +kernel
theorem dX2_perform_70 : decode cX2_perform 70 = .ok (.aload_n 0, 1) := by decide +kernel
theorem dX2_perform_71 : decode cX2_perform 71 = .ok (.dup, 1) := by decide +kernel
theorem dX2_perform_72 : decode cX2_perform 72 = .ok (.getfield 15, 3) := by decide +kernel
theorem dX2_perform_75 : decode cX2_perform 75 = .ok (.aload_n 1, 1) := by decide +kernel
theorem dX2_perform_76 : decode cX2_perform 76 = .ok (.iconst 1, 1) := by decide +kernel
theorem dX2_perform_77 : decode cX2_perform 77 = .ok (.invokevirtual 44, 3) := by decide +kernel
theorem dX2_perform_80 : decode cX2_perform 80 = .ok (.iadd, 1) := by decide +kernel
theorem dX2_perform_81 : decode cX2_perform 81 = .ok (.putfield 15, 3) := by decide +kernel
theorem dX2_perform_84 : decode cX2_perform 84 = .ok (.aload_n 1, 1) := by decide +kernel
theorem dX2_perform_85 : decode cX2_perform 85 = .ok (.aload_n 0, 1) := by decide +kernel
theorem dX2_perform_86 : decode cX2_perform 86 = .ok (.getfield 15, 3) := by decide +kernel
theorem dX2_perform_89 : decode cX2_perform 89 = .ok (.invokevirtual 31, 3) := by decide +kernel
theorem dX2_perform_92 : decode cX2_perform 92 = .ok (.goto 103, 3) := by decide +kernel
theorem dX2_perform_95 : decode cX2_perform 95 = .ok (.aload_n 0, 1) := by decide +kernel
theorem dX2_perform_96 : decode cX2_perform 96 = .ok (.getfield 15, 3) := by decide +kernel
theorem dX2_perform_99 : decode cX2_perform 99 = .ok (.aload_n 1, 1) := by decide +kernel
theorem dX2_perform_100 : decode cX2_perform 100 = .ok (.iconst 1, 1) := by decide +kernel
theorem dX2_perform_101 : decode cX2_perform 101 = .ok (.invokevirtual 44, 3) := by decide +kernel
theorem dX2_perform_104 : decode cX2_perform 104 = .ok (.if_icmp .ne 7, 3) := by decide +kernel
theorem dX2_perform_107 : decode cX2_perform 107 = .ok (.iconst 1, 1) := by decide +kernel
theorem dX2_perform_108 : decode cX2_perform 108 = .ok (.goto 4, 3) := by decide +kernel
theorem dX2_perform_111 : decode cX2_perform 111 = .ok (.iconst 0, 1) := by decide +kernel
theorem dX2_perform_112 : decode cX2_perform 112 = .ok (.istore_n 3, 1) := by decide +kernel
theorem dX2_perform_113 : decode cX2_perform 113 = .ok (.aload_n 0, 1) := by decide +kernel
theorem dX2_perform_114 : decode cX2_perform 114 = .ok (.iload_n 3, 1) := by decide +kernel
theorem dX2_perform_115 : decode cX2_perform 115 = .ok (.ifCond .eq 11, 3) := by decide +kernel
theorem dX2_perform_118 : decode cX2_perform 118 = .ok (.aload_n 1, 1) := by decide +kernel
theorem dX2_perform_119 : decode cX2_perform 119 = .ok (.iconst 2, 1) := by decide +kernel
theorem dX2_perform_120 : decode cX2_perform 120 = .ok (.invokevirtual 44, 3) := by decide +kernel
theorem dX2_perform_123 : decode cX2_perform 123 = .ok (.goto 7, 3) := by decide +kernel
theorem dX2_perform_126 : decode cX2_perform 126 = .ok (.aload_n 0, 1) := by decide +kernel
theorem dX2_perform_127 : decode cX2_perform 127 = .ok (.getfield 15, 3) := by decide +kernel
theorem dX2_perform_130 : decode cX2_perform 130 = .ok (.putfield 15, 3) := by decide +kernel
theorem dX2_perform_133 : decode cX2_perform 133 = .ok (.aload_n 1, 1) := by decide +kernel
theorem dX2_perform_134 : decode cX2_perform 134 = .ok (.iload_n 3, 1) := by decide +kernel
theorem dX2_perform_135 : decode cX2_perform 135 = .ok (.ifCond .eq 7, 3) := by decide +kernel
theorem dX2_perform_138 : decode cX2_perform 138 = .ok (.iconst 1, 1) := by decide +kernel
theorem dX2_perform_139 : decode cX2_perform 139 = .ok (.goto 4, 3) := by decide +kernel
theorem dX2_perform_142 : decode cX2_perform 142 = .ok (.iconst 0, 1) := by decide +kernel
theorem dX2_perform_143 : decode cX2_perform 143 = .ok (.invokevirtual 31, 3) := by decide +kernel
theorem dX2_perform_146 : decode cX2_perform 146 = .ok (.goto 49, 3) := by decide +kernel
theorem dX2_perform_149 : decode cX2_perform 149 = .ok (.aload_n 1, 1) := by decide +kernel
theorem dX2_perform_150 : decode cX2_perform 150 = .ok (.aload_n 0, 1) := by decide +kernel
theorem dX2_perform_151 : decode cX2_perform 151 = .ok (.aload_n 1, 1) := by decide +kernel
theorem dX2_perform_152 : decode cX2_perform 152 = .ok (.getfield 37, 3) := by decide +kernel
theorem dX2_perform_155 : decode cX2_perform 155 = .ok (.invokevirtual 48, 3) := by decide +kernel
theorem dX2_perform_158 : decode cX2_perform 158 = .ok (.ifCond .eq 7, 3) := by decide +kernel
theorem dX2_perform_161 : decode cX2_perform 161 = .ok (.iconst 1, 1) := by decide +kernel
theorem dX2_perform_162 : decode cX2_perform 162 = .ok (.goto 4, 3) := by decide +kernel
theorem dX2_perform_165 : decode cX2_perform 165 = .ok (.iconst 0, 1) := by decide +kernel
theorem dX2_perform_166 : decode cX2_perform 166 = .ok (.invokevirtual 31, 3) := by decide +kernel
theorem dX2_perform_169 : decode cX2_perform 169 = .ok (.goto 26, 3) := by decide +kernel
theorem dX2_perform_172 : decode cX2_perform 172 = .ok (.aload_n 0, 1) := by decide +kernel
theorem dX2_perform_173 : decode cX2_perform 173 = .ok (.getfield 9, 3) := by decide +kernel
theorem dX2_perform_176 : decode cX2_perform 176 = .ok (.ifCond .eq 14, 3) := by decide +kernel
theorem dX2_perform_179 : decode cX2_perform 179 = .ok (.aload_n 1, 1) := by decide +kernel
theorem dX2_perform_180 : decode cX2_perform 180 = .ok (.aload_n 0, 1) := by decide +kernel
theorem dX2_perform_181 : decode cX2_perform 181 = .ok (.getfield 15, 3) := by decide +kernel
theorem dX2_perform_184 : decode cX2_perform 184 = .ok (.invokevirtual 31, 3) := by decide +kernel
theorem dX2_perform_187 : decode cX2_perform 187 = .ok (.goto 8, 3) := by decide +kernel
theorem dX2_perform_190 : decode cX2_perform 190 = .ok (.aload_n 0, 1) := by decide +kernel
theorem dX2_perform_191 : decode cX2_perform 191 = .ok (.aload_n 1, 1) := by decide +kernel
theorem dX2_perform_192 : decode cX2_perform 192 = .ok (.invokevirtual 52, 3) := by decide +kernel
theorem dX2_perform_195 : decode cX2_perform 195 = .ok (.return_, 1) := by decide +kernel
theorem dX2_isGiven_0 : decode cX2_isGiven 0 = .ok (.aload_n 0, 1) := by decide +kernel
theorem dX2_isGiven_1 : decode cX2_isGiven 1 = .ok (.getfield 9, 3) := by decide +kernel
theorem dX2_isGiven_4 : decode cX2_isGiven 4 = .ok (.ifCond .eq 5, 3) := by decide +kernel
theorem dX2_isGiven_7 : decode cX2_isGiven 7 = .ok (.iconst 0, 1) := by decide +kernel
theorem dX2_isGiven_8 : decode cX2_isGiven 8 = .ok (.ireturn, 1) := by decide +kernel
theorem dX2_isGiven_9 : decode cX2_isGiven 9 = .ok (.aload_n 0, 1) := by decide +kernel
theorem dX2_isGiven_10 : decode cX2_isGiven 10 = .ok (.iconst 1, 1) := by decide +kernel
theorem dX2_isGiven_11 : decode cX2_isGiven 11 = .ok (.putfield 9, 3) := by decide +kernel
theorem dX2_isGiven_14 : decode cX2_isGiven 14 = .ok (.aload_n 0, 1) := by decide +kernel
theorem dX2_isGiven_15 : decode cX2_isGiven 15 = .ok (.iload_n 1, 1) := by decide +kernel
theorem dX2_isGiven_16 : decode cX2_isGiven 16 = .ok (.putfield 15, 3) := by decide +kernel
theorem dX2_isGiven_19 : decode cX2_isGiven 19 = .ok (.iconst 0, 1) := by decide +kernel
theorem dX2_isGiven_20 : decode cX2_isGiven 20 = .ok (.istore_n 2, 1) := by decide +kernel
theorem dX2_isGiven_21 : decode cX2_isGiven 21 = .ok (.iload_n 2, 1) := by decide +kernel
theorem dX2_isGiven_22 : decode cX2_isGiven 22 = .ok (.bipush 8, 2) := by decide +kernel
theorem dX2_isGiven_24 : decode cX2_isGiven 24 = .ok (.if_icmp .ge 26, 3) := by decide +kernel
theorem dX2_isGiven_27 : decode cX2_isGiven 27 = .ok (.aload_n 0, 1) := by decide +kernel
theorem dX2_isGiven_28 : decode cX2_isGiven 28 = .ok (.getfield 56, 3) := by decide +kernel
theorem dX2_isGiven_31 : decode cX2_isGiven 31 = .ok (.invokevirtual 60, 3) := by decide +kernel
theorem dX2_isGiven_34 : decode cX2_isGiven 34 = .ok (.astore_n 3, 1) := by decide +kernel
theorem dX2_isGiven_35 : decode cX2_isGiven 35 = .ok (.aload_n 3, 1) := by decide +kernel
theorem dX2_isGiven_36 : decode cX2_isGiven 36 = .ok (.ifnull 8, 3) := by decide +kernel
theorem dX2_isGiven_39 : decode cX2_isGiven 39 = .ok (.aload_n 3, 1) := by decide +kernel
theorem dX2_isGiven_40 : decode cX2_isGiven 40 = .ok (.iload_n 1, 1) := by decide +kernel
theorem dX2_isGiven_41 : decode cX2_isGiven 41 = .ok (.invokevirtual 31, 3) := by decide +kernel
theorem dX2_isGiven_44 : decode cX2_isGiven 44 = .ok (.iinc 2 1, 3) := by decide +kernel
theorem dX2_isGiven_47 : decode cX2_isGiven 47 = .ok (.goto (-26), 3) := by decide +kernel
theorem dX2_isGiven_50 : decode cX2_isGiven 50 = .ok (.iconst 1, 1) := by decide +kernel
theorem dX2_isGiven_51 : decode cX2_isGiven 51 = .ok (.ireturn, 1) := by decide +kernel
theorem dX2_value_0 : decode cX2_value 0 = .ok (.aload_n 0, 1) := by decide +kernel
theorem dX2_value_1 : decode cX2_value 1 = .ok (.getfield 9, 3) := by decide +kernel
theorem dX2_value_4 : decode cX2_value 4 = .ok (.ifCond .eq 11, 3) := by decide +kernel
theorem dX2_value_7 : decode cX2_value 7 = .ok (.aload_n 0, 1) := by decide +kernel
theorem dX2_value_8 : decode cX2_value 8 = .ok (.getfield 15, 3) := by decide +kernel
theorem dX2_value_11 : decode cX2_value 11 = .ok (.i2l, 1) := by decide +kernel
theorem dX2_value_12 : decode cX2_value 12 = .ok (.goto 6, 3) := by decide +kernel
theorem dX2_value_15 : decode cX2_value 15 = .ok (.ldc2_w 66, 3) := by decide +kernel
theorem dX2_value_18 : decode cX2_value 18 = .ok (.lreturn, 1) := by decide +kernel
theorem dX3_init_0 : decode cX3_init 0 = .ok (.aload_n 0, 1) := by decide +kernel
theorem dX3_init_1 : decode cX3_init 1 = .ok (.iload_n 1, 1) := by decide +kernel
theorem dX3_init_2 : decode cX3_init 2 = .ok (.iload_n 2, 1) := by decide +kernel
theorem dX3_init_3 : decode cX3_init 3 = .ok (.invokespecial 3, 3) := by decide +kernel
theorem dX3_init_6 : decode cX3_init 6 = .ok (.aload_n 0, 1) := by decide +kernel
theorem dX3_init_7 : decode cX3_init 7 = .ok (.iload_n 3, 1) := by decide +kernel
theorem dX3_init_8 : decode cX3_init 8 = .ok (.putfield 9, 3) := by decide +kernel
theorem dX3_init_11 : decode cX3_init 11 = .ok (.return_, 1) := by decide +kernel
theorem dX3_perform_0 : decode cX3_perform 0 = .ok (.getstatic 15, 3) := by decide +kernel
theorem dX3_perform_3 : decode cX3_perform 3 = .ok (.aload_n 2, 1) := by decide +kernel
theorem dX3_perform_4 : decode cX3_perform 4 = .ok (.invokevirtual 21, 3) := by decide +kernel
theorem dX3_perform_7 : decode cX3_perform 7 = .ok (.iaload, 1) := by decide +kernel
theorem dX3_perform_8 : decode cX3_perform 8 = .ok (.lookupswitch 85 #[(10, 28), (11, 63)], 28) := by decide +kernel
theorem dX3_perform_36 : decode cX3_perform 36 = .ok (.aload_n 1, 1) := by decide +kernel
theorem dX3_perform_37 : decode cX3_perform 37 = .ok (.invokevirtual 27, 3) := by decide +kernel
theorem dX3_perform_40 : decode cX3_perform 40 = .ok (.aload_n 0, 1) := by decide +kernel
theorem dX3_perform_41 : decode cX3_perform 41 = .ok (.getfield 9, 3) := by decide +kernel
theorem dX3_perform_44 : decode cX3_perform 44 = .ok (.ifCond .le 13, 3) := by decide +kernel
theorem dX3_perform_47 : decode cX3_perform 47 = .ok (.aload_n 0, 1) := by decide +kernel
theorem dX3_perform_48 : decode cX3_perform 48 = .ok (.dup, 1) := by decide +kernel
theorem dX3_perform_49 : decode cX3_perform 49 = .ok (.getfield 9, 3) := by decide +kernel
theorem dX3_perform_52 : decode cX3_perform 52 = .ok (.iconst 1, 1) := by decide +kernel
theorem dX3_perform_53 : decode cX3_perform 53 = .ok (.isub, 1) := by decide +kernel
theorem dX3_perform_54 : decode cX3_perform 54 = .ok (.putfield 9, 3) := by decide +kernel
theorem dX3_perform_57 : decode cX3_perform 57 = .ok (.aload_n 0, 1) := by decide +kernel
theorem dX3_perform_58 : decode cX3_perform 58 = .ok (.getfield 9, 3) := by decide +kernel
theorem dX3_perform_61 : decode cX3_perform 61 = .ok (.ifCond .ne 73, 3) := by decide +kernel
theorem dX3_perform_64 : decode cX3_perform 64 = .ok (.aload_n 0, 1) := by decide +kernel
theorem dX3_perform_65 : decode cX3_perform 65 = .ok (.invokevirtual 33, 3) := by decide +kernel
theorem dX3_perform_68 : decode cX3_perform 68 = .ok (.goto 66, 3) := by decide +kernel
theorem dX3_perform_71 : decode cX3_perform 71 = .ok (.aload_n 0, 1) := by decide +kernel
theorem dX3_perform_72 : decode cX3_perform 72 = .ok (.getfield 9, 3) := by decide +kernel
theorem dX3_perform_75 : decode cX3_perform 75 = .ok (.ifCond .ne 10, 3) := by decide +kernel
theorem dX3_perform_78 : decode cX3_perform 78 = .ok (.aload_n 1, 1) := by decide +kernel
theorem dX3_perform_79 : decode cX3_perform 79 = .ok (.invokevirtual 27, 3) := by decide +kernel
theorem dX3_perform_82 : decode cX3_perform 82 = .ok (.goto 52, 3) := by decide +kernel
theorem dX3_perform_85 : decode cX3_perform 85 = .ok (.aload_n 0, 1) := by decide +kernel
theorem dX3_perform_86 : decode cX3_perform 86 = .ok (.aload_n 1, 1) := by decide +kernel
theorem dX3_perform_87 : decode cX3_perform 87 = .ok (.invokevirtual 36, 3) := by decide +kernel
theorem dX3_perform_90 : decode cX3_perform 90 = .ok (.goto 44, 3) := by decide +kernel
theorem dX3_perform_93 : decode cX3_perform 93 = .ok (.aload_n 1, 1) := by decide +kernel
theorem dX3_perform_94 : decode cX3_perform 94 = .ok (.aload_n 0, 1) := by decide +kernel
theorem dX3_perform_95 : decode cX3_perform 95 = .ok (.getfield 9, 3) := by decide +kernel
theorem dX3_perform_98 : decode cX3_perform 98 = .ok (.aload_n 0, 1) := by decide +kernel
theorem dX3_perform_99 : decode cX3_perform 99 = .ok (.getfield 40, 3) := by decide +kernel
theorem dX3_perform_102 : decode cX3_perform 102 = .ok (.getfield 44, 3) := by decide +kernel
theorem dX3_perform_105 : decode cX3_perform 105 = .ok (.isub, 1) := by decide +kernel
theorem dX3_perform_106 : decode cX3_perform 106 = .ok (.iconst 1, 1) := by decide +kernel
theorem dX3_perform_107 : decode cX3_perform 107 = .ok (.isub, 1) := by decide +kernel
theorem dX3_perform_108 : decode cX3_perform 108 = .ok (.putfield 49, 3) := by decide +kernel
theorem dX3_perform_111 : decode cX3_perform 111 = .ok (.aload_n 1, 1) := by decide +kernel
theorem dX3_perform_112 : decode cX3_perform 112 = .ok (.getfield 49, 3) := by decide +kernel
theorem dX3_perform_115 : decode cX3_perform 115 = .ok (.ifCond .ne 14, 3) := by decide +kernel
theorem dX3_perform_118 : decode cX3_perform 118 = .ok (.aload_n 0, 1) := by decide +kernel
theorem dX3_perform_119 : decode cX3_perform 119 = .ok (.invokevirtual 33, 3) := by decide +kernel
theorem dX3_perform_122 : decode cX3_perform 122 = .ok (.aload_n 1, 1) := by decide +kernel
theorem dX3_perform_123 : decode cX3_perform 123 = .ok (.invokevirtual 27, 3) := by decide +kernel
theorem dX3_perform_126 : decode cX3_perform 126 = .ok (.goto 8, 3) := by decide +kernel
theorem dX3_perform_129 : decode cX3_perform 129 = .ok (.aload_n 0, 1) := by decide +kernel
theorem dX3_perform_130 : decode cX3_perform 130 = .ok (.aload_n 1, 1) := by decide +kernel
theorem dX3_perform_131 : decode cX3_perform 131 = .ok (.invokevirtual 36, 3) := by decide +kernel
theorem dX3_perform_134 : decode cX3_perform 134 = .ok (.return_, 1) := by decide +kernel
theorem dX3_value_0 : decode cX3_value 0 = .ok (.aload_n 0, 1) := by decide +kernel
theorem dX3_value_1 : decode cX3_value 1 = .ok (.getfield 52, 3) := by decide +kernel
theorem dX3_value_4 : decode cX3_value 4 = .ok (.iconst 2, 1) := by decide +kernel
theorem dX3_value_5 : decode cX3_value 5 = .ok (.if_icmp .ne 11, 3) := by decide +kernel
theorem dX3_value_8 : decode cX3_value 8 = .ok (.aload_n 0, 1) := by decide +kernel
theorem dX3_value_9 : decode cX3_value 9 = .ok (.getfield 9, 3) := by decide +kernel
theorem dX3_value_12 : decode cX3_value 12 = .ok (.i2l, 1) := by decide +kernel
theorem dX3_value_13 : decode cX3_value 13 = .ok (.goto 11, 3) := by decide +kernel
theorem dX3_value_16 : decode cX3_value 16 = .ok (.aload_n 0, 1) := by decide +kernel
theorem dX3_value_17 : decode cX3_value 17 = .ok (.getfield 40, 3) := by decide +kernel
theorem dX3_value_20 : decode cX3_value 20 = .ok (.getfield 44, 3) := by decide +kernel
theorem dX3_value_23 : decode cX3_value 23 = .ok (.i2l, 1) := by decide +kernel
theorem dX3_value_24 : decode cX3_value 24 = .ok (.lreturn, 1) := by decide +kernel
theorem dX4_init_0 : decode cX4_init 0 = .ok (.aload_n 0, 1) := by decide +kernel
theorem dX4_init_1 : decode cX4_init 1 = .ok (.iload_n 1, 1) := by decide +kernel
theorem dX4_init_2 : decode cX4_init 2 = .ok (.iconst 0, 1) := by decide +kernel
theorem dX4_init_3 : decode cX4_init 3 = .ok (.invokespecial 3, 3) := by decide +kernel
theorem dX4_init_6 : decode cX4_init 6 = .ok (.aload_n 0, 1) := by decide +kernel
theorem dX4_init_7 : decode cX4_init 7 = .ok (.iconst (-1), 1) := by decide +kernel
theorem dX4_init_8 : decode cX4_init 8 = .ok (.putfield 9, 3) := by decide +kernel
theorem dX4_init_11 : decode cX4_init 11 = .ok (.aload_n 0, 1) := by decide +kernel
theorem dX4_init_12 : decode cX4_init 12 = .ok (.new 15, 3) := by decide +kernel
theorem dX4_init_15 : decode cX4_init 15 = .ok (.dup, 1) := by decide +kernel
theorem dX4_init_16 : decode cX4_init 16 = .ok (.invokespecial 17, 3) := by decide +kernel
theorem dX4_init_19 : decode cX4_init 19 = .ok (.putfield 20, 3) := by decide +kernel
theorem dX4_init_22 : decode cX4_init 22 = .ok (.aload_n 0, 1) := by decide +kernel
theorem dX4_init_23 : decode cX4_init 23 = .ok (.iload_n 2, 1) := by decide +kernel
theorem dX4_init_24 : decode cX4_init 24 = .ok (.putfield 24, 3) := by decide +kernel
theorem dX4_init_27 : decode cX4_init 27 = .ok (.return_, 1) := by decide +kernel
theorem dX4_perform_0 : decode cX4_perform 0 = .ok (.aload_n 2, 1) := by decide +kernel
theorem dX4_perform_1 : decode cX4_perform 1 = .ok (.getstatic 28, 3) := by decide +kernel
theorem dX4_perform_4 : decode cX4_perform 4 = .ok (.if_acmp .ne 11, 3) := by decide +kernel
theorem dX4_perform_7 : decode cX4_perform 7 = .ok (.aload_n 0, 1) := by decide +kernel
theorem dX4_perform_8 : decode cX4_perform 8 = .ok (.aload_n 1, 1) := by decide +kernel
theorem dX4_perform_9 : decode cX4_perform 9 = .ok (.invokevirtual 34, 3) := by decide +kernel
theorem dX4_perform_12 : decode cX4_perform 12 = .ok (.goto 155, 3) := by decide +kernel
theorem dX4_perform_15 : decode cX4_perform 15 = .ok (.aload_n 2, 1) := by decide +kernel
theorem dX4_perform_16 : decode cX4_perform 16 = .ok (.getstatic 38, 3) := by decide +kernel
theorem dX4_perform_19 : decode cX4_perform 19 = .ok (.if_acmp .ne 23, 3) := by decide +kernel
theorem dX4_perform_22 : decode cX4_perform 22 = .ok (.aload_n 1, 1) := by decide +kernel
theorem dX4_perform_23 : decode cX4_perform 23 = .ok (.aload_n 0, 1) := by decide +kernel
theorem dX4_perform_24 : decode cX4_perform 24 = .ok (.aload_n 1, 1) := by decide +kernel
theorem dX4_perform_25 : decode cX4_perform 25 = .ok (.invokevirtual 41, 3) := by decide +kernel
theorem dX4_perform_28 : decode cX4_perform 28 = .ok (.ifCond .eq 7, 3) := by decide +kernel
theorem dX4_perform_31 : decode cX4_perform 31 = .ok (.iconst 1, 1) := by decide +kernel
theorem dX4_perform_32 : decode cX4_perform 32 = .ok (.goto 4, 3) := by decide +kernel
theorem dX4_perform_35 : decode cX4_perform 35 = .ok (.iconst 0, 1) := by decide +kernel
theorem dX4_perform_36 : decode cX4_perform 36 = .ok (.invokevirtual 45, 3) := by decide +kernel
theorem dX4_perform_39 : decode cX4_perform 39 = .ok (.goto 128, 3) := by decide +kernel
theorem dX4_perform_42 : decode cX4_perform 42 = .ok (.aload_n 0, 1) := by decide +kernel
theorem dX4_perform_43 : decode cX4_perform 43 = .ok (.getfield 9, 3) := by decide +kernel
theorem dX4_perform_46 : decode cX4_perform 46 = .ok (.aload_n 1, 1) := by decide +kernel
theorem dX4_perform_47 : decode cX4_perform 47 = .ok (.getfield 51, 3) := by decide +kernel
theorem dX4_perform_50 : decode cX4_perform 50 = .ok (.if_icmp .eq 11, 3) := by decide +kernel
theorem dX4_perform_53 : decode cX4_perform 53 = .ok (.aload_n 1, 1) := by decide +kernel
theorem dX4_perform_54 : decode cX4_perform 54 = .ok (.iconst 1, 1) := by decide +kernel
theorem dX4_perform_55 : decode cX4_perform 55 = .ok (.invokevirtual 54, 3) := by decide +kernel
theorem dX4_perform_58 : decode cX4_perform 58 = .ok (.goto 109, 3) := by decide +kernel
theorem dX4_perform_61 : decode cX4_perform 61 = .ok (.aload_n 2, 1) := by decide +kernel
theorem dX4_perform_62 : decode cX4_perform 62 = .ok (.getstatic 57, 3) := by decide +kernel
theorem dX4_perform_65 : decode cX4_perform 65 = .ok (.if_acmp .ne 31, 3) := by decide +kernel
theorem dX4_perform_68 : decode cX4_perform 68 = .ok (.aload_n 1, 1) := by decide +kernel
theorem dX4_perform_69 : decode cX4_perform 69 = .ok (.invokevirtual 60, 3) := by decide +kernel
theorem dX4_perform_72 : decode cX4_perform 72 = .ok (.aload_n 0, 1) := by decide +kernel
theorem dX4_perform_73 : decode cX4_perform 73 = .ok (.dup, 1) := by decide +kernel
theorem dX4_perform_74 : decode cX4_perform 74 = .ok (.getfield 63, 3) := by decide +kernel
theorem dX4_perform_77 : decode cX4_perform 77 = .ok (.iconst 1, 1) := by decide +kernel
theorem dX4_perform_78 : decode cX4_perform 78 = .ok (.isub, 1) := by decide +kernel
theorem dX4_perform_79 : decode cX4_perform 79 = .ok (.putfield 63, 3) := by decide +kernel
theorem dX4_perform_82 : decode cX4_perform 82 = .ok (.aload_n 0, 1) := by decide +kernel
theorem dX4_perform_83 : decode cX4_perform 83 = .ok (.getfield 63, 3) := by decide +kernel
theorem dX4_perform_86 : decode cX4_perform 86 = .ok (.ifCond .ne 81, 3) := by decide +kernel
theorem dX4_perform_89 : decode cX4_perform 89 = .ok (.aload_n 0, 1) := by decide +kernel
theorem dX4_perform_90 : decode cX4_perform 90 = .ok (.invokevirtual 66, 3) := by decide +kernel
theorem dX4_perform_93 : decode cX4_perform 93 = .ok (.goto 74, 3) := by decide +kernel
theorem dX4_perform_96 : decode cX4_perform 96 = .ok (.aload_n 2, 1) := by decide +kernel
theorem dX4_perform_97 : decode cX4_perform 97 = .ok (.getstatic 69, 3) := by decide +kernel
theorem dX4_perform_100 : decode cX4_perform 100 = .ok (.if_acmp .eq 10, 3) := by decide +kernel
theorem dX4_perform_103 : decode cX4_perform 103 = .ok (.aload_n 2, 1) := by decide +kernel
theorem dX4_perform_104 : decode cX4_perform 104 = .ok (.getstatic 72, 3) := by decide +kernel
theorem dX4_perform_107 : decode cX4_perform 107 = .ok (.if_acmp .ne 32, 3) := by decide +kernel
theorem dX4_perform_110 : decode cX4_perform 110 = .ok (.aload_n 1, 1) := by decide +kernel
theorem dX4_perform_111 : decode cX4_perform 111 = .ok (.invokevirtual 60, 3) := by decide +kernel
theorem dX4_perform_114 : decode cX4_perform 114 = .ok (.aload_n 0, 1) := by decide +kernel
theorem dX4_perform_115 : decode cX4_perform 115 = .ok (.aload_n 2, 1) := by decide +kernel
theorem dX4_perform_116 : decode cX4_perform 116 = .ok (.getstatic 72, 3) := by decide +kernel
theorem dX4_perform_119 : decode cX4_perform 119 = .ok (.if_acmp .ne 13, 3) := by decide +kernel
theorem dX4_perform_122 : decode cX4_perform 122 = .ok (.aload_n 0, 1) := by decide +kernel
theorem dX4_perform_123 : decode cX4_perform 123 = .ok (.getfield 20, 3) := by decide +kernel
theorem dX4_perform_126 : decode cX4_perform 126 = .ok (.getfield 75, 3) := by decide +kernel
theorem dX4_perform_129 : decode cX4_perform 129 = .ok (.goto 4, 3) := by decide +kernel
theorem dX4_perform_132 : decode cX4_perform 132 = .ok (.iconst 1, 1) := by decide +kernel
theorem dX4_perform_133 : decode cX4_perform 133 = .ok (.invokevirtual 78, 3) := by decide +kernel
theorem dX4_perform_136 : decode cX4_perform 136 = .ok (.goto 31, 3) := by decide +kernel
theorem dX4_perform_139 : decode cX4_perform 139 = .ok (.aload_n 1, 1) := by decide +kernel
theorem dX4_perform_140 : decode cX4_perform 140 = .ok (.invokevirtual 81, 3) := by decide +kernel
theorem dX4_perform_143 : decode cX4_perform 143 = .ok (.ifCond .ne 24, 3) := by decide +kernel
theorem dX4_perform_146 : decode cX4_perform 146 = .ok (.aload_n 1, 1) := by decide +kernel
theorem dX4_perform_147 : decode cX4_perform 147 = .ok (.aload_n 0, 1) := by decide +kernel
theorem dX4_perform_148 : decode cX4_perform 148 = .ok (.getfield 63, 3) := by decide +kernel
theorem dX4_perform_151 : decode cX4_perform 151 = .ok (.putfield 85, 3) := by decide +kernel
theorem dX4_perform_154 : decode cX4_perform 154 = .ok (.aload_n 1, 1) := by decide +kernel
theorem dX4_perform_155 : decode cX4_perform 155 = .ok (.aload_n 0, 1) := by decide +kernel
theorem dX4_perform_156 : decode cX4_perform 156 = .ok (.getfield 20, 3) := by decide +kernel
theorem dX4_perform_159 : decode cX4_perform 159 = .ok (.aload_n 0, 1) := by decide +kernel
theorem dX4_perform_160 : decode cX4_perform 160 = .ok (.invokevirtual 88, 3) := by decide +kernel
theorem dX4_perform_163 : decode cX4_perform 163 = .ok (.aload_n 0, 1) := by decide +kernel
theorem dX4_perform_164 : decode cX4_perform 164 = .ok (.invokevirtual 66, 3) := by decide +kernel
theorem dX4_perform_167 : decode cX4_perform 167 = .ok (.return_, 1) := by decide +kernel
theorem dX4_grabOrStandIn_0 : decode cX4_grabOrStandIn 0 = .ok (.aload_n 0, 1) := by decide +kernel
theorem dX4_grabOrStandIn_1 : decode cX4_grabOrStandIn 1 = .ok (.aload_n 1, 1) := by decide +kernel
theorem dX4_grabOrStandIn_2 : decode cX4_grabOrStandIn 2 = .ok (.invokevirtual 41, 3) := by decide +kernel
theorem dX4_grabOrStandIn_5 : decode cX4_grabOrStandIn 5 = .ok (.ifCond .eq 10, 3) := by decide +kernel
theorem dX4_grabOrStandIn_8 : decode cX4_grabOrStandIn 8 = .ok (.aload_n 1, 1) := by decide +kernel
theorem dX4_grabOrStandIn_9 : decode cX4_grabOrStandIn 9 = .ok (.invokevirtual 60, 3) := by decide +kernel
theorem dX4_grabOrStandIn_12 : decode cX4_grabOrStandIn 12 = .ok (.goto 12, 3) := by decide +kernel
theorem dX4_grabOrStandIn_15 : decode cX4_grabOrStandIn 15 = .ok (.aload_n 1, 1) := by decide +kernel
theorem dX4_grabOrStandIn_16 : decode cX4_grabOrStandIn 16 = .ok (.aload_n 0, 1) := by decide +kernel
theorem dX4_grabOrStandIn_17 : decode cX4_grabOrStandIn 17 = .ok (.getfield 92, 3) := by decide +kernel
theorem dX4_grabOrStandIn_20 : decode cX4_grabOrStandIn 20 = .ok (.aload_n 0, 1) := by decide +kernel
theorem dX4_grabOrStandIn_21 : decode cX4_grabOrStandIn 21 = .ok (.invokevirtual 88, 3) := by decide +kernel
theorem dX4_grabOrStandIn_24 : decode cX4_grabOrStandIn 24 = .ok (.return_, 1) := by decide +kernel
theorem dX4_isGrabbed_0 : decode cX4_isGrabbed 0 = .ok (.aload_n 0, 1) := by decide +kernel
theorem dX4_isGrabbed_1 : decode cX4_isGrabbed 1 = .ok (.getfield 9, 3) := by decide +kernel
theorem dX4_isGrabbed_4 : decode cX4_isGrabbed 4 = .ok (.iconst (-1), 1) := by decide +kernel
theorem dX4_isGrabbed_5 : decode cX4_isGrabbed 5 = .ok (.if_icmp .eq 16, 3) := by decide +kernel
theorem dX4_isGrabbed_8 : decode cX4_isGrabbed 8 = .ok (.aload_n 0, 1) := by decide +kernel
theorem dX4_isGrabbed_9 : decode cX4_isGrabbed 9 = .ok (.getfield 9, 3) := by decide +kernel
theorem dX4_isGrabbed_12 : decode cX4_isGrabbed 12 = .ok (.aload_n 1, 1) := by decide +kernel
theorem dX4_isGrabbed_13 : decode cX4_isGrabbed 13 = .ok (.getfield 51, 3) := by decide +kernel
theorem dX4_isGrabbed_16 : decode cX4_isGrabbed 16 = .ok (.if_icmp .eq 5, 3) := by decide +kernel
theorem dX4_isGrabbed_19 : decode cX4_isGrabbed 19 = .ok (.iconst 0, 1) := by decide +kernel
theorem dX4_isGrabbed_20 : decode cX4_isGrabbed 20 = .ok (.ireturn, 1) := by decide +kernel
theorem dX4_isGrabbed_21 : decode cX4_isGrabbed 21 = .ok (.aload_n 0, 1) := by decide +kernel
theorem dX4_isGrabbed_22 : decode cX4_isGrabbed 22 = .ok (.aload_n 1, 1) := by decide +kernel
theorem dX4_isGrabbed_23 : decode cX4_isGrabbed 23 = .ok (.getfield 51, 3) := by decide +kernel
theorem dX4_isGrabbed_26 : decode cX4_isGrabbed 26 = .ok (.putfield 9, 3) := by decide +kernel
theorem dX4_isGrabbed_29 : decode cX4_isGrabbed 29 = .ok (.aload_n 0, 1) := by decide +kernel
theorem dX4_isGrabbed_30 : decode cX4_isGrabbed 30 = .ok (.dup, 1) := by decide +kernel
theorem dX4_isGrabbed_31 : decode cX4_isGrabbed 31 = .ok (.getfield 63, 3) := by decide +kernel
theorem dX4_isGrabbed_34 : decode cX4_isGrabbed 34 = .ok (.iconst 1, 1) := by decide +kernel
theorem dX4_isGrabbed_35 : decode cX4_isGrabbed 35 = .ok (.iadd, 1) := by decide +kernel
theorem dX4_isGrabbed_36 : decode cX4_isGrabbed 36 = .ok (.putfield 63, 3) := by decide +kernel
theorem dX4_isGrabbed_39 : decode cX4_isGrabbed 39 = .ok (.iconst 1, 1) := by decide +kernel
theorem dX4_isGrabbed_40 : decode cX4_isGrabbed 40 = .ok (.ireturn, 1) := by decide +kernel
theorem dX4_free_0 : decode cX4_free 0 = .ok (.aload_n 0, 1) := by decide +kernel
theorem dX4_free_1 : decode cX4_free 1 = .ok (.iconst (-1), 1) := by decide +kernel
theorem dX4_free_2 : decode cX4_free 2 = .ok (.putfield 9, 3) := by decide +kernel
theorem dX4_free_5 : decode cX4_free 5 = .ok (.aload_n 0, 1) := by decide +kernel
theorem dX4_free_6 : decode cX4_free 6 = .ok (.iconst 0, 1) := by decide +kernel
theorem dX4_free_7 : decode cX4_free 7 = .ok (.putfield 63, 3) := by decide +kernel
theorem dX4_free_10 : decode cX4_free 10 = .ok (.aload_n 0, 1) := by decide +kernel
theorem dX4_free_11 : decode cX4_free 11 = .ok (.getfield 92, 3) := by decide +kernel
theorem dX4_free_14 : decode cX4_free 14 = .ok (.invokevirtual 95, 3) := by decide +kernel
theorem dX4_free_17 : decode cX4_free 17 = .ok (.astore_n 1, 1) := by decide +kernel
theorem dX4_free_18 : decode cX4_free 18 = .ok (.aload_n 1, 1) := by decide +kernel
theorem dX4_free_19 : decode cX4_free 19 = .ok (.ifnonnull 4, 3) := by decide +kernel
theorem dX4_free_22 : decode cX4_free 22 = .ok (.return_, 1) := by decide +kernel
theorem dX4_free_23 : decode cX4_free 23 = .ok (.aload_n 0, 1) := by decide +kernel
theorem dX4_free_24 : decode cX4_free 24 = .ok (.getfield 24, 3) := by decide +kernel
theorem dX4_free_27 : decode cX4_free 27 = .ok (.ifCond .eq 11, 3) := by decide +kernel
theorem dX4_free_30 : decode cX4_free 30 = .ok (.aload_n 0, 1) := by decide +kernel
theorem dX4_free_31 : decode cX4_free 31 = .ok (.aload_n 1, 1) := by decide +kernel
theorem dX4_free_32 : decode cX4_free 32 = .ok (.invokevirtual 99, 3) := by decide +kernel
theorem dX4_free_35 : decode cX4_free 35 = .ok (.goto 8, 3) := by decide +kernel
theorem dX4_free_38 : decode cX4_free 38 = .ok (.aload_n 1, 1) := by decide +kernel
theorem dX4_free_39 : decode cX4_free 39 = .ok (.iconst 1, 1) := by decide +kernel
theorem dX4_free_40 : decode cX4_free 40 = .ok (.putfield 102, 3) := by decide +kernel
theorem dX4_free_43 : decode cX4_free 43 = .ok (.return_, 1) := by decide +kernel
theorem dX4_have_0 : decode cX4_have 0 = .ok (.aload_n 0, 1) := by decide +kernel
theorem dX4_have_1 : decode cX4_have 1 = .ok (.aload_n 1, 1) := by decide +kernel
theorem dX4_have_2 : decode cX4_have 2 = .ok (.getfield 51, 3) := by decide +kernel
theorem dX4_have_5 : decode cX4_have 5 = .ok (.putfield 9, 3) := by decide +kernel
theorem dX4_have_8 : decode cX4_have 8 = .ok (.aload_n 0, 1) := by decide +kernel
theorem dX4_have_9 : decode cX4_have 9 = .ok (.iconst 1, 1) := by decide +kernel
theorem dX4_have_10 : decode cX4_have 10 = .ok (.putfield 63, 3) := by decide +kernel
theorem dX4_have_13 : decode cX4_have 13 = .ok (.aload_n 1, 1) := by decide +kernel
theorem dX4_have_14 : decode cX4_have 14 = .ok (.getfield 85, 3) := by decide +kernel
theorem dX4_have_17 : decode cX4_have 17 = .ok (.ifCond .le 24, 3) := by decide +kernel
theorem dX4_have_20 : decode cX4_have 20 = .ok (.aload_n 0, 1) := by decide +kernel
theorem dX4_have_21 : decode cX4_have 21 = .ok (.aload_n 1, 1) := by decide +kernel
theorem dX4_have_22 : decode cX4_have 22 = .ok (.getfield 85, 3) := by decide +kernel
theorem dX4_have_25 : decode cX4_have 25 = .ok (.putfield 63, 3) := by decide +kernel
theorem dX4_have_28 : decode cX4_have 28 = .ok (.aload_n 1, 1) := by decide +kernel
theorem dX4_have_29 : decode cX4_have 29 = .ok (.aload_n 1, 1) := by decide +kernel
theorem dX4_have_30 : decode cX4_have 30 = .ok (.getfield 105, 3) := by decide +kernel
theorem dX4_have_33 : decode cX4_have 33 = .ok (.putfield 108, 3) := by decide +kernel
theorem dX4_have_36 : decode cX4_have 36 = .ok (.aload_n 1, 1) := by decide +kernel
theorem dX4_have_37 : decode cX4_have 37 = .ok (.iconst 0, 1) := by decide +kernel
theorem dX4_have_38 : decode cX4_have 38 = .ok (.putfield 85, 3) := by decide +kernel
theorem dX4_have_41 : decode cX4_have 41 = .ok (.aload_n 1, 1) := by decide +kernel
theorem dX4_have_42 : decode cX4_have 42 = .ok (.invokevirtual 60, 3) := by decide +kernel
theorem dX4_have_45 : decode cX4_have 45 = .ok (.return_, 1) := by decide +kernel
theorem dX4_tryAgain_0 : decode cX4_tryAgain 0 = .ok (.aload_n 0, 1) := by decide +kernel
theorem dX4_tryAgain_1 : decode cX4_tryAgain 1 = .ok (.getfield 9, 3) := by decide +kernel
theorem dX4_tryAgain_4 : decode cX4_tryAgain 4 = .ok (.iconst (-1), 1) := by decide +kernel
theorem dX4_tryAgain_5 : decode cX4_tryAgain 5 = .ok (.if_icmp .ne 11, 3) := by decide +kernel
theorem dX4_tryAgain_8 : decode cX4_tryAgain 8 = .ok (.aload_n 0, 1) := by decide +kernel
theorem dX4_tryAgain_9 : decode cX4_tryAgain 9 = .ok (.aload_n 1, 1) := by decide +kernel
theorem dX4_tryAgain_10 : decode cX4_tryAgain 10 = .ok (.invokevirtual 99, 3) := by decide +kernel
theorem dX4_tryAgain_13 : decode cX4_tryAgain 13 = .ok (.goto 8, 3) := by decide +kernel
theorem dX4_tryAgain_16 : decode cX4_tryAgain 16 = .ok (.aload_n 1, 1) := by decide +kernel
theorem dX4_tryAgain_17 : decode cX4_tryAgain 17 = .ok (.iconst 2, 1) := by decide +kernel
theorem dX4_tryAgain_18 : decode cX4_tryAgain 18 = .ok (.putfield 102, 3) := by decide +kernel
theorem dX4_tryAgain_21 : decode cX4_tryAgain 21 = .ok (.return_, 1) := by decide +kernel
theorem dX4_callUp_0 : decode cX4_callUp 0 = .ok (.iconst 0, 1) := by decide +kernel
theorem dX4_callUp_1 : decode cX4_callUp 1 = .ok (.istore_n 2, 1) := by decide +kernel
theorem dX4_callUp_2 : decode cX4_callUp 2 = .ok (.iload_n 2, 1) := by decide +kernel
theorem dX4_callUp_3 : decode cX4_callUp 3 = .ok (.iload_n 1, 1) := by decide +kernel
theorem dX4_callUp_4 : decode cX4_callUp 4 = .ok (.if_icmp .ge 28, 3) := by decide +kernel
theorem dX4_callUp_7 : decode cX4_callUp 7 = .ok (.aload_n 0, 1) := by decide +kernel
theorem dX4_callUp_8 : decode cX4_callUp 8 = .ok (.getfield 20, 3) := by decide +kernel
theorem dX4_callUp_11 : decode cX4_callUp 11 = .ok (.invokevirtual 95, 3) := by decide +kernel
theorem dX4_callUp_14 : decode cX4_callUp 14 = .ok (.astore_n 3, 1) := by decide +kernel
theorem dX4_callUp_15 : decode cX4_callUp 15 = .ok (.aload_n 3, 1) := by decide +kernel
theorem dX4_callUp_16 : decode cX4_callUp 16 = .ok (.ifnonnull 4, 3) := by decide +kernel
theorem dX4_callUp_19 : decode cX4_callUp 19 = .ok (.return_, 1) := by decide +kernel
theorem dX4_callUp_20 : decode cX4_callUp 20 = .ok (.aload_n 0, 1) := by decide +kernel
theorem dX4_callUp_21 : decode cX4_callUp 21 = .ok (.aload_n 3, 1) := by decide +kernel
theorem dX4_callUp_22 : decode cX4_callUp 22 = .ok (.iconst 1, 1) := by decide +kernel
theorem dX4_callUp_23 : decode cX4_callUp 23 = .ok (.invokevirtual 111, 3) := by decide +kernel
theorem dX4_callUp_26 : decode cX4_callUp 26 = .ok (.iinc 2 1, 3) := by decide +kernel
theorem dX4_callUp_29 : decode cX4_callUp 29 = .ok (.goto (-27), 3) := by decide +kernel
theorem dX4_callUp_32 : decode cX4_callUp 32 = .ok (.return_, 1) := by decide +kernel
theorem dX4_comeToFirst_0 : decode cX4_comeToFirst 0 = .ok (.aload_n 0, 1) := by decide +kernel
theorem dX4_comeToFirst_1 : decode cX4_comeToFirst 1 = .ok (.getfield 20, 3) := by decide +kernel
theorem dX4_comeToFirst_4 : decode cX4_comeToFirst 4 = .ok (.aload_n 1, 1) := by decide +kernel
theorem dX4_comeToFirst_5 : decode cX4_comeToFirst 5 = .ok (.invokevirtual 115, 3) := by decide +kernel
theorem dX4_comeToFirst_8 : decode cX4_comeToFirst 8 = .ok (.aload_n 1, 1) := by decide +kernel
theorem dX4_comeToFirst_9 : decode cX4_comeToFirst 9 = .ok (.iload_n 2, 1) := by decide +kernel
theorem dX4_comeToFirst_10 : decode cX4_comeToFirst 10 = .ok (.putfield 105, 3) := by decide +kernel
theorem dX4_comeToFirst_13 : decode cX4_comeToFirst 13 = .ok (.aload_n 1, 1) := by decide +kernel
theorem dX4_comeToFirst_14 : decode cX4_comeToFirst 14 = .ok (.aload_n 0, 1) := by decide +kernel
theorem dX4_comeToFirst_15 : decode cX4_comeToFirst 15 = .ok (.getfield 92, 3) := by decide +kernel
theorem dX4_comeToFirst_18 : decode cX4_comeToFirst 18 = .ok (.aload_n 0, 1) := by decide +kernel
theorem dX4_comeToFirst_19 : decode cX4_comeToFirst 19 = .ok (.invokevirtual 88, 3) := by decide +kernel
theorem dX4_comeToFirst_22 : decode cX4_comeToFirst 22 = .ok (.return_, 1) := by decide +kernel
theorem dX4_interruptWait_0 : decode cX4_interruptWait 0 = .ok (.aload_n 1, 1) := by decide +kernel
theorem dX4_interruptWait_1 : decode cX4_interruptWait 1 = .ok (.getfield 118, 3) := by decide +kernel
theorem dX4_interruptWait_4 : decode cX4_interruptWait 4 = .ok (.aload_n 0, 1) := by decide +kernel
theorem dX4_interruptWait_5 : decode cX4_interruptWait 5 = .ok (.getfield 20, 3) := by decide +kernel
theorem dX4_interruptWait_8 : decode cX4_interruptWait 8 = .ok (.if_acmp .eq 10, 3) := by decide +kernel
theorem dX4_interruptWait_11 : decode cX4_interruptWait 11 = .ok (.aload_n 1, 1) := by decide +kernel
theorem dX4_interruptWait_12 : decode cX4_interruptWait 12 = .ok (.bipush (-2), 2) := by decide +kernel
theorem dX4_interruptWait_14 : decode cX4_interruptWait 14 = .ok (.putfield 105, 3) := by decide +kernel
theorem dX4_interruptWait_17 : decode cX4_interruptWait 17 = .ok (.return_, 1) := by decide +kernel
theorem dX4_interruptWait_18 : decode cX4_interruptWait 18 = .ok (.aload_n 0, 1) := by decide +kernel
theorem dX4_interruptWait_19 : decode cX4_interruptWait 19 = .ok (.aload_n 1, 1) := by decide +kernel
theorem dX4_interruptWait_20 : decode cX4_interruptWait 20 = .ok (.bipush (-2), 2) := by decide +kernel
theorem dX4_interruptWait_22 : decode cX4_interruptWait 22 = .ok (.invokevirtual 111, 3) := by decide +kernel
theorem dX4_interruptWait_25 : decode cX4_interruptWait 25 = .ok (.aload_n 0, 1) := by decide +kernel
theorem dX4_interruptWait_26 : decode cX4_interruptWait 26 = .ok (.getfield 9, 3) := by decide +kernel
theorem dX4_interruptWait_29 : decode cX4_interruptWait 29 = .ok (.iconst (-1), 1) := by decide +kernel
theorem dX4_interruptWait_30 : decode cX4_interruptWait 30 = .ok (.if_icmp .ne 18, 3) := by decide +kernel
theorem dX4_interruptWait_33 : decode cX4_interruptWait 33 = .ok (.aload_n 0, 1) := by decide +kernel
theorem dX4_interruptWait_34 : decode cX4_interruptWait 34 = .ok (.getfield 92, 3) := by decide +kernel
theorem dX4_interruptWait_37 : decode cX4_interruptWait 37 = .ok (.getfield 75, 3) := by decide +kernel
theorem dX4_interruptWait_40 : decode cX4_interruptWait 40 = .ok (.iconst 1, 1) := by decide +kernel
theorem dX4_interruptWait_41 : decode cX4_interruptWait 41 = .ok (.if_icmp .ne 7, 3) := by decide +kernel
theorem dX4_interruptWait_44 : decode cX4_interruptWait 44 = .ok (.aload_n 0, 1) := by decide +kernel
theorem dX4_interruptWait_45 : decode cX4_interruptWait 45 = .ok (.invokevirtual 66, 3) := by decide +kernel
theorem dX4_interruptWait_48 : decode cX4_interruptWait 48 = .ok (.return_, 1) := by decide +kernel
theorem dX4_hasStrands_0 : decode cX4_hasStrands 0 = .ok (.aload_n 0, 1) := by decide +kernel
theorem dX4_hasStrands_1 : decode cX4_hasStrands 1 = .ok (.getfield 92, 3) := by decide +kernel
theorem dX4_hasStrands_4 : decode cX4_hasStrands 4 = .ok (.getfield 75, 3) := by decide +kernel
theorem dX4_hasStrands_7 : decode cX4_hasStrands 7 = .ok (.ifCond .gt 13, 3) := by decide +kernel
theorem dX4_hasStrands_10 : decode cX4_hasStrands 10 = .ok (.aload_n 0, 1) := by decide +kernel
theorem dX4_hasStrands_11 : decode cX4_hasStrands 11 = .ok (.getfield 20, 3) := by decide +kernel
theorem dX4_hasStrands_14 : decode cX4_hasStrands 14 = .ok (.getfield 75, 3) := by decide +kernel
theorem dX4_hasStrands_17 : decode cX4_hasStrands 17 = .ok (.ifCond .le 7, 3) := by decide +kernel
theorem dX4_hasStrands_20 : decode cX4_hasStrands 20 = .ok (.iconst 1, 1) := by decide +kernel
theorem dX4_hasStrands_21 : decode cX4_hasStrands 21 = .ok (.goto 4, 3) := by decide +kernel
theorem dX4_hasStrands_24 : decode cX4_hasStrands 24 = .ok (.iconst 0, 1) := by decide +kernel
theorem dX4_hasStrands_25 : decode cX4_hasStrands 25 = .ok (.ireturn, 1) := by decide +kernel
theorem dX4_value_0 : decode cX4_value 0 = .ok (.aload_n 0, 1) := by decide +kernel
theorem dX4_value_1 : decode cX4_value 1 = .ok (.getfield 63, 3) := by decide +kernel
theorem dX4_value_4 : decode cX4_value 4 = .ok (.i2l, 1) := by decide +kernel
theorem dX4_value_5 : decode cX4_value 5 = .ok (.lreturn, 1) := by decide +kernel
theorem dX4_tells_0 : decode cX4_tells 0 = .ok (.iload_n 1, 1) := by decide +kernel
theorem dX4_tells_1 : decode cX4_tells 1 = .ok (.iconst 3, 1) := by decide +kernel
theorem dX4_tells_2 : decode cX4_tells 2 = .ok (.if_icmp .gt 7, 3) := by decide +kernel
theorem dX4_tells_5 : decode cX4_tells 5 = .ok (.iconst 1, 1) := by decide +kernel
theorem dX4_tells_6 : decode cX4_tells 6 = .ok (.goto 4, 3) := by decide +kernel
theorem dX4_tells_9 : decode cX4_tells 9 = .ok (.iconst 0, 1) := by decide +kernel
theorem dX4_tells_10 : decode cX4_tells 10 = .ok (.ireturn, 1) := by decide +kernel
theorem dX4_detail_0 : decode cX4_detail 0 = .ok (.iload_n 1, 1) := by decide +kernel
theorem dX4_detail_1 : decode cX4_detail 1 = .ok (.iconst 2, 1) := by decide +kernel
theorem dX4_detail_2 : decode cX4_detail 2 = .ok (.if_icmp .ne 11, 3) := by decide +kernel
theorem dX4_detail_5 : decode cX4_detail 5 = .ok (.aload_n 0, 1) := by decide +kernel
theorem dX4_detail_6 : decode cX4_detail 6 = .ok (.getfield 9, 3) := by decide +kernel
theorem dX4_detail_9 : decode cX4_detail 9 = .ok (.i2l, 1) := by decide +kernel
theorem dX4_detail_10 : decode cX4_detail 10 = .ok (.goto 11, 3) := by decide +kernel
theorem dX4_detail_13 : decode cX4_detail 13 = .ok (.aload_n 0, 1) := by decide +kernel
theorem dX4_detail_14 : decode cX4_detail 14 = .ok (.getfield 20, 3) := by decide +kernel
theorem dX4_detail_17 : decode cX4_detail 17 = .ok (.getfield 75, 3) := by decide +kernel
theorem dX4_detail_20 : decode cX4_detail 20 = .ok (.i2l, 1) := by decide +kernel
theorem dX4_detail_21 : decode cX4_detail 21 = .ok (.lreturn, 1) := by decide +kernel
theorem dX5_init_0 : decode cX5_init 0 = .ok (.aload_n 0, 1) := by decide +kernel
theorem dX5_init_1 : decode cX5_init 1 = .ok (.iload_n 1, 1) := by decide +kernel
theorem dX5_init_2 : decode cX5_init 2 = .ok (.iconst 4, 1) := by decide +kernel
theorem dX5_init_3 : decode cX5_init 3 = .ok (.invokespecial 3, 3) := by decide +kernel
theorem dX5_init_6 : decode cX5_init 6 = .ok (.aload_n 0, 1) := by decide +kernel
theorem dX5_init_7 : decode cX5_init 7 = .ok (.iload_n 2, 1) := by decide +kernel
theorem dX5_init_8 : decode cX5_init 8 = .ok (.ifCond .le 7, 3) := by decide +kernel
theorem dX5_init_11 : decode cX5_init 11 = .ok (.iload_n 2, 1) := by decide +kernel
theorem dX5_init_12 : decode cX5_init 12 = .ok (.goto 4, 3) := by decide +kernel
theorem dX5_init_15 : decode cX5_init 15 = .ok (.iconst 1, 1) := by decide +kernel
theorem dX5_init_16 : decode cX5_init 16 = .ok (.newarray .int, 2) := by decide +kernel
theorem dX5_init_18 : decode cX5_init 18 = .ok (.putfield 9, 3) := by decide +kernel
theorem dX5_init_21 : decode cX5_init 21 = .ok (.return_, 1) := by decide +kernel
theorem dX5_perform_0 : decode cX5_perform 0 = .ok (.getstatic 15, 3) := by decide +kernel
theorem dX5_perform_3 : decode cX5_perform 3 = .ok (.aload_n 2, 1) := by decide +kernel
theorem dX5_perform_4 : decode cX5_perform 4 = .ok (.invokevirtual 20, 3) := by decide +kernel
theorem dX5_perform_7 : decode cX5_perform 7 = .ok (.iaload, 1) := by decide +kernel
theorem dX5_perform_8 : decode cX5_perform 8 = .ok (.tableswitch 103 12 14 #[28, 54, 77], 28) := by decide +kernel
theorem dX5_perform_36 : decode cX5_perform 36 = .ok (.aload_n 0, 1) := by decide +kernel
theorem dX5_perform_37 : decode cX5_perform 37 = .ok (.aload_n 1, 1) := by decide +kernel
theorem dX5_perform_38 : decode cX5_perform 38 = .ok (.getfield 26, 3) := by decide +kernel
theorem dX5_perform_41 : decode cX5_perform 41 = .ok (.invokevirtual 32, 3) := by decide +kernel
theorem dX5_perform_44 : decode cX5_perform 44 = .ok (.ifCond .eq 10, 3) := by decide +kernel
theorem dX5_perform_47 : decode cX5_perform 47 = .ok (.aload_n 1, 1) := by decide +kernel
theorem dX5_perform_48 : decode cX5_perform 48 = .ok (.invokevirtual 36, 3) := by decide +kernel
theorem dX5_perform_51 : decode cX5_perform 51 = .ok (.goto 79, 3) := by decide +kernel
theorem dX5_perform_54 : decode cX5_perform 54 = .ok (.aload_n 0, 1) := by decide +kernel
theorem dX5_perform_55 : decode cX5_perform 55 = .ok (.aload_n 1, 1) := by decide +kernel
theorem dX5_perform_56 : decode cX5_perform 56 = .ok (.invokevirtual 40, 3) := by decide +kernel
theorem dX5_perform_59 : decode cX5_perform 59 = .ok (.goto 71, 3) := by decide +kernel
theorem dX5_perform_62 : decode cX5_perform 62 = .ok (.aload_n 1, 1) := by decide +kernel
theorem dX5_perform_63 : decode cX5_perform 63 = .ok (.aload_n 0, 1) := by decide +kernel
theorem dX5_perform_64 : decode cX5_perform 64 = .ok (.aload_n 1, 1) := by decide +kernel
theorem dX5_perform_65 : decode cX5_perform 65 = .ok (.getfield 26, 3) := by decide +kernel
theorem dX5_perform_68 : decode cX5_perform 68 = .ok (.invokevirtual 32, 3) := by decide +kernel
theorem dX5_perform_71 : decode cX5_perform 71 = .ok (.ifCond .eq 7, 3) := by decide +kernel
theorem dX5_perform_74 : decode cX5_perform 74 = .ok (.iconst 1, 1) := by decide +kernel
theorem dX5_perform_75 : decode cX5_perform 75 = .ok (.goto 4, 3) := by decide +kernel
theorem dX5_perform_78 : decode cX5_perform 78 = .ok (.iconst 0, 1) := by decide +kernel
theorem dX5_perform_79 : decode cX5_perform 79 = .ok (.invokevirtual 44, 3) := by decide +kernel
theorem dX5_perform_82 : decode cX5_perform 82 = .ok (.goto 48, 3) := by decide +kernel
theorem dX5_perform_85 : decode cX5_perform 85 = .ok (.aload_n 0, 1) := by decide +kernel
theorem dX5_perform_86 : decode cX5_perform 86 = .ok (.getfield 48, 3) := by decide +kernel
theorem dX5_perform_89 : decode cX5_perform 89 = .ok (.ifCond .le 14, 3) := by decide +kernel
theorem dX5_perform_92 : decode cX5_perform 92 = .ok (.aload_n 1, 1) := by decide +kernel
theorem dX5_perform_93 : decode cX5_perform 93 = .ok (.aload_n 0, 1) := by decide +kernel
theorem dX5_perform_94 : decode cX5_perform 94 = .ok (.invokevirtual 51, 3) := by decide +kernel
theorem dX5_perform_97 : decode cX5_perform 97 = .ok (.invokevirtual 44, 3) := by decide +kernel
theorem dX5_perform_100 : decode cX5_perform 100 = .ok (.goto 30, 3) := by decide +kernel
theorem dX5_perform_103 : decode cX5_perform 103 = .ok (.aload_n 0, 1) := by decide +kernel
theorem dX5_perform_104 : decode cX5_perform 104 = .ok (.aload_n 1, 1) := by decide +kernel
theorem dX5_perform_105 : decode cX5_perform 105 = .ok (.invokevirtual 40, 3) := by decide +kernel
theorem dX5_perform_108 : decode cX5_perform 108 = .ok (.goto 22, 3) := by decide +kernel
theorem dX5_perform_111 : decode cX5_perform 111 = .ok (.aload_n 1, 1) := by decide +kernel
theorem dX5_perform_112 : decode cX5_perform 112 = .ok (.aload_n 0, 1) := by decide +kernel
theorem dX5_perform_113 : decode cX5_perform 113 = .ok (.getfield 48, 3) := by decide +kernel
theorem dX5_perform_116 : decode cX5_perform 116 = .ok (.ifCond .le 10, 3) := by decide +kernel
theorem dX5_perform_119 : decode cX5_perform 119 = .ok (.aload_n 0, 1) := by decide +kernel
theorem dX5_perform_120 : decode cX5_perform 120 = .ok (.invokevirtual 51, 3) := by decide +kernel
theorem dX5_perform_123 : decode cX5_perform 123 = .ok (.goto 4, 3) := by decide +kernel
theorem dX5_perform_126 : decode cX5_perform 126 = .ok (.iconst (-1), 1) := by decide +kernel
theorem dX5_perform_127 : decode cX5_perform 127 = .ok (.invokevirtual 44, 3) := by decide +kernel
theorem dX5_perform_130 : decode cX5_perform 130 = .ok (.return_, 1) := by decide +kernel
theorem dX5_isAccepted_0 : decode cX5_isAccepted 0 = .ok (.aload_n 0, 1) := by decide +kernel
theorem dX5_isAccepted_1 : decode cX5_isAccepted 1 = .ok (.getfield 48, 3) := by decide +kernel
theorem dX5_isAccepted_4 : decode cX5_isAccepted 4 = .ok (.ifCond .ne 13, 3) := by decide +kernel
theorem dX5_isAccepted_7 : decode cX5_isAccepted 7 = .ok (.aload_n 0, 1) := by decide +kernel
theorem dX5_isAccepted_8 : decode cX5_isAccepted 8 = .ok (.getfield 54, 3) := by decide +kernel
theorem dX5_isAccepted_11 : decode cX5_isAccepted 11 = .ok (.invokevirtual 58, 3) := by decide +kernel
theorem dX5_isAccepted_14 : decode cX5_isAccepted 14 = .ok (.goto 4, 3) := by decide +kernel
theorem dX5_isAccepted_17 : decode cX5_isAccepted 17 = .ok (.aconst_null, 1) := by decide +kernel
theorem dX5_isAccepted_18 : decode cX5_isAccepted 18 = .ok (.astore_n 2, 1) := by decide +kernel
theorem dX5_isAccepted_19 : decode cX5_isAccepted 19 = .ok (.aload_n 2, 1) := by decide +kernel
theorem dX5_isAccepted_20 : decode cX5_isAccepted 20 = .ok (.ifnull 10, 3) := by decide +kernel
theorem dX5_isAccepted_23 : decode cX5_isAccepted 23 = .ok (.aload_n 2, 1) := by decide +kernel
theorem dX5_isAccepted_24 : decode cX5_isAccepted 24 = .ok (.iload_n 1, 1) := by decide +kernel
theorem dX5_isAccepted_25 : decode cX5_isAccepted 25 = .ok (.invokevirtual 44, 3) := by decide +kernel
theorem dX5_isAccepted_28 : decode cX5_isAccepted 28 = .ok (.iconst 1, 1) := by decide +kernel
theorem dX5_isAccepted_29 : decode cX5_isAccepted 29 = .ok (.ireturn, 1) := by decide +kernel
theorem dX5_isAccepted_30 : decode cX5_isAccepted 30 = .ok (.aload_n 0, 1) := by decide +kernel
theorem dX5_isAccepted_31 : decode cX5_isAccepted 31 = .ok (.getfield 48, 3) := by decide +kernel
theorem dX5_isAccepted_34 : decode cX5_isAccepted 34 = .ok (.aload_n 0, 1) := by decide +kernel
theorem dX5_isAccepted_35 : decode cX5_isAccepted 35 = .ok (.getfield 9, 3) := by decide +kernel
theorem dX5_isAccepted_38 : decode cX5_isAccepted 38 = .ok (.arraylength, 1) := by decide +kernel
theorem dX5_isAccepted_39 : decode cX5_isAccepted 39 = .ok (.if_icmp .ne 5, 3) := by decide +kernel
theorem dX5_isAccepted_42 : decode cX5_isAccepted 42 = .ok (.iconst 0, 1) := by decide +kernel
theorem dX5_isAccepted_43 : decode cX5_isAccepted 43 = .ok (.ireturn, 1) := by decide +kernel
theorem dX5_isAccepted_44 : decode cX5_isAccepted 44 = .ok (.aload_n 0, 1) := by decide +kernel
theorem dX5_isAccepted_45 : decode cX5_isAccepted 45 = .ok (.iload_n 1, 1) := by decide +kernel
theorem dX5_isAccepted_46 : decode cX5_isAccepted 46 = .ok (.invokevirtual 64, 3) := by decide +kernel
theorem dX5_isAccepted_49 : decode cX5_isAccepted 49 = .ok (.iconst 1, 1) := by decide +kernel
theorem dX5_isAccepted_50 : decode cX5_isAccepted 50 = .ok (.ireturn, 1) := by decide +kernel
theorem dX5_takenOut_0 : decode cX5_takenOut 0 = .ok (.aload_n 0, 1) := by decide +kernel
theorem dX5_takenOut_1 : decode cX5_takenOut 1 = .ok (.getfield 67, 3) := by decide +kernel
theorem dX5_takenOut_4 : decode cX5_takenOut 4 = .ok (.aload_n 0, 1) := by decide +kernel
theorem dX5_takenOut_5 : decode cX5_takenOut 5 = .ok (.getfield 9, 3) := by decide +kernel
theorem dX5_takenOut_8 : decode cX5_takenOut 8 = .ok (.arraylength, 1) := by decide +kernel
theorem dX5_takenOut_9 : decode cX5_takenOut 9 = .ok (.if_icmp .ge 15, 3) := by decide +kernel
theorem dX5_takenOut_12 : decode cX5_takenOut 12 = .ok (.aload_n 0, 1) := by decide +kernel
theorem dX5_takenOut_13 : decode cX5_takenOut 13 = .ok (.getfield 9, 3) := by decide +kernel
theorem dX5_takenOut_16 : decode cX5_takenOut 16 = .ok (.aload_n 0, 1) := by decide +kernel
theorem dX5_takenOut_17 : decode cX5_takenOut 17 = .ok (.getfield 67, 3) := by decide +kernel
theorem dX5_takenOut_20 : decode cX5_takenOut 20 = .ok (.iaload, 1) := by decide +kernel
theorem dX5_takenOut_21 : decode cX5_takenOut 21 = .ok (.goto 4, 3) := by decide +kernel
theorem dX5_takenOut_24 : decode cX5_takenOut 24 = .ok (.iconst 0, 1) := by decide +kernel
theorem dX5_takenOut_25 : decode cX5_takenOut 25 = .ok (.istore_n 1, 1) := by decide +kernel
theorem dX5_takenOut_26 : decode cX5_takenOut 26 = .ok (.aload_n 0, 1) := by decide +kernel
theorem dX5_takenOut_27 : decode cX5_takenOut 27 = .ok (.aload_n 0, 1) := by decide +kernel
theorem dX5_takenOut_28 : decode cX5_takenOut 28 = .ok (.getfield 67, 3) := by decide +kernel
theorem dX5_takenOut_31 : decode cX5_takenOut 31 = .ok (.iconst 1, 1) := by decide +kernel
theorem dX5_takenOut_32 : decode cX5_takenOut 32 = .ok (.iadd, 1) := by decide +kernel
theorem dX5_takenOut_33 : decode cX5_takenOut 33 = .ok (.aload_n 0, 1) := by decide +kernel
theorem dX5_takenOut_34 : decode cX5_takenOut 34 = .ok (.getfield 9, 3) := by decide +kernel
theorem dX5_takenOut_37 : decode cX5_takenOut 37 = .ok (.arraylength, 1) := by decide +kernel
theorem dX5_takenOut_38 : decode cX5_takenOut 38 = .ok (.if_icmp .ge 12, 3) := by decide +kernel
theorem dX5_takenOut_41 : decode cX5_takenOut 41 = .ok (.aload_n 0, 1) := by decide +kernel
theorem dX5_takenOut_42 : decode cX5_takenOut 42 = .ok (.getfield 67, 3) := by decide +kernel
theorem dX5_takenOut_45 : decode cX5_takenOut 45 = .ok (.iconst 1, 1) := by decide +kernel
theorem dX5_takenOut_46 : decode cX5_takenOut 46 = .ok (.iadd, 1) := by decide +kernel
theorem dX5_takenOut_47 : decode cX5_takenOut 47 = .ok (.goto 4, 3) := by decide +kernel
theorem dX5_takenOut_50 : decode cX5_takenOut 50 = .ok (.iconst 0, 1) := by decide +kernel
theorem dX5_takenOut_51 : decode cX5_takenOut 51 = .ok (.putfield 67, 3) := by decide +kernel
theorem dX5_takenOut_54 : decode cX5_takenOut 54 = .ok (.aload_n 0, 1) := by decide +kernel
theorem dX5_takenOut_55 : decode cX5_takenOut 55 = .ok (.dup, 1) := by decide +kernel
theorem dX5_takenOut_56 : decode cX5_takenOut 56 = .ok (.getfield 48, 3) := by decide +kernel
theorem dX5_takenOut_59 : decode cX5_takenOut 59 = .ok (.iconst 1, 1) := by decide +kernel
theorem dX5_takenOut_60 : decode cX5_takenOut 60 = .ok (.isub, 1) := by decide +kernel
theorem dX5_takenOut_61 : decode cX5_takenOut 61 = .ok (.putfield 48, 3) := by decide +kernel
theorem dX5_takenOut_64 : decode cX5_takenOut 64 = .ok (.aload_n 0, 1) := by decide +kernel
theorem dX5_takenOut_65 : decode cX5_takenOut 65 = .ok (.getfield 54, 3) := by decide +kernel
theorem dX5_takenOut_68 : decode cX5_takenOut 68 = .ok (.invokevirtual 58, 3) := by decide +kernel
theorem dX5_takenOut_71 : decode cX5_takenOut 71 = .ok (.astore_n 2, 1) := by decide +kernel
theorem dX5_takenOut_72 : decode cX5_takenOut 72 = .ok (.aload_n 2, 1) := by decide +kernel
theorem dX5_takenOut_73 : decode cX5_takenOut 73 = .ok (.ifnull 15, 3) := by decide +kernel
theorem dX5_takenOut_76 : decode cX5_takenOut 76 = .ok (.aload_n 0, 1) := by decide +kernel
theorem dX5_takenOut_77 : decode cX5_takenOut 77 = .ok (.aload_n 2, 1) := by decide +kernel
theorem dX5_takenOut_78 : decode cX5_takenOut 78 = .ok (.getfield 26, 3) := by decide +kernel
theorem dX5_takenOut_81 : decode cX5_takenOut 81 = .ok (.invokevirtual 64, 3) := by decide +kernel
theorem dX5_takenOut_84 : decode cX5_takenOut 84 = .ok (.aload_n 2, 1) := by decide +kernel
theorem dX5_takenOut_85 : decode cX5_takenOut 85 = .ok (.invokevirtual 36, 3) := by decide +kernel
theorem dX5_takenOut_88 : decode cX5_takenOut 88 = .ok (.iload_n 1, 1) := by decide +kernel
theorem dX5_takenOut_89 : decode cX5_takenOut 89 = .ok (.ireturn, 1) := by decide +kernel
theorem dX5_append_0 : decode cX5_append 0 = .ok (.aload_n 0, 1) := by decide +kernel
theorem dX5_append_1 : decode cX5_append 1 = .ok (.getfield 67, 3) := by decide +kernel
theorem dX5_append_4 : decode cX5_append 4 = .ok (.aload_n 0, 1) := by decide +kernel
theorem dX5_append_5 : decode cX5_append 5 = .ok (.getfield 48, 3) := by decide +kernel
theorem dX5_append_8 : decode cX5_append 8 = .ok (.iadd, 1) := by decide +kernel
theorem dX5_append_9 : decode cX5_append 9 = .ok (.istore_n 2, 1) := by decide +kernel
theorem dX5_append_10 : decode cX5_append 10 = .ok (.iload_n 2, 1) := by decide +kernel
theorem dX5_append_11 : decode cX5_append 11 = .ok (.aload_n 0, 1) := by decide +kernel
theorem dX5_append_12 : decode cX5_append 12 = .ok (.getfield 9, 3) := by decide +kernel
theorem dX5_append_15 : decode cX5_append 15 = .ok (.arraylength, 1) := by decide +kernel
theorem dX5_append_16 : decode cX5_append 16 = .ok (.if_icmp .lt 11, 3) := by decide +kernel
theorem dX5_append_19 : decode cX5_append 19 = .ok (.iload_n 2, 1) := by decide +kernel
theorem dX5_append_20 : decode cX5_append 20 = .ok (.aload_n 0, 1) := by decide +kernel
theorem dX5_append_21 : decode cX5_append 21 = .ok (.getfield 9, 3) := by decide +kernel
theorem dX5_append_24 : decode cX5_append 24 = .ok (.arraylength, 1) := by decide +kernel
theorem dX5_append_25 : decode cX5_append 25 = .ok (.isub, 1) := by decide +kernel
theorem dX5_append_26 : decode cX5_append 26 = .ok (.istore_n 2, 1) := by decide +kernel
theorem dX5_append_27 : decode cX5_append 27 = .ok (.iload_n 2, 1) := by decide +kernel
theorem dX5_append_28 : decode cX5_append 28 = .ok (.ifCond .lt 29, 3) := by decide +kernel
theorem dX5_append_31 : decode cX5_append 31 = .ok (.iload_n 2, 1) := by decide +kernel
theorem dX5_append_32 : decode cX5_append 32 = .ok (.aload_n 0, 1) := by decide +kernel
theorem dX5_append_33 : decode cX5_append 33 = .ok (.getfield 9, 3) := by decide +kernel
theorem dX5_append_36 : decode cX5_append 36 = .ok (.arraylength, 1) := by decide +kernel
theorem dX5_append_37 : decode cX5_append 37 = .ok (.if_icmp .ge 20, 3) := by decide +kernel
theorem dX5_append_40 : decode cX5_append 40 = .ok (.aload_n 0, 1) := by decide +kernel
theorem dX5_append_41 : decode cX5_append 41 = .ok (.getfield 9, 3) := by decide +kernel
theorem dX5_append_44 : decode cX5_append 44 = .ok (.iload_n 2, 1) := by decide +kernel
theorem dX5_append_45 : decode cX5_append 45 = .ok (.iload_n 1, 1) := by decide +kernel
theorem dX5_append_46 : decode cX5_append 46 = .ok (.iastore, 1) := by decide +kernel
theorem dX5_append_47 : decode cX5_append 47 = .ok (.aload_n 0, 1) := by decide +kernel
theorem dX5_append_48 : decode cX5_append 48 = .ok (.dup, 1) := by decide +kernel
theorem dX5_append_49 : decode cX5_append 49 = .ok (.getfield 48, 3) := by decide +kernel
theorem dX5_append_52 : decode cX5_append 52 = .ok (.iconst 1, 1) := by decide +kernel
theorem dX5_append_53 : decode cX5_append 53 = .ok (.iadd, 1) := by decide +kernel
theorem dX5_append_54 : decode cX5_append 54 = .ok (.putfield 48, 3) := by decide +kernel
theorem dX5_append_57 : decode cX5_append 57 = .ok (.return_, 1) := by decide +kernel
theorem dX5_value_0 : decode cX5_value 0 = .ok (.aload_n 0, 1) := by decide +kernel
theorem dX5_value_1 : decode cX5_value 1 = .ok (.getfield 48, 3) := by decide +kernel
theorem dX5_value_4 : decode cX5_value 4 = .ok (.i2l, 1) := by decide +kernel
theorem dX5_value_5 : decode cX5_value 5 = .ok (.lreturn, 1) := by decide +kernel
theorem dX5_tells_0 : decode cX5_tells 0 = .ok (.iload_n 1, 1) := by decide +kernel
theorem dX5_tells_1 : decode cX5_tells 1 = .ok (.iconst 1, 1) := by decide +kernel
theorem dX5_tells_2 : decode cX5_tells 2 = .ok (.if_icmp .le 8, 3) := by decide +kernel
theorem dX5_tells_5 : decode cX5_tells 5 = .ok (.iload_n 1, 1) := by decide +kernel
theorem dX5_tells_6 : decode cX5_tells 6 = .ok (.iconst 4, 1) := by decide +kernel
theorem dX5_tells_7 : decode cX5_tells 7 = .ok (.if_icmp .ne 7, 3) := by decide +kernel
theorem dX5_tells_10 : decode cX5_tells 10 = .ok (.iconst 1, 1) := by decide +kernel
theorem dX5_tells_11 : decode cX5_tells 11 = .ok (.goto 4, 3) := by decide +kernel
theorem dX5_tells_14 : decode cX5_tells 14 = .ok (.iconst 0, 1) := by decide +kernel
theorem dX5_tells_15 : decode cX5_tells 15 = .ok (.ireturn, 1) := by decide +kernel
theorem dX5_detail_0 : decode cX5_detail 0 = .ok (.aload_n 0, 1) := by decide +kernel
theorem dX5_detail_1 : decode cX5_detail 1 = .ok (.getfield 9, 3) := by decide +kernel
theorem dX5_detail_4 : decode cX5_detail 4 = .ok (.arraylength, 1) := by decide +kernel
theorem dX5_detail_5 : decode cX5_detail 5 = .ok (.i2l, 1) := by decide +kernel
theorem dX5_detail_6 : decode cX5_detail 6 = .ok (.lreturn, 1) := by decide +kernel
theorem dX6_init_0 : decode cX6_init 0 = .ok (.aload_n 0, 1) := by decide +kernel
theorem dX6_init_1 : decode cX6_init 1 = .ok (.invokespecial 3, 3) := by decide +kernel
theorem dX6_init_4 : decode cX6_init 4 = .ok (.aload_n 0, 1) := by decide +kernel
theorem dX6_init_5 : decode cX6_init 5 = .ok (.bipush 8, 2) := by decide +kernel
theorem dX6_init_7 : decode cX6_init 7 = .ok (.anewarray 9, 3) := by decide +kernel
theorem dX6_init_10 : decode cX6_init 10 = .ok (.putfield 11, 3) := by decide +kernel
theorem dX6_init_13 : decode cX6_init 13 = .ok (.return_, 1) := by decide +kernel
theorem dX6_first_0 : decode cX6_first 0 = .ok (.aload_n 0, 1) := by decide +kernel
theorem dX6_first_1 : decode cX6_first 1 = .ok (.getfield 17, 3) := by decide +kernel
theorem dX6_first_4 : decode cX6_first 4 = .ok (.ifCond .le 12, 3) := by decide +kernel
theorem dX6_first_7 : decode cX6_first 7 = .ok (.aload_n 0, 1) := by decide +kernel
theorem dX6_first_8 : decode cX6_first 8 = .ok (.getfield 11, 3) := by decide +kernel
theorem dX6_first_11 : decode cX6_first 11 = .ok (.iconst 0, 1) := by decide +kernel
theorem dX6_first_12 : decode cX6_first 12 = .ok (.aaload, 1) := by decide +kernel
theorem dX6_first_13 : decode cX6_first 13 = .ok (.goto 4, 3) := by decide +kernel
theorem dX6_first_16 : decode cX6_first 16 = .ok (.aconst_null, 1) := by decide +kernel
theorem dX6_first_17 : decode cX6_first 17 = .ok (.areturn, 1) := by decide +kernel
theorem dX6_add_0 : decode cX6_add 0 = .ok (.aload_n 0, 1) := by decide +kernel
theorem dX6_add_1 : decode cX6_add 1 = .ok (.getfield 17, 3) := by decide +kernel
theorem dX6_add_4 : decode cX6_add 4 = .ok (.aload_n 0, 1) := by decide +kernel
theorem dX6_add_5 : decode cX6_add 5 = .ok (.getfield 11, 3) := by decide +kernel
theorem dX6_add_8 : decode cX6_add 8 = .ok (.arraylength, 1) := by decide +kernel
theorem dX6_add_9 : decode cX6_add 9 = .ok (.if_icmp .ge 23, 3) := by decide +kernel
theorem dX6_add_12 : decode cX6_add 12 = .ok (.aload_n 0, 1) := by decide +kernel
theorem dX6_add_13 : decode cX6_add 13 = .ok (.getfield 11, 3) := by decide +kernel
theorem dX6_add_16 : decode cX6_add 16 = .ok (.aload_n 0, 1) := by decide +kernel
theorem dX6_add_17 : decode cX6_add 17 = .ok (.getfield 17, 3) := by decide +kernel
theorem dX6_add_20 : decode cX6_add 20 = .ok (.aload_n 1, 1) := by decide +kernel
theorem dX6_add_21 : decode cX6_add 21 = .ok (.aastore, 1) := by decide +kernel
theorem dX6_add_22 : decode cX6_add 22 = .ok (.aload_n 0, 1) := by decide +kernel
theorem dX6_add_23 : decode cX6_add 23 = .ok (.dup, 1) := by decide +kernel
theorem dX6_add_24 : decode cX6_add 24 = .ok (.getfield 17, 3) := by decide +kernel
theorem dX6_add_27 : decode cX6_add 27 = .ok (.iconst 1, 1) := by decide +kernel
theorem dX6_add_28 : decode cX6_add 28 = .ok (.iadd, 1) := by decide +kernel
theorem dX6_add_29 : decode cX6_add 29 = .ok (.putfield 17, 3) := by decide +kernel
theorem dX6_add_32 : decode cX6_add 32 = .ok (.return_, 1) := by decide +kernel
theorem dX6_remove_0 : decode cX6_remove 0 = .ok (.iconst 0, 1) := by decide +kernel
theorem dX6_remove_1 : decode cX6_remove 1 = .ok (.istore_n 2, 1) := by decide +kernel
theorem dX6_remove_2 : decode cX6_remove 2 = .ok (.iconst 0, 1) := by decide +kernel
theorem dX6_remove_3 : decode cX6_remove 3 = .ok (.istore_n 3, 1) := by decide +kernel
theorem dX6_remove_4 : decode cX6_remove 4 = .ok (.iload_n 3, 1) := by decide +kernel
theorem dX6_remove_5 : decode cX6_remove 5 = .ok (.aload_n 0, 1) := by decide +kernel
theorem dX6_remove_6 : decode cX6_remove 6 = .ok (.getfield 17, 3) := by decide +kernel
theorem dX6_remove_9 : decode cX6_remove 9 = .ok (.if_icmp .ge 43, 3) := by decide +kernel
theorem dX6_remove_12 : decode cX6_remove 12 = .ok (.iload_n 3, 1) := by decide +kernel
theorem dX6_remove_13 : decode cX6_remove 13 = .ok (.aload_n 0, 1) := by decide +kernel
theorem dX6_remove_14 : decode cX6_remove 14 = .ok (.getfield 11, 3) := by decide +kernel
theorem dX6_remove_17 : decode cX6_remove 17 = .ok (.arraylength, 1) := by decide +kernel
theorem dX6_remove_18 : decode cX6_remove 18 = .ok (.if_icmp .ge 34, 3) := by decide +kernel
theorem dX6_remove_21 : decode cX6_remove 21 = .ok (.aload_n 0, 1) := by decide +kernel
theorem dX6_remove_22 : decode cX6_remove 22 = .ok (.getfield 11, 3) := by decide +kernel
theorem dX6_remove_25 : decode cX6_remove 25 = .ok (.iload_n 3, 1) := by decide +kernel
theorem dX6_remove_26 : decode cX6_remove 26 = .ok (.aaload, 1) := by decide +kernel
theorem dX6_remove_27 : decode cX6_remove 27 = .ok (.aload_n 1, 1) := by decide +kernel
theorem dX6_remove_28 : decode cX6_remove 28 = .ok (.if_acmp .eq 18, 3) := by decide +kernel
theorem dX6_remove_31 : decode cX6_remove 31 = .ok (.aload_n 0, 1) := by decide +kernel
theorem dX6_remove_32 : decode cX6_remove 32 = .ok (.getfield 11, 3) := by decide +kernel
theorem dX6_remove_35 : decode cX6_remove 35 = .ok (.iload_n 2, 1) := by decide +kernel
theorem dX6_remove_36 : decode cX6_remove 36 = .ok (.aload_n 0, 1) := by decide +kernel
theorem dX6_remove_37 : decode cX6_remove 37 = .ok (.getfield 11, 3) := by decide +kernel
end
section
theorem dX6_remove_40 : decode cX6_remove 40 = .ok (.iload_n 3, 1) := by decide +kernel
theorem dX6_remove_41 : decode cX6_remove 41 = .ok (.aaload, 1) := by decide +kernel
theorem dX6_remove_42 : decode cX6_remove 42 = .ok (.aastore, 1) := by decide +kernel
theorem dX6_remove_43 : decode cX6_remove 43 = .ok (.iinc 2 1, 3) := by decide +kernel
theorem dX6_remove_46 : decode cX6_remove 46 = .ok (.iinc 3 1, 3) := by decide +kernel
theorem dX6_remove_49 : decode cX6_remove 49 = .ok (.goto (-45), 3) := by decide +kernel
theorem dX6_remove_52 : decode cX6_remove 52 = .ok (.aload_n 0, 1) := by decide +kernel
theorem dX6_remove_53 : decode cX6_remove 53 = .ok (.iload_n 2, 1) := by decide +kernel
theorem dX6_remove_54 : decode cX6_remove 54 = .ok (.putfield 17, 3) := by decide +kernel
theorem dX6_remove_57 : decode cX6_remove 57 = .ok (.return_, 1) := by decide +kernel
theorem dX7_init_0 : decode cX7_init 0 = .ok (.aload_n 0, 1) := by decide +kernel
theorem dX7_init_1 : decode cX7_init 1 = .ok (.iload_n 1, 1) := by decide +kernel
theorem dX7_init_2 : decode cX7_init 2 = .ok (.iconst 1, 1) := by decide +kernel
theorem dX7_init_3 : decode cX7_init 3 = .ok (.invokespecial 3, 3) := by decide +kernel
theorem dX7_init_6 : decode cX7_init 6 = .ok (.aload_n 0, 1) := by decide +kernel
theorem dX7_init_7 : decode cX7_init 7 = .ok (.iload_n 2, 1) := by decide +kernel
theorem dX7_init_8 : decode cX7_init 8 = .ok (.putfield 9, 3) := by decide +kernel
theorem dX7_init_11 : decode cX7_init 11 = .ok (.return_, 1) := by decide +kernel
theorem dX7_perform_0 : decode cX7_perform 0 = .ok (.getstatic 15, 3) := by decide +kernel
theorem dX7_perform_3 : decode cX7_perform 3 = .ok (.aload_n 2, 1) := by decide +kernel
theorem dX7_perform_4 : decode cX7_perform 4 = .ok (.invokevirtual 21, 3) := by decide +kernel
theorem dX7_perform_7 : decode cX7_perform 7 = .ok (.iaload, 1) := by decide +kernel
theorem dX7_perform_8 : decode cX7_perform 8 = .ok (.lookupswitch 104 #[(8, 28), (9, 79)], 28) := by decide +kernel
theorem dX7_perform_36 : decode cX7_perform 36 = .ok (.aload_n 0, 1) := by decide +kernel
theorem dX7_perform_37 : decode cX7_perform 37 = .ok (.getfield 27, 3) := by decide +kernel
theorem dX7_perform_40 : decode cX7_perform 40 = .ok (.getfield 31, 3) := by decide +kernel
theorem dX7_perform_43 : decode cX7_perform 43 = .ok (.ifCond .ne 36, 3) := by decide +kernel
theorem dX7_perform_46 : decode cX7_perform 46 = .ok (.aload_n 0, 1) := by decide +kernel
theorem dX7_perform_47 : decode cX7_perform 47 = .ok (.getfield 9, 3) := by decide +kernel
theorem dX7_perform_50 : decode cX7_perform 50 = .ok (.aload_n 1, 1) := by decide +kernel
theorem dX7_perform_51 : decode cX7_perform 51 = .ok (.iconst 1, 1) := by decide +kernel
theorem dX7_perform_52 : decode cX7_perform 52 = .ok (.invokevirtual 36, 3) := by decide +kernel
theorem dX7_perform_55 : decode cX7_perform 55 = .ok (.if_icmp .lt 24, 3) := by decide +kernel
theorem dX7_perform_58 : decode cX7_perform 58 = .ok (.aload_n 0, 1) := by decide +kernel
theorem dX7_perform_59 : decode cX7_perform 59 = .ok (.dup, 1) := by decide +kernel
theorem dX7_perform_60 : decode cX7_perform 60 = .ok (.getfield 9, 3) := by decide +kernel
theorem dX7_perform_63 : decode cX7_perform 63 = .ok (.aload_n 1, 1) := by decide +kernel
theorem dX7_perform_64 : decode cX7_perform 64 = .ok (.iconst 1, 1) := by decide +kernel
theorem dX7_perform_65 : decode cX7_perform 65 = .ok (.invokevirtual 36, 3) := by decide +kernel
theorem dX7_perform_68 : decode cX7_perform 68 = .ok (.isub, 1) := by decide +kernel
theorem dX7_perform_69 : decode cX7_perform 69 = .ok (.putfield 9, 3) := by decide +kernel
theorem dX7_perform_72 : decode cX7_perform 72 = .ok (.aload_n 1, 1) := by decide +kernel
theorem dX7_perform_73 : decode cX7_perform 73 = .ok (.invokevirtual 42, 3) := by decide +kernel
theorem dX7_perform_76 : decode cX7_perform 76 = .ok (.goto 67, 3) := by decide +kernel
theorem dX7_perform_79 : decode cX7_perform 79 = .ok (.aload_n 0, 1) := by decide +kernel
theorem dX7_perform_80 : decode cX7_perform 80 = .ok (.aload_n 1, 1) := by decide +kernel
theorem dX7_perform_81 : decode cX7_perform 81 = .ok (.invokevirtual 46, 3) := by decide +kernel
theorem dX7_perform_84 : decode cX7_perform 84 = .ok (.goto 59, 3) := by decide +kernel
theorem dX7_perform_87 : decode cX7_perform 87 = .ok (.aload_n 0, 1) := by decide +kernel
theorem dX7_perform_88 : decode cX7_perform 88 = .ok (.dup, 1) := by decide +kernel
theorem dX7_perform_89 : decode cX7_perform 89 = .ok (.getfield 9, 3) := by decide +kernel
theorem dX7_perform_92 : decode cX7_perform 92 = .ok (.aload_n 1, 1) := by decide +kernel
theorem dX7_perform_93 : decode cX7_perform 93 = .ok (.iconst 1, 1) := by decide +kernel
theorem dX7_perform_94 : decode cX7_perform 94 = .ok (.invokevirtual 36, 3) := by decide +kernel
theorem dX7_perform_97 : decode cX7_perform 97 = .ok (.iadd, 1) := by decide +kernel
theorem dX7_perform_98 : decode cX7_perform 98 = .ok (.putfield 9, 3) := by decide +kernel
theorem dX7_perform_101 : decode cX7_perform 101 = .ok (.aload_n 1, 1) := by decide +kernel
theorem dX7_perform_102 : decode cX7_perform 102 = .ok (.invokevirtual 42, 3) := by decide +kernel
theorem dX7_perform_105 : decode cX7_perform 105 = .ok (.aload_n 0, 1) := by decide +kernel
theorem dX7_perform_106 : decode cX7_perform 106 = .ok (.invokevirtual 50, 3) := by decide +kernel
theorem dX7_perform_109 : decode cX7_perform 109 = .ok (.goto 34, 3) := by decide +kernel
theorem dX7_perform_112 : decode cX7_perform 112 = .ok (.aload_n 0, 1) := by decide +kernel
theorem dX7_perform_113 : decode cX7_perform 113 = .ok (.getfield 9, 3) := by decide +kernel
theorem dX7_perform_116 : decode cX7_perform 116 = .ok (.ifCond .le 10, 3) := by decide +kernel
theorem dX7_perform_119 : decode cX7_perform 119 = .ok (.aload_n 0, 1) := by decide +kernel
theorem dX7_perform_120 : decode cX7_perform 120 = .ok (.getfield 9, 3) := by decide +kernel
theorem dX7_perform_123 : decode cX7_perform 123 = .ok (.goto 4, 3) := by decide +kernel
theorem dX7_perform_126 : decode cX7_perform 126 = .ok (.iconst 0, 1) := by decide +kernel
theorem dX7_perform_127 : decode cX7_perform 127 = .ok (.istore_n 3, 1) := by decide +kernel
theorem dX7_perform_128 : decode cX7_perform 128 = .ok (.aload_n 0, 1) := by decide +kernel
theorem dX7_perform_129 : decode cX7_perform 129 = .ok (.dup, 1) := by decide +kernel
theorem dX7_perform_130 : decode cX7_perform 130 = .ok (.getfield 9, 3) := by decide +kernel
theorem dX7_perform_133 : decode cX7_perform 133 = .ok (.iload_n 3, 1) := by decide +kernel
theorem dX7_perform_134 : decode cX7_perform 134 = .ok (.isub, 1) := by decide +kernel
theorem dX7_perform_135 : decode cX7_perform 135 = .ok (.putfield 9, 3) := by decide +kernel
theorem dX7_perform_138 : decode cX7_perform 138 = .ok (.aload_n 1, 1) := by decide +kernel
theorem dX7_perform_139 : decode cX7_perform 139 = .ok (.iload_n 3, 1) := by decide +kernel
theorem dX7_perform_140 : decode cX7_perform 140 = .ok (.invokevirtual 53, 3) := by decide +kernel
theorem dX7_perform_143 : decode cX7_perform 143 = .ok (.return_, 1) := by decide +kernel
theorem dX7_handOut_0 : decode cX7_handOut 0 = .ok (.iconst 0, 1) := by decide +kernel
theorem dX7_handOut_1 : decode cX7_handOut 1 = .ok (.istore_n 1, 1) := by decide +kernel
theorem dX7_handOut_2 : decode cX7_handOut 2 = .ok (.iload_n 1, 1) := by decide +kernel
theorem dX7_handOut_3 : decode cX7_handOut 3 = .ok (.bipush 8, 2) := by decide +kernel
theorem dX7_handOut_5 : decode cX7_handOut 5 = .ok (.if_icmp .ge 52, 3) := by decide +kernel
theorem dX7_handOut_8 : decode cX7_handOut 8 = .ok (.aload_n 0, 1) := by decide +kernel
theorem dX7_handOut_9 : decode cX7_handOut 9 = .ok (.getfield 27, 3) := by decide +kernel
theorem dX7_handOut_12 : decode cX7_handOut 12 = .ok (.invokevirtual 57, 3) := by decide +kernel
theorem dX7_handOut_15 : decode cX7_handOut 15 = .ok (.astore_n 2, 1) := by decide +kernel
theorem dX7_handOut_16 : decode cX7_handOut 16 = .ok (.aload_n 2, 1) := by decide +kernel
theorem dX7_handOut_17 : decode cX7_handOut 17 = .ok (.ifnull 15, 3) := by decide +kernel
theorem dX7_handOut_20 : decode cX7_handOut 20 = .ok (.aload_n 0, 1) := by decide +kernel
theorem dX7_handOut_21 : decode cX7_handOut 21 = .ok (.getfield 9, 3) := by decide +kernel
theorem dX7_handOut_24 : decode cX7_handOut 24 = .ok (.aload_n 2, 1) := by decide +kernel
theorem dX7_handOut_25 : decode cX7_handOut 25 = .ok (.iconst 1, 1) := by decide +kernel
theorem dX7_handOut_26 : decode cX7_handOut 26 = .ok (.invokevirtual 36, 3) := by decide +kernel
theorem dX7_handOut_29 : decode cX7_handOut 29 = .ok (.if_icmp .ge 4, 3) := by decide +kernel
theorem dX7_handOut_32 : decode cX7_handOut 32 = .ok (.return_, 1) := by decide +kernel
theorem dX7_handOut_33 : decode cX7_handOut 33 = .ok (.aload_n 0, 1) := by decide +kernel
theorem dX7_handOut_34 : decode cX7_handOut 34 = .ok (.dup, 1) := by decide +kernel
theorem dX7_handOut_35 : decode cX7_handOut 35 = .ok (.getfield 9, 3) := by decide +kernel
theorem dX7_handOut_38 : decode cX7_handOut 38 = .ok (.aload_n 2, 1) := by decide +kernel
theorem dX7_handOut_39 : decode cX7_handOut 39 = .ok (.iconst 1, 1) := by decide +kernel
theorem dX7_handOut_40 : decode cX7_handOut 40 = .ok (.invokevirtual 36, 3) := by decide +kernel
theorem dX7_handOut_43 : decode cX7_handOut 43 = .ok (.isub, 1) := by decide +kernel
theorem dX7_handOut_44 : decode cX7_handOut 44 = .ok (.putfield 9, 3) := by decide +kernel
theorem dX7_handOut_47 : decode cX7_handOut 47 = .ok (.aload_n 2, 1) := by decide +kernel
theorem dX7_handOut_48 : decode cX7_handOut 48 = .ok (.invokevirtual 42, 3) := by decide +kernel
theorem dX7_handOut_51 : decode cX7_handOut 51 = .ok (.iinc 1 1, 3) := by decide +kernel
theorem dX7_handOut_54 : decode cX7_handOut 54 = .ok (.goto (-52), 3) := by decide +kernel
theorem dX7_handOut_57 : decode cX7_handOut 57 = .ok (.return_, 1) := by decide +kernel
theorem dX7_value_0 : decode cX7_value 0 = .ok (.aload_n 0, 1) := by decide +kernel
theorem dX7_value_1 : decode cX7_value 1 = .ok (.getfield 9, 3) := by decide +kernel
theorem dX7_value_4 : decode cX7_value 4 = .ok (.i2l, 1) := by decide +kernel
theorem dX7_value_5 : decode cX7_value 5 = .ok (.lreturn, 1) := by decide +kernel
theorem dX8_init_0 : decode cX8_init 0 = .ok (.aload_n 0, 1) := by decide +kernel
theorem dX8_init_1 : decode cX8_init 1 = .ok (.invokespecial 3, 3) := by decide +kernel
theorem dX8_init_4 : decode cX8_init 4 = .ok (.aload_n 0, 1) := by decide +kernel
theorem dX8_init_5 : decode cX8_init 5 = .ok (.sipush 240, 3) := by decide +kernel
theorem dX8_init_8 : decode cX8_init 8 = .ok (.newarray .int, 2) := by decide +kernel
theorem dX8_init_10 : decode cX8_init 10 = .ok (.putfield 9, 3) := by decide +kernel
theorem dX8_init_13 : decode cX8_init 13 = .ok (.aload_n 0, 1) := by decide +kernel
theorem dX8_init_14 : decode cX8_init 14 = .ok (.iload_n 1, 1) := by decide +kernel
theorem dX8_init_15 : decode cX8_init 15 = .ok (.putfield 15, 3) := by decide +kernel
theorem dX8_init_18 : decode cX8_init 18 = .ok (.return_, 1) := by decide +kernel
theorem dX8_isVacant_0 : decode cX8_isVacant 0 = .ok (.aload_n 0, 1) := by decide +kernel
theorem dX8_isVacant_1 : decode cX8_isVacant 1 = .ok (.getfield 19, 3) := by decide +kernel
theorem dX8_isVacant_4 : decode cX8_isVacant 4 = .ok (.ifCond .eq 19, 3) := by decide +kernel
theorem dX8_isVacant_7 : decode cX8_isVacant 7 = .ok (.aload_n 0, 1) := by decide +kernel
theorem dX8_isVacant_8 : decode cX8_isVacant 8 = .ok (.getfield 19, 3) := by decide +kernel
theorem dX8_isVacant_11 : decode cX8_isVacant 11 = .ok (.iconst 4, 1) := by decide +kernel
theorem dX8_isVacant_12 : decode cX8_isVacant 12 = .ok (.if_icmp .eq 11, 3) := by decide +kernel
theorem dX8_isVacant_15 : decode cX8_isVacant 15 = .ok (.aload_n 0, 1) := by decide +kernel
theorem dX8_isVacant_16 : decode cX8_isVacant 16 = .ok (.getfield 19, 3) := by decide +kernel
theorem dX8_isVacant_19 : decode cX8_isVacant 19 = .ok (.iconst 5, 1) := by decide +kernel
theorem dX8_isVacant_20 : decode cX8_isVacant 20 = .ok (.if_icmp .ne 7, 3) := by decide +kernel
theorem dX8_isVacant_23 : decode cX8_isVacant 23 = .ok (.iconst 1, 1) := by decide +kernel
theorem dX8_isVacant_24 : decode cX8_isVacant 24 = .ok (.goto 4, 3) := by decide +kernel
theorem dX8_isVacant_27 : decode cX8_isVacant 27 = .ok (.iconst 0, 1) := by decide +kernel
theorem dX8_isVacant_28 : decode cX8_isVacant 28 = .ok (.ireturn, 1) := by decide +kernel
theorem dX8_start_0 : decode cX8_start 0 = .ok (.iconst 0, 1) := by decide +kernel
theorem dX8_start_1 : decode cX8_start 1 = .ok (.istore_n 3, 1) := by decide +kernel
theorem dX8_start_2 : decode cX8_start 2 = .ok (.iload_n 3, 1) := by decide +kernel
theorem dX8_start_3 : decode cX8_start 3 = .ok (.aload_n 0, 1) := by decide +kernel
theorem dX8_start_4 : decode cX8_start 4 = .ok (.getfield 9, 3) := by decide +kernel
theorem dX8_start_7 : decode cX8_start 7 = .ok (.arraylength, 1) := by decide +kernel
theorem dX8_start_8 : decode cX8_start 8 = .ok (.if_icmp .ge 24, 3) := by decide +kernel
theorem dX8_start_11 : decode cX8_start 11 = .ok (.iload_n 3, 1) := by decide +kernel
theorem dX8_start_12 : decode cX8_start 12 = .ok (.aload_n 1, 1) := by decide +kernel
theorem dX8_start_13 : decode cX8_start 13 = .ok (.arraylength, 1) := by decide +kernel
theorem dX8_start_14 : decode cX8_start 14 = .ok (.if_icmp .ge 18, 3) := by decide +kernel
theorem dX8_start_17 : decode cX8_start 17 = .ok (.aload_n 0, 1) := by decide +kernel
theorem dX8_start_18 : decode cX8_start 18 = .ok (.getfield 9, 3) := by decide +kernel
theorem dX8_start_21 : decode cX8_start 21 = .ok (.iload_n 3, 1) := by decide +kernel
theorem dX8_start_22 : decode cX8_start 22 = .ok (.aload_n 1, 1) := by decide +kernel
theorem dX8_start_23 : decode cX8_start 23 = .ok (.iload_n 3, 1) := by decide +kernel
theorem dX8_start_24 : decode cX8_start 24 = .ok (.iaload, 1) := by decide +kernel
theorem dX8_start_25 : decode cX8_start 25 = .ok (.iastore, 1) := by decide +kernel
theorem dX8_start_26 : decode cX8_start 26 = .ok (.iinc 3 1, 3) := by decide +kernel
theorem dX8_start_29 : decode cX8_start 29 = .ok (.goto (-27), 3) := by decide +kernel
theorem dX8_start_32 : decode cX8_start 32 = .ok (.aload_n 0, 1) := by decide +kernel
theorem dX8_start_33 : decode cX8_start 33 = .ok (.iload_n 2, 1) := by decide +kernel
theorem dX8_start_34 : decode cX8_start 34 = .ok (.putfield 22, 3) := by decide +kernel
theorem dX8_start_37 : decode cX8_start 37 = .ok (.aload_n 0, 1) := by decide +kernel
theorem dX8_start_38 : decode cX8_start 38 = .ok (.iconst 1, 1) := by decide +kernel
theorem dX8_start_39 : decode cX8_start 39 = .ok (.putfield 19, 3) := by decide +kernel
theorem dX8_start_42 : decode cX8_start 42 = .ok (.aload_n 0, 1) := by decide +kernel
theorem dX8_start_43 : decode cX8_start 43 = .ok (.iconst 0, 1) := by decide +kernel
theorem dX8_start_44 : decode cX8_start 44 = .ok (.putfield 25, 3) := by decide +kernel
theorem dX8_start_47 : decode cX8_start 47 = .ok (.aload_n 0, 1) := by decide +kernel
theorem dX8_start_48 : decode cX8_start 48 = .ok (.iconst 0, 1) := by decide +kernel
theorem dX8_start_49 : decode cX8_start 49 = .ok (.putfield 28, 3) := by decide +kernel
theorem dX8_start_52 : decode cX8_start 52 = .ok (.aload_n 0, 1) := by decide +kernel
theorem dX8_start_53 : decode cX8_start 53 = .ok (.iconst 0, 1) := by decide +kernel
theorem dX8_start_54 : decode cX8_start 54 = .ok (.putfield 31, 3) := by decide +kernel
theorem dX8_start_57 : decode cX8_start 57 = .ok (.aload_n 0, 1) := by decide +kernel
theorem dX8_start_58 : decode cX8_start 58 = .ok (.iconst 0, 1) := by decide +kernel
theorem dX8_start_59 : decode cX8_start 59 = .ok (.putfield 34, 3) := by decide +kernel
theorem dX8_start_62 : decode cX8_start 62 = .ok (.return_, 1) := by decide +kernel
theorem dX8_word_0 : decode cX8_word 0 = .ok (.aload_n 0, 1) := by decide +kernel
theorem dX8_word_1 : decode cX8_word 1 = .ok (.iconst 0, 1) := by decide +kernel
theorem dX8_word_2 : decode cX8_word 2 = .ok (.invokevirtual 38, 3) := by decide +kernel
theorem dX8_word_5 : decode cX8_word 5 = .ok (.istore_n 1, 1) := by decide +kernel
theorem dX8_word_6 : decode cX8_word 6 = .ok (.iload_n 1, 1) := by decide +kernel
theorem dX8_word_7 : decode cX8_word 7 = .ok (.ifCond .lt 19, 3) := by decide +kernel
theorem dX8_word_10 : decode cX8_word 10 = .ok (.iload_n 1, 1) := by decide +kernel
theorem dX8_word_11 : decode cX8_word 11 = .ok (.getstatic 42, 3) := by decide +kernel
theorem dX8_word_14 : decode cX8_word 14 = .ok (.arraylength, 1) := by decide +kernel
theorem dX8_word_15 : decode cX8_word 15 = .ok (.if_icmp .ge 11, 3) := by decide +kernel
theorem dX8_word_18 : decode cX8_word 18 = .ok (.getstatic 42, 3) := by decide +kernel
theorem dX8_word_21 : decode cX8_word 21 = .ok (.iload_n 1, 1) := by decide +kernel
theorem dX8_word_22 : decode cX8_word 22 = .ok (.aaload, 1) := by decide +kernel
theorem dX8_word_23 : decode cX8_word 23 = .ok (.goto 6, 3) := by decide +kernel
theorem dX8_word_26 : decode cX8_word 26 = .ok (.getstatic 46, 3) := by decide +kernel
theorem dX8_word_29 : decode cX8_word 29 = .ok (.areturn, 1) := by decide +kernel
theorem dX8_operand_0 : decode cX8_operand 0 = .ok (.aload_n 0, 1) := by decide +kernel
theorem dX8_operand_1 : decode cX8_operand 1 = .ok (.iconst 1, 1) := by decide +kernel
theorem dX8_operand_2 : decode cX8_operand 2 = .ok (.iload_n 1, 1) := by decide +kernel
theorem dX8_operand_3 : decode cX8_operand 3 = .ok (.iadd, 1) := by decide +kernel
theorem dX8_operand_4 : decode cX8_operand 4 = .ok (.invokevirtual 38, 3) := by decide +kernel
theorem dX8_operand_7 : decode cX8_operand 7 = .ok (.ireturn, 1) := by decide +kernel
theorem dX8_codeAt_0 : decode cX8_codeAt 0 = .ok (.aload_n 0, 1) := by decide +kernel
theorem dX8_codeAt_1 : decode cX8_codeAt 1 = .ok (.getfield 28, 3) := by decide +kernel
theorem dX8_codeAt_4 : decode cX8_codeAt 4 = .ok (.iconst 4, 1) := by decide +kernel
theorem dX8_codeAt_5 : decode cX8_codeAt 5 = .ok (.imul, 1) := by decide +kernel
theorem dX8_codeAt_6 : decode cX8_codeAt 6 = .ok (.iload_n 1, 1) := by decide +kernel
theorem dX8_codeAt_7 : decode cX8_codeAt 7 = .ok (.iadd, 1) := by decide +kernel
theorem dX8_codeAt_8 : decode cX8_codeAt 8 = .ok (.istore_n 2, 1) := by decide +kernel
theorem dX8_codeAt_9 : decode cX8_codeAt 9 = .ok (.iload_n 2, 1) := by decide +kernel
theorem dX8_codeAt_10 : decode cX8_codeAt 10 = .ok (.ifCond .lt 21, 3) := by decide +kernel
theorem dX8_codeAt_13 : decode cX8_codeAt 13 = .ok (.iload_n 2, 1) := by decide +kernel
theorem dX8_codeAt_14 : decode cX8_codeAt 14 = .ok (.aload_n 0, 1) := by decide +kernel
theorem dX8_codeAt_15 : decode cX8_codeAt 15 = .ok (.getfield 9, 3) := by decide +kernel
theorem dX8_codeAt_18 : decode cX8_codeAt 18 = .ok (.arraylength, 1) := by decide +kernel
theorem dX8_codeAt_19 : decode cX8_codeAt 19 = .ok (.if_icmp .ge 12, 3) := by decide +kernel
theorem dX8_codeAt_22 : decode cX8_codeAt 22 = .ok (.aload_n 0, 1) := by decide +kernel
theorem dX8_codeAt_23 : decode cX8_codeAt 23 = .ok (.getfield 9, 3) := by decide +kernel
theorem dX8_codeAt_26 : decode cX8_codeAt 26 = .ok (.iload_n 2, 1) := by decide +kernel
theorem dX8_codeAt_27 : decode cX8_codeAt 27 = .ok (.iaload, 1) := by decide +kernel
theorem dX8_codeAt_28 : decode cX8_codeAt 28 = .ok (.goto 4, 3) := by decide +kernel
theorem dX8_codeAt_31 : decode cX8_codeAt 31 = .ok (.iconst 0, 1) := by decide +kernel
theorem dX8_codeAt_32 : decode cX8_codeAt 32 = .ok (.ireturn, 1) := by decide +kernel
theorem dX8_goTo_0 : decode cX8_goTo 0 = .ok (.aload_n 0, 1) := by decide +kernel
theorem dX8_goTo_1 : decode cX8_goTo 1 = .ok (.iload_n 1, 1) := by decide +kernel
theorem dX8_goTo_2 : decode cX8_goTo 2 = .ok (.putfield 28, 3) := by decide +kernel
theorem dX8_goTo_5 : decode cX8_goTo 5 = .ok (.aload_n 0, 1) := by decide +kernel
theorem dX8_goTo_6 : decode cX8_goTo 6 = .ok (.iload_n 1, 1) := by decide +kernel
theorem dX8_goTo_7 : decode cX8_goTo 7 = .ok (.aload_n 0, 1) := by decide +kernel
theorem dX8_goTo_8 : decode cX8_goTo 8 = .ok (.getfield 22, 3) := by decide +kernel
theorem dX8_goTo_11 : decode cX8_goTo 11 = .ok (.if_icmp .ge 7, 3) := by decide +kernel
theorem dX8_goTo_14 : decode cX8_goTo 14 = .ok (.iconst 1, 1) := by decide +kernel
theorem dX8_goTo_15 : decode cX8_goTo 15 = .ok (.goto 4, 3) := by decide +kernel
theorem dX8_goTo_18 : decode cX8_goTo 18 = .ok (.iconst 4, 1) := by decide +kernel
theorem dX8_goTo_19 : decode cX8_goTo 19 = .ok (.putfield 19, 3) := by decide +kernel
theorem dX8_goTo_22 : decode cX8_goTo 22 = .ok (.return_, 1) := by decide +kernel
theorem dX8_goOn_0 : decode cX8_goOn 0 = .ok (.aload_n 0, 1) := by decide +kernel
theorem dX8_goOn_1 : decode cX8_goOn 1 = .ok (.getfield 52, 3) := by decide +kernel
theorem dX8_goOn_4 : decode cX8_goOn 4 = .ok (.ifnull 11, 3) := by decide +kernel
theorem dX8_goOn_7 : decode cX8_goOn 7 = .ok (.aload_n 0, 1) := by decide +kernel
theorem dX8_goOn_8 : decode cX8_goOn 8 = .ok (.getfield 52, 3) := by decide +kernel
theorem dX8_goOn_11 : decode cX8_goOn 11 = .ok (.aload_n 0, 1) := by decide +kernel
theorem dX8_goOn_12 : decode cX8_goOn 12 = .ok (.invokevirtual 56, 3) := by decide +kernel
theorem dX8_goOn_15 : decode cX8_goOn 15 = .ok (.aload_n 0, 1) := by decide +kernel
theorem dX8_goOn_16 : decode cX8_goOn 16 = .ok (.aconst_null, 1) := by decide +kernel
theorem dX8_goOn_17 : decode cX8_goOn 17 = .ok (.putfield 52, 3) := by decide +kernel
theorem dX8_goOn_20 : decode cX8_goOn 20 = .ok (.aload_n 0, 1) := by decide +kernel
theorem dX8_goOn_21 : decode cX8_goOn 21 = .ok (.aconst_null, 1) := by decide +kernel
theorem dX8_goOn_22 : decode cX8_goOn 22 = .ok (.putfield 62, 3) := by decide +kernel
theorem dX8_goOn_25 : decode cX8_goOn 25 = .ok (.aload_n 0, 1) := by decide +kernel
theorem dX8_goOn_26 : decode cX8_goOn 26 = .ok (.aload_n 0, 1) := by decide +kernel
theorem dX8_goOn_27 : decode cX8_goOn 27 = .ok (.getfield 28, 3) := by decide +kernel
theorem dX8_goOn_30 : decode cX8_goOn 30 = .ok (.iconst 1, 1) := by decide +kernel
theorem dX8_goOn_31 : decode cX8_goOn 31 = .ok (.iadd, 1) := by decide +kernel
theorem dX8_goOn_32 : decode cX8_goOn 32 = .ok (.invokevirtual 66, 3) := by decide +kernel
theorem dX8_goOn_35 : decode cX8_goOn 35 = .ok (.return_, 1) := by decide +kernel
theorem dX8_goOnWith_0 : decode cX8_goOnWith 0 = .ok (.aload_n 0, 1) := by decide +kernel
theorem dX8_goOnWith_1 : decode cX8_goOnWith 1 = .ok (.iload_n 1, 1) := by decide +kernel
theorem dX8_goOnWith_2 : decode cX8_goOnWith 2 = .ok (.putfield 25, 3) := by decide +kernel
theorem dX8_goOnWith_5 : decode cX8_goOnWith 5 = .ok (.aload_n 0, 1) := by decide +kernel
theorem dX8_goOnWith_6 : decode cX8_goOnWith 6 = .ok (.invokevirtual 70, 3) := by decide +kernel
theorem dX8_goOnWith_9 : decode cX8_goOnWith 9 = .ok (.return_, 1) := by decide +kernel
theorem dX8_fail_0 : decode cX8_fail 0 = .ok (.aload_n 0, 1) := by decide +kernel
theorem dX8_fail_1 : decode cX8_fail 1 = .ok (.iconst 5, 1) := by decide +kernel
theorem dX8_fail_2 : decode cX8_fail 2 = .ok (.putfield 19, 3) := by decide +kernel
theorem dX8_fail_5 : decode cX8_fail 5 = .ok (.aload_n 0, 1) := by decide +kernel
theorem dX8_fail_6 : decode cX8_fail 6 = .ok (.iload_n 1, 1) := by decide +kernel
theorem dX8_fail_7 : decode cX8_fail 7 = .ok (.putfield 31, 3) := by decide +kernel
theorem dX8_fail_10 : decode cX8_fail 10 = .ok (.return_, 1) := by decide +kernel
theorem dX8_standIn_0 : decode cX8_standIn 0 = .ok (.aload_n 1, 1) := by decide +kernel
theorem dX8_standIn_1 : decode cX8_standIn 1 = .ok (.aload_n 0, 1) := by decide +kernel
theorem dX8_standIn_2 : decode cX8_standIn 2 = .ok (.invokevirtual 73, 3) := by decide +kernel
theorem dX8_standIn_5 : decode cX8_standIn 5 = .ok (.aload_n 0, 1) := by decide +kernel
theorem dX8_standIn_6 : decode cX8_standIn 6 = .ok (.aload_n 1, 1) := by decide +kernel
theorem dX8_standIn_7 : decode cX8_standIn 7 = .ok (.putfield 52, 3) := by decide +kernel
theorem dX8_standIn_10 : decode cX8_standIn 10 = .ok (.aload_n 0, 1) := by decide +kernel
theorem dX8_standIn_11 : decode cX8_standIn 11 = .ok (.aload_n 2, 1) := by decide +kernel
theorem dX8_standIn_12 : decode cX8_standIn 12 = .ok (.putfield 62, 3) := by decide +kernel
theorem dX8_standIn_15 : decode cX8_standIn 15 = .ok (.aload_n 0, 1) := by decide +kernel
theorem dX8_standIn_16 : decode cX8_standIn 16 = .ok (.iconst 2, 1) := by decide +kernel
theorem dX8_standIn_17 : decode cX8_standIn 17 = .ok (.putfield 19, 3) := by decide +kernel
theorem dX8_standIn_20 : decode cX8_standIn 20 = .ok (.return_, 1) := by decide +kernel
theorem dX8_refusesToWait_0 : decode cX8_refusesToWait 0 = .ok (.aload_n 0, 1) := by decide +kernel
theorem dX8_refusesToWait_1 : decode cX8_refusesToWait 1 = .ok (.getfield 34, 3) := by decide +kernel
theorem dX8_refusesToWait_4 : decode cX8_refusesToWait 4 = .ok (.ifCond .ne 5, 3) := by decide +kernel
theorem dX8_refusesToWait_7 : decode cX8_refusesToWait 7 = .ok (.iconst 0, 1) := by decide +kernel
theorem dX8_refusesToWait_8 : decode cX8_refusesToWait 8 = .ok (.ireturn, 1) := by decide +kernel
theorem dX8_refusesToWait_9 : decode cX8_refusesToWait 9 = .ok (.aload_n 0, 1) := by decide +kernel
theorem dX8_refusesToWait_10 : decode cX8_refusesToWait 10 = .ok (.iconst 0, 1) := by decide +kernel
theorem dX8_refusesToWait_11 : decode cX8_refusesToWait 11 = .ok (.putfield 34, 3) := by decide +kernel
theorem dX8_refusesToWait_14 : decode cX8_refusesToWait 14 = .ok (.aload_n 0, 1) := by decide +kernel
theorem dX8_refusesToWait_15 : decode cX8_refusesToWait 15 = .ok (.bipush (-2), 2) := by decide +kernel
theorem dX8_refusesToWait_17 : decode cX8_refusesToWait 17 = .ok (.putfield 25, 3) := by decide +kernel
theorem dX8_refusesToWait_20 : decode cX8_refusesToWait 20 = .ok (.aload_n 0, 1) := by decide +kernel
theorem dX8_refusesToWait_21 : decode cX8_refusesToWait 21 = .ok (.invokevirtual 70, 3) := by decide +kernel
theorem dX8_refusesToWait_24 : decode cX8_refusesToWait 24 = .ok (.iconst 1, 1) := by decide +kernel
theorem dX8_refusesToWait_25 : decode cX8_refusesToWait 25 = .ok (.ireturn, 1) := by decide +kernel
theorem dX9_init_0 : decode cX9_init 0 = .ok (.aload_n 0, 1) := by decide +kernel
theorem dX9_init_1 : decode cX9_init 1 = .ok (.invokespecial 3, 3) := by decide +kernel
theorem dX9_init_4 : decode cX9_init 4 = .ok (.aload_n 0, 1) := by decide +kernel
theorem dX9_init_5 : decode cX9_init 5 = .ok (.new 9, 3) := by decide +kernel
theorem dX9_init_8 : decode cX9_init 8 = .ok (.dup, 1) := by decide +kernel
theorem dX9_init_9 : decode cX9_init 9 = .ok (.invokespecial 11, 3) := by decide +kernel
theorem dX9_init_12 : decode cX9_init 12 = .ok (.putfield 12, 3) := by decide +kernel
theorem dX9_init_15 : decode cX9_init 15 = .ok (.aload_n 0, 1) := by decide +kernel
theorem dX9_init_16 : decode cX9_init 16 = .ok (.iload_n 1, 1) := by decide +kernel
theorem dX9_init_17 : decode cX9_init 17 = .ok (.putfield 18, 3) := by decide +kernel
theorem dX9_init_20 : decode cX9_init 20 = .ok (.aload_n 0, 1) := by decide +kernel
theorem dX9_init_21 : decode cX9_init 21 = .ok (.iload_n 2, 1) := by decide +kernel
theorem dX9_init_22 : decode cX9_init 22 = .ok (.putfield 22, 3) := by decide +kernel
theorem dX9_init_25 : decode cX9_init 25 = .ok (.return_, 1) := by decide +kernel
theorem dX9_hasStrands_0 : decode cX9_hasStrands 0 = .ok (.aload_n 0, 1) := by decide +kernel
theorem dX9_hasStrands_1 : decode cX9_hasStrands 1 = .ok (.getfield 12, 3) := by decide +kernel
theorem dX9_hasStrands_4 : decode cX9_hasStrands 4 = .ok (.getfield 25, 3) := by decide +kernel
theorem dX9_hasStrands_7 : decode cX9_hasStrands 7 = .ok (.ifCond .le 7, 3) := by decide +kernel
theorem dX9_hasStrands_10 : decode cX9_hasStrands 10 = .ok (.iconst 1, 1) := by decide +kernel
theorem dX9_hasStrands_11 : decode cX9_hasStrands 11 = .ok (.goto 4, 3) := by decide +kernel
theorem dX9_hasStrands_14 : decode cX9_hasStrands 14 = .ok (.iconst 0, 1) := by decide +kernel
theorem dX9_hasStrands_15 : decode cX9_hasStrands 15 = .ok (.ireturn, 1) := by decide +kernel
theorem dX9_tells_0 : decode cX9_tells 0 = .ok (.iload_n 1, 1) := by decide +kernel
theorem dX9_tells_1 : decode cX9_tells 1 = .ok (.iconst 1, 1) := by decide +kernel
theorem dX9_tells_2 : decode cX9_tells 2 = .ok (.if_icmp .gt 7, 3) := by decide +kernel
theorem dX9_tells_5 : decode cX9_tells 5 = .ok (.iconst 1, 1) := by decide +kernel
theorem dX9_tells_6 : decode cX9_tells 6 = .ok (.goto 4, 3) := by decide +kernel
theorem dX9_tells_9 : decode cX9_tells 9 = .ok (.iconst 0, 1) := by decide +kernel
theorem dX9_tells_10 : decode cX9_tells 10 = .ok (.ireturn, 1) := by decide +kernel
theorem dX9_detail_0 : decode cX9_detail 0 = .ok (.ldc2_w 28, 3) := by decide +kernel
theorem dX9_detail_3 : decode cX9_detail 3 = .ok (.lreturn, 1) := by decide +kernel
theorem dX9_holdUp_0 : decode cX9_holdUp 0 = .ok (.aload_n 1, 1) := by decide +kernel
theorem dX9_holdUp_1 : decode cX9_holdUp 1 = .ok (.invokevirtual 30, 3) := by decide +kernel
theorem dX9_holdUp_4 : decode cX9_holdUp 4 = .ok (.ifCond .ne 12, 3) := by decide +kernel
theorem dX9_holdUp_7 : decode cX9_holdUp 7 = .ok (.aload_n 1, 1) := by decide +kernel
theorem dX9_holdUp_8 : decode cX9_holdUp 8 = .ok (.aload_n 0, 1) := by decide +kernel
theorem dX9_holdUp_9 : decode cX9_holdUp 9 = .ok (.getfield 12, 3) := by decide +kernel
theorem dX9_holdUp_12 : decode cX9_holdUp 12 = .ok (.aload_n 0, 1) := by decide +kernel
theorem dX9_holdUp_13 : decode cX9_holdUp 13 = .ok (.invokevirtual 36, 3) := by decide +kernel
theorem dX9_holdUp_16 : decode cX9_holdUp 16 = .ok (.return_, 1) := by decide +kernel
theorem dX9_allGoOn_0 : decode cX9_allGoOn 0 = .ok (.iconst 0, 1) := by decide +kernel
theorem dX9_allGoOn_1 : decode cX9_allGoOn 1 = .ok (.istore_n 1, 1) := by decide +kernel
theorem dX9_allGoOn_2 : decode cX9_allGoOn 2 = .ok (.iload_n 1, 1) := by decide +kernel
theorem dX9_allGoOn_3 : decode cX9_allGoOn 3 = .ok (.bipush 8, 2) := by decide +kernel
theorem dX9_allGoOn_5 : decode cX9_allGoOn 5 = .ok (.if_icmp .ge 26, 3) := by decide +kernel
theorem dX9_allGoOn_8 : decode cX9_allGoOn 8 = .ok (.aload_n 0, 1) := by decide +kernel
theorem dX9_allGoOn_9 : decode cX9_allGoOn 9 = .ok (.getfield 12, 3) := by decide +kernel
theorem dX9_allGoOn_12 : decode cX9_allGoOn 12 = .ok (.invokevirtual 40, 3) := by decide +kernel
theorem dX9_allGoOn_15 : decode cX9_allGoOn 15 = .ok (.astore_n 2, 1) := by decide +kernel
theorem dX9_allGoOn_16 : decode cX9_allGoOn 16 = .ok (.aload_n 2, 1) := by decide +kernel
theorem dX9_allGoOn_17 : decode cX9_allGoOn 17 = .ok (.ifnonnull 4, 3) := by decide +kernel
theorem dX9_allGoOn_20 : decode cX9_allGoOn 20 = .ok (.return_, 1) := by decide +kernel
theorem dX9_allGoOn_21 : decode cX9_allGoOn 21 = .ok (.aload_n 2, 1) := by decide +kernel
theorem dX9_allGoOn_22 : decode cX9_allGoOn 22 = .ok (.invokevirtual 44, 3) := by decide +kernel
theorem dX9_allGoOn_25 : decode cX9_allGoOn 25 = .ok (.iinc 1 1, 3) := by decide +kernel
theorem dX9_allGoOn_28 : decode cX9_allGoOn 28 = .ok (.goto (-26), 3) := by decide +kernel
theorem dX9_allGoOn_31 : decode cX9_allGoOn 31 = .ok (.return_, 1) := by decide +kernel
theorem dX10_init_0 : decode cX10_init 0 = .ok (.aload_n 0, 1) := by decide +kernel
theorem dX10_init_1 : decode cX10_init 1 = .ok (.invokespecial 3, 3) := by decide +kernel
theorem dX10_init_4 : decode cX10_init 4 = .ok (.aload_n 0, 1) := by decide +kernel
theorem dX10_init_5 : decode cX10_init 5 = .ok (.sipush 240, 3) := by decide +kernel
theorem dX10_init_8 : decode cX10_init 8 = .ok (.newarray .int, 2) := by decide +kernel
theorem dX10_init_10 : decode cX10_init 10 = .ok (.putfield 9, 3) := by decide +kernel
theorem dX10_init_13 : decode cX10_init 13 = .ok (.aload_n 0, 1) := by decide +kernel
theorem dX10_init_14 : decode cX10_init 14 = .ok (.iconst (-1), 1) := by decide +kernel
theorem dX10_init_15 : decode cX10_init 15 = .ok (.putfield 15, 3) := by decide +kernel
theorem dX10_init_18 : decode cX10_init 18 = .ok (.aload_n 0, 1) := by decide +kernel
theorem dX10_init_19 : decode cX10_init 19 = .ok (.sipush 1600, 3) := by decide +kernel
theorem dX10_init_22 : decode cX10_init 22 = .ok (.newarray .byte, 2) := by decide +kernel
theorem dX10_init_24 : decode cX10_init 24 = .ok (.putfield 19, 3) := by decide +kernel
theorem dX10_init_27 : decode cX10_init 27 = .ok (.return_, 1) := by decide +kernel
theorem dX10_append_0 : decode cX10_append 0 = .ok (.bipush 24, 2) := by decide +kernel
theorem dX10_append_2 : decode cX10_append 2 = .ok (.istore_n 2, 1) := by decide +kernel
theorem dX10_append_3 : decode cX10_append 3 = .ok (.iload_n 2, 1) := by decide +kernel
theorem dX10_append_4 : decode cX10_append 4 = .ok (.ifCond .lt 44, 3) := by decide +kernel
theorem dX10_append_7 : decode cX10_append 7 = .ok (.aload_n 0, 1) := by decide +kernel
theorem dX10_append_8 : decode cX10_append 8 = .ok (.getfield 23, 3) := by decide +kernel
theorem dX10_append_11 : decode cX10_append 11 = .ok (.aload_n 0, 1) := by decide +kernel
theorem dX10_append_12 : decode cX10_append 12 = .ok (.getfield 19, 3) := by decide +kernel
theorem dX10_append_15 : decode cX10_append 15 = .ok (.arraylength, 1) := by decide +kernel
theorem dX10_append_16 : decode cX10_append 16 = .ok (.if_icmp .ge 32, 3) := by decide +kernel
theorem dX10_append_19 : decode cX10_append 19 = .ok (.aload_n 0, 1) := by decide +kernel
theorem dX10_append_20 : decode cX10_append 20 = .ok (.getfield 19, 3) := by decide +kernel
theorem dX10_append_23 : decode cX10_append 23 = .ok (.aload_n 0, 1) := by decide +kernel
theorem dX10_append_24 : decode cX10_append 24 = .ok (.getfield 23, 3) := by decide +kernel
theorem dX10_append_27 : decode cX10_append 27 = .ok (.iload_n 1, 1) := by decide +kernel
theorem dX10_append_28 : decode cX10_append 28 = .ok (.iload_n 2, 1) := by decide +kernel
theorem dX10_append_29 : decode cX10_append 29 = .ok (.iushr, 1) := by decide +kernel
theorem dX10_append_30 : decode cX10_append 30 = .ok (.i2b, 1) := by decide +kernel
theorem dX10_append_31 : decode cX10_append 31 = .ok (.bastore, 1) := by decide +kernel
theorem dX10_append_32 : decode cX10_append 32 = .ok (.aload_n 0, 1) := by decide +kernel
theorem dX10_append_33 : decode cX10_append 33 = .ok (.dup, 1) := by decide +kernel
theorem dX10_append_34 : decode cX10_append 34 = .ok (.getfield 23, 3) := by decide +kernel
theorem dX10_append_37 : decode cX10_append 37 = .ok (.iconst 1, 1) := by decide +kernel
theorem dX10_append_38 : decode cX10_append 38 = .ok (.iadd, 1) := by decide +kernel
theorem dX10_append_39 : decode cX10_append 39 = .ok (.putfield 23, 3) := by decide +kernel
theorem dX10_append_42 : decode cX10_append 42 = .ok (.iinc 2 (-8), 3) := by decide +kernel
theorem dX10_append_45 : decode cX10_append 45 = .ok (.goto (-42), 3) := by decide +kernel
theorem dX10_append_48 : decode cX10_append 48 = .ok (.return_, 1) := by decide +kernel
theorem dX10_read_0 : decode cX10_read 0 = .ok (.aload_n 0, 1) := by decide +kernel
theorem dX10_read_1 : decode cX10_read 1 = .ok (.iconst 0, 1) := by decide +kernel
theorem dX10_read_2 : decode cX10_read 2 = .ok (.putfield 26, 3) := by decide +kernel
theorem dX10_read_5 : decode cX10_read 5 = .ok (.aload_n 0, 1) := by decide +kernel
theorem dX10_read_6 : decode cX10_read 6 = .ok (.iconst (-1), 1) := by decide +kernel
theorem dX10_read_7 : decode cX10_read 7 = .ok (.putfield 15, 3) := by decide +kernel
theorem dX10_read_10 : decode cX10_read 10 = .ok (.iconst 0, 1) := by decide +kernel
theorem dX10_read_11 : decode cX10_read 11 = .ok (.istore_n 1, 1) := by decide +kernel
theorem dX10_read_12 : decode cX10_read 12 = .ok (.iload_n 1, 1) := by decide +kernel
theorem dX10_read_13 : decode cX10_read 13 = .ok (.bipush 60, 2) := by decide +kernel
theorem dX10_read_15 : decode cX10_read 15 = .ok (.if_icmp .ge 77, 3) := by decide +kernel
theorem dX10_read_18 : decode cX10_read 18 = .ok (.aload_n 0, 1) := by decide +kernel
theorem dX10_read_19 : decode cX10_read 19 = .ok (.invokevirtual 29, 3) := by decide +kernel
theorem dX10_read_22 : decode cX10_read 22 = .ok (.aload_n 0, 1) := by decide +kernel
theorem dX10_read_23 : decode cX10_read 23 = .ok (.iload_n 1, 1) := by decide +kernel
theorem dX10_read_24 : decode cX10_read 24 = .ok (.iconst 4, 1) := by decide +kernel
theorem dX10_read_25 : decode cX10_read 25 = .ok (.imul, 1) := by decide +kernel
theorem dX10_read_26 : decode cX10_read 26 = .ok (.invokevirtual 32, 3) := by decide +kernel
theorem dX10_read_29 : decode cX10_read 29 = .ok (.ifCond .ne 5, 3) := by decide +kernel
theorem dX10_read_32 : decode cX10_read 32 = .ok (.iconst 0, 1) := by decide +kernel
theorem dX10_read_33 : decode cX10_read 33 = .ok (.ireturn, 1) := by decide +kernel
theorem dX10_read_34 : decode cX10_read 34 = .ok (.aload_n 0, 1) := by decide +kernel
theorem dX10_read_35 : decode cX10_read 35 = .ok (.invokevirtual 29, 3) := by decide +kernel
theorem dX10_read_38 : decode cX10_read 38 = .ok (.aload_n 0, 1) := by decide +kernel
theorem dX10_read_39 : decode cX10_read 39 = .ok (.getfield 26, 3) := by decide +kernel
theorem dX10_read_42 : decode cX10_read 42 = .ok (.aload_n 0, 1) := by decide +kernel
theorem dX10_read_43 : decode cX10_read 43 = .ok (.getfield 23, 3) := by decide +kernel
theorem dX10_read_46 : decode cX10_read 46 = .ok (.if_icmp .lt 12, 3) := by decide +kernel
theorem dX10_read_49 : decode cX10_read 49 = .ok (.aload_n 0, 1) := by decide +kernel
theorem dX10_read_50 : decode cX10_read 50 = .ok (.iload_n 1, 1) := by decide +kernel
theorem dX10_read_51 : decode cX10_read 51 = .ok (.iconst 1, 1) := by decide +kernel
theorem dX10_read_52 : decode cX10_read 52 = .ok (.iadd, 1) := by decide +kernel
theorem dX10_read_53 : decode cX10_read 53 = .ok (.putfield 36, 3) := by decide +kernel
theorem dX10_read_56 : decode cX10_read 56 = .ok (.iconst 1, 1) := by decide +kernel
theorem dX10_read_57 : decode cX10_read 57 = .ok (.ireturn, 1) := by decide +kernel
theorem dX10_read_58 : decode cX10_read 58 = .ok (.aload_n 0, 1) := by decide +kernel
theorem dX10_read_59 : decode cX10_read 59 = .ok (.invokevirtual 39, 3) := by decide +kernel
theorem dX10_read_62 : decode cX10_read 62 = .ok (.bipush 59, 2) := by decide +kernel
theorem dX10_read_64 : decode cX10_read 64 = .ok (.if_icmp .eq 12, 3) := by decide +kernel
theorem dX10_read_67 : decode cX10_read 67 = .ok (.aload_n 0, 1) := by decide +kernel
theorem dX10_read_68 : decode cX10_read 68 = .ok (.aload_n 0, 1) := by decide +kernel
theorem dX10_read_69 : decode cX10_read 69 = .ok (.getfield 26, 3) := by decide +kernel
theorem dX10_read_72 : decode cX10_read 72 = .ok (.invokevirtual 43, 3) := by decide +kernel
theorem dX10_read_75 : decode cX10_read 75 = .ok (.ireturn, 1) := by decide +kernel
theorem dX10_read_76 : decode cX10_read 76 = .ok (.aload_n 0, 1) := by decide +kernel
theorem dX10_read_77 : decode cX10_read 77 = .ok (.dup, 1) := by decide +kernel
theorem dX10_read_78 : decode cX10_read 78 = .ok (.getfield 26, 3) := by decide +kernel
theorem dX10_read_81 : decode cX10_read 81 = .ok (.iconst 1, 1) := by decide +kernel
theorem dX10_read_82 : decode cX10_read 82 = .ok (.iadd, 1) := by decide +kernel
theorem dX10_read_83 : decode cX10_read 83 = .ok (.putfield 26, 3) := by decide +kernel
theorem dX10_read_86 : decode cX10_read 86 = .ok (.iinc 1 1, 3) := by decide +kernel
theorem dX10_read_89 : decode cX10_read 89 = .ok (.goto (-77), 3) := by decide +kernel
theorem dX10_read_92 : decode cX10_read 92 = .ok (.aload_n 0, 1) := by decide +kernel
theorem dX10_read_93 : decode cX10_read 93 = .ok (.invokevirtual 29, 3) := by decide +kernel
theorem dX10_read_96 : decode cX10_read 96 = .ok (.aload_n 0, 1) := by decide +kernel
theorem dX10_read_97 : decode cX10_read 97 = .ok (.aload_n 0, 1) := by decide +kernel
theorem dX10_read_98 : decode cX10_read 98 = .ok (.getfield 26, 3) := by decide +kernel
theorem dX10_read_101 : decode cX10_read 101 = .ok (.invokevirtual 43, 3) := by decide +kernel
theorem dX10_read_104 : decode cX10_read 104 = .ok (.ireturn, 1) := by decide +kernel
theorem dX10_readInstruction_0 : decode cX10_readInstruction 0 = .ok (.aload_n 0, 1) := by decide +kernel
theorem dX10_readInstruction_1 : decode cX10_readInstruction 1 = .ok (.getfield 26, 3) := by decide +kernel
theorem dX10_readInstruction_4 : decode cX10_readInstruction 4 = .ok (.istore_n 2, 1) := by decide +kernel
theorem dX10_readInstruction_5 : decode cX10_readInstruction 5 = .ok (.aload_n 0, 1) := by decide +kernel
theorem dX10_readInstruction_6 : decode cX10_readInstruction 6 = .ok (.getfield 26, 3) := by decide +kernel
theorem dX10_readInstruction_9 : decode cX10_readInstruction 9 = .ok (.aload_n 0, 1) := by decide +kernel
theorem dX10_readInstruction_10 : decode cX10_readInstruction 10 = .ok (.getfield 23, 3) := by decide +kernel
theorem dX10_readInstruction_13 : decode cX10_readInstruction 13 = .ok (.if_icmp .ge 34, 3) := by decide +kernel
theorem dX10_readInstruction_16 : decode cX10_readInstruction 16 = .ok (.aload_n 0, 1) := by decide +kernel
theorem dX10_readInstruction_17 : decode cX10_readInstruction 17 = .ok (.invokevirtual 39, 3) := by decide +kernel
theorem dX10_readInstruction_20 : decode cX10_readInstruction 20 = .ok (.bipush 97, 2) := by decide +kernel
theorem dX10_readInstruction_22 : decode cX10_readInstruction 22 = .ok (.if_icmp .lt 25, 3) := by decide +kernel
theorem dX10_readInstruction_25 : decode cX10_readInstruction 25 = .ok (.aload_n 0, 1) := by decide +kernel
theorem dX10_readInstruction_26 : decode cX10_readInstruction 26 = .ok (.invokevirtual 39, 3) := by decide +kernel
theorem dX10_readInstruction_29 : decode cX10_readInstruction 29 = .ok (.bipush 122, 2) := by decide +kernel
theorem dX10_readInstruction_31 : decode cX10_readInstruction 31 = .ok (.if_icmp .gt 16, 3) := by decide +kernel
theorem dX10_readInstruction_34 : decode cX10_readInstruction 34 = .ok (.aload_n 0, 1) := by decide +kernel
theorem dX10_readInstruction_35 : decode cX10_readInstruction 35 = .ok (.dup, 1) := by decide +kernel
theorem dX10_readInstruction_36 : decode cX10_readInstruction 36 = .ok (.getfield 26, 3) := by decide +kernel
theorem dX10_readInstruction_39 : decode cX10_readInstruction 39 = .ok (.iconst 1, 1) := by decide +kernel
theorem dX10_readInstruction_40 : decode cX10_readInstruction 40 = .ok (.iadd, 1) := by decide +kernel
theorem dX10_readInstruction_41 : decode cX10_readInstruction 41 = .ok (.putfield 26, 3) := by decide +kernel
theorem dX10_readInstruction_44 : decode cX10_readInstruction 44 = .ok (.goto (-39), 3) := by decide +kernel
theorem dX10_readInstruction_47 : decode cX10_readInstruction 47 = .ok (.aload_n 0, 1) := by decide +kernel
theorem dX10_readInstruction_48 : decode cX10_readInstruction 48 = .ok (.iload_n 2, 1) := by decide +kernel
theorem dX10_readInstruction_49 : decode cX10_readInstruction 49 = .ok (.invokevirtual 46, 3) := by decide +kernel
theorem dX10_readInstruction_52 : decode cX10_readInstruction 52 = .ok (.istore_n 3, 1) := by decide +kernel
theorem dX10_readInstruction_53 : decode cX10_readInstruction 53 = .ok (.iload_n 3, 1) := by decide +kernel
theorem dX10_readInstruction_54 : decode cX10_readInstruction 54 = .ok (.ifCond .lt 11, 3) := by decide +kernel
theorem dX10_readInstruction_57 : decode cX10_readInstruction 57 = .ok (.iload_n 3, 1) := by decide +kernel
theorem dX10_readInstruction_58 : decode cX10_readInstruction 58 = .ok (.getstatic 50, 3) := by decide +kernel
theorem dX10_readInstruction_61 : decode cX10_readInstruction 61 = .ok (.arraylength, 1) := by decide +kernel
theorem dX10_readInstruction_62 : decode cX10_readInstruction 62 = .ok (.if_icmp .lt 9, 3) := by decide +kernel
theorem dX10_readInstruction_65 : decode cX10_readInstruction 65 = .ok (.aload_n 0, 1) := by decide +kernel
theorem dX10_readInstruction_66 : decode cX10_readInstruction 66 = .ok (.iload_n 2, 1) := by decide +kernel
theorem dX10_readInstruction_67 : decode cX10_readInstruction 67 = .ok (.invokevirtual 43, 3) := by decide +kernel
theorem dX10_readInstruction_70 : decode cX10_readInstruction 70 = .ok (.ireturn, 1) := by decide +kernel
theorem dX10_readInstruction_71 : decode cX10_readInstruction 71 = .ok (.aload_n 0, 1) := by decide +kernel
theorem dX10_readInstruction_72 : decode cX10_readInstruction 72 = .ok (.iload_n 1, 1) := by decide +kernel
theorem dX10_readInstruction_73 : decode cX10_readInstruction 73 = .ok (.iload_n 3, 1) := by decide +kernel
theorem dX10_readInstruction_74 : decode cX10_readInstruction 74 = .ok (.invokevirtual 54, 3) := by decide +kernel
theorem dX10_readInstruction_77 : decode cX10_readInstruction 77 = .ok (.getstatic 50, 3) := by decide +kernel
theorem dX10_readInstruction_80 : decode cX10_readInstruction 80 = .ok (.iload_n 3, 1) := by decide +kernel
theorem dX10_readInstruction_81 : decode cX10_readInstruction 81 = .ok (.aaload, 1) := by decide +kernel
theorem dX10_readInstruction_82 : decode cX10_readInstruction 82 = .ok (.getfield 58, 3) := by decide +kernel
theorem dX10_readInstruction_85 : decode cX10_readInstruction 85 = .ok (.astore 4, 2) := by decide +kernel
theorem dX10_readInstruction_87 : decode cX10_readInstruction 87 = .ok (.iconst 0, 1) := by decide +kernel
theorem dX10_readInstruction_88 : decode cX10_readInstruction 88 = .ok (.istore 5, 2) := by decide +kernel
theorem dX10_readInstruction_90 : decode cX10_readInstruction 90 = .ok (.iload 5, 2) := by decide +kernel
theorem dX10_readInstruction_92 : decode cX10_readInstruction 92 = .ok (.aload 4, 2) := by decide +kernel
theorem dX10_readInstruction_94 : decode cX10_readInstruction 94 = .ok (.invokevirtual 64, 3) := by decide +kernel
theorem dX10_readInstruction_97 : decode cX10_readInstruction 97 = .ok (.if_icmp .ge 53, 3) := by decide +kernel
theorem dX10_readInstruction_100 : decode cX10_readInstruction 100 = .ok (.aload_n 0, 1) := by decide +kernel
theorem dX10_readInstruction_101 : decode cX10_readInstruction 101 = .ok (.invokevirtual 39, 3) := by decide +kernel
theorem dX10_readInstruction_104 : decode cX10_readInstruction 104 = .ok (.bipush 32, 2) := by decide +kernel
theorem dX10_readInstruction_106 : decode cX10_readInstruction 106 = .ok (.if_icmp .eq 12, 3) := by decide +kernel
theorem dX10_readInstruction_109 : decode cX10_readInstruction 109 = .ok (.aload_n 0, 1) := by decide +kernel
theorem dX10_readInstruction_110 : decode cX10_readInstruction 110 = .ok (.aload_n 0, 1) := by decide +kernel
theorem dX10_readInstruction_111 : decode cX10_readInstruction 111 = .ok (.getfield 26, 3) := by decide +kernel
theorem dX10_readInstruction_114 : decode cX10_readInstruction 114 = .ok (.invokevirtual 43, 3) := by decide +kernel
theorem dX10_readInstruction_117 : decode cX10_readInstruction 117 = .ok (.ireturn, 1) := by decide +kernel
theorem dX10_readInstruction_118 : decode cX10_readInstruction 118 = .ok (.aload_n 0, 1) := by decide +kernel
theorem dX10_readInstruction_119 : decode cX10_readInstruction 119 = .ok (.invokevirtual 29, 3) := by decide +kernel
theorem dX10_readInstruction_122 : decode cX10_readInstruction 122 = .ok (.aload_n 0, 1) := by decide +kernel
theorem dX10_readInstruction_123 : decode cX10_readInstruction 123 = .ok (.iload_n 1, 1) := by decide +kernel
theorem dX10_readInstruction_124 : decode cX10_readInstruction 124 = .ok (.iconst 1, 1) := by decide +kernel
theorem dX10_readInstruction_125 : decode cX10_readInstruction 125 = .ok (.iadd, 1) := by decide +kernel
theorem dX10_readInstruction_126 : decode cX10_readInstruction 126 = .ok (.iload 5, 2) := by decide +kernel
theorem dX10_readInstruction_128 : decode cX10_readInstruction 128 = .ok (.iadd, 1) := by decide +kernel
theorem dX10_readInstruction_129 : decode cX10_readInstruction 129 = .ok (.aload 4, 2) := by decide +kernel
theorem dX10_readInstruction_131 : decode cX10_readInstruction 131 = .ok (.iload 5, 2) := by decide +kernel
theorem dX10_readInstruction_133 : decode cX10_readInstruction 133 = .ok (.invokevirtual 68, 3) := by decide +kernel
theorem dX10_readInstruction_136 : decode cX10_readInstruction 136 = .ok (.invokevirtual 72, 3) := by decide +kernel
theorem dX10_readInstruction_139 : decode cX10_readInstruction 139 = .ok (.ifCond .ne 5, 3) := by decide +kernel
theorem dX10_readInstruction_142 : decode cX10_readInstruction 142 = .ok (.iconst 0, 1) := by decide +kernel
theorem dX10_readInstruction_143 : decode cX10_readInstruction 143 = .ok (.ireturn, 1) := by decide +kernel
theorem dX10_readInstruction_144 : decode cX10_readInstruction 144 = .ok (.iinc 5 1, 3) := by decide +kernel
theorem dX10_readInstruction_147 : decode cX10_readInstruction 147 = .ok (.goto (-57), 3) := by decide +kernel
theorem dX10_readInstruction_150 : decode cX10_readInstruction 150 = .ok (.iconst 1, 1) := by decide +kernel
theorem dX10_readInstruction_151 : decode cX10_readInstruction 151 = .ok (.ireturn, 1) := by decide +kernel
theorem dX10_readNumber_0 : decode cX10_readNumber 0 = .ok (.aload_n 0, 1) := by decide +kernel
theorem dX10_readNumber_1 : decode cX10_readNumber 1 = .ok (.getfield 26, 3) := by decide +kernel
theorem dX10_readNumber_4 : decode cX10_readNumber 4 = .ok (.istore_n 3, 1) := by decide +kernel
theorem dX10_readNumber_5 : decode cX10_readNumber 5 = .ok (.aload_n 0, 1) := by decide +kernel
theorem dX10_readNumber_6 : decode cX10_readNumber 6 = .ok (.invokevirtual 39, 3) := by decide +kernel
theorem dX10_readNumber_9 : decode cX10_readNumber 9 = .ok (.bipush 45, 2) := by decide +kernel
theorem dX10_readNumber_11 : decode cX10_readNumber 11 = .ok (.if_icmp .ne 7, 3) := by decide +kernel
theorem dX10_readNumber_14 : decode cX10_readNumber 14 = .ok (.iconst 1, 1) := by decide +kernel
theorem dX10_readNumber_15 : decode cX10_readNumber 15 = .ok (.goto 4, 3) := by decide +kernel
theorem dX10_readNumber_18 : decode cX10_readNumber 18 = .ok (.iconst 0, 1) := by decide +kernel
theorem dX10_readNumber_19 : decode cX10_readNumber 19 = .ok (.istore 4, 2) := by decide +kernel
theorem dX10_readNumber_21 : decode cX10_readNumber 21 = .ok (.iload 4, 2) := by decide +kernel
theorem dX10_readNumber_23 : decode cX10_readNumber 23 = .ok (.ifCond .eq 13, 3) := by decide +kernel
theorem dX10_readNumber_26 : decode cX10_readNumber 26 = .ok (.aload_n 0, 1) := by decide +kernel
theorem dX10_readNumber_27 : decode cX10_readNumber 27 = .ok (.dup, 1) := by decide +kernel
theorem dX10_readNumber_28 : decode cX10_readNumber 28 = .ok (.getfield 26, 3) := by decide +kernel
theorem dX10_readNumber_31 : decode cX10_readNumber 31 = .ok (.iconst 1, 1) := by decide +kernel
theorem dX10_readNumber_32 : decode cX10_readNumber 32 = .ok (.iadd, 1) := by decide +kernel
theorem dX10_readNumber_33 : decode cX10_readNumber 33 = .ok (.putfield 26, 3) := by decide +kernel
theorem dX10_readNumber_36 : decode cX10_readNumber 36 = .ok (.aload_n 0, 1) := by decide +kernel
theorem dX10_readNumber_37 : decode cX10_readNumber 37 = .ok (.getfield 26, 3) := by decide +kernel
theorem dX10_readNumber_40 : decode cX10_readNumber 40 = .ok (.istore 5, 2) := by decide +kernel
theorem dX10_readNumber_42 : decode cX10_readNumber 42 = .ok (.iconst 0, 1) := by decide +kernel
theorem dX10_readNumber_43 : decode cX10_readNumber 43 = .ok (.istore 6, 2) := by decide +kernel
theorem dX10_readNumber_45 : decode cX10_readNumber 45 = .ok (.aload_n 0, 1) := by decide +kernel
theorem dX10_readNumber_46 : decode cX10_readNumber 46 = .ok (.getfield 26, 3) := by decide +kernel
theorem dX10_readNumber_49 : decode cX10_readNumber 49 = .ok (.iload 5, 2) := by decide +kernel
theorem dX10_readNumber_51 : decode cX10_readNumber 51 = .ok (.isub, 1) := by decide +kernel
theorem dX10_readNumber_52 : decode cX10_readNumber 52 = .ok (.bipush 9, 2) := by decide +kernel
theorem dX10_readNumber_54 : decode cX10_readNumber 54 = .ok (.if_icmp .ge 49, 3) := by decide +kernel
theorem dX10_readNumber_57 : decode cX10_readNumber 57 = .ok (.aload_n 0, 1) := by decide +kernel
theorem dX10_readNumber_58 : decode cX10_readNumber 58 = .ok (.invokevirtual 39, 3) := by decide +kernel
theorem dX10_readNumber_61 : decode cX10_readNumber 61 = .ok (.bipush 48, 2) := by decide +kernel
theorem dX10_readNumber_63 : decode cX10_readNumber 63 = .ok (.if_icmp .lt 40, 3) := by decide +kernel
theorem dX10_readNumber_66 : decode cX10_readNumber 66 = .ok (.aload_n 0, 1) := by decide +kernel
theorem dX10_readNumber_67 : decode cX10_readNumber 67 = .ok (.invokevirtual 39, 3) := by decide +kernel
theorem dX10_readNumber_70 : decode cX10_readNumber 70 = .ok (.bipush 57, 2) := by decide +kernel
theorem dX10_readNumber_72 : decode cX10_readNumber 72 = .ok (.if_icmp .gt 31, 3) := by decide +kernel
theorem dX10_readNumber_75 : decode cX10_readNumber 75 = .ok (.iload 6, 2) := by decide +kernel
theorem dX10_readNumber_77 : decode cX10_readNumber 77 = .ok (.bipush 10, 2) := by decide +kernel
theorem dX10_readNumber_79 : decode cX10_readNumber 79 = .ok (.imul, 1) := by decide +kernel
theorem dX10_readNumber_80 : decode cX10_readNumber 80 = .ok (.aload_n 0, 1) := by decide +kernel
theorem dX10_readNumber_81 : decode cX10_readNumber 81 = .ok (.invokevirtual 39, 3) := by decide +kernel
theorem dX10_readNumber_84 : decode cX10_readNumber 84 = .ok (.bipush 48, 2) := by decide +kernel
theorem dX10_readNumber_86 : decode cX10_readNumber 86 = .ok (.isub, 1) := by decide +kernel
theorem dX10_readNumber_87 : decode cX10_readNumber 87 = .ok (.iadd, 1) := by decide +kernel
theorem dX10_readNumber_88 : decode cX10_readNumber 88 = .ok (.istore 6, 2) := by decide +kernel
theorem dX10_readNumber_90 : decode cX10_readNumber 90 = .ok (.aload_n 0, 1) := by decide +kernel
theorem dX10_readNumber_91 : decode cX10_readNumber 91 = .ok (.dup, 1) := by decide +kernel
theorem dX10_readNumber_92 : decode cX10_readNumber 92 = .ok (.getfield 26, 3) := by decide +kernel
theorem dX10_readNumber_95 : decode cX10_readNumber 95 = .ok (.iconst 1, 1) := by decide +kernel
theorem dX10_readNumber_96 : decode cX10_readNumber 96 = .ok (.iadd, 1) := by decide +kernel
theorem dX10_readNumber_97 : decode cX10_readNumber 97 = .ok (.putfield 26, 3) := by decide +kernel
theorem dX10_readNumber_100 : decode cX10_readNumber 100 = .ok (.goto (-55), 3) := by decide +kernel
theorem dX10_readNumber_103 : decode cX10_readNumber 103 = .ok (.aload_n 0, 1) := by decide +kernel
theorem dX10_readNumber_104 : decode cX10_readNumber 104 = .ok (.getfield 26, 3) := by decide +kernel
theorem dX10_readNumber_107 : decode cX10_readNumber 107 = .ok (.iload 5, 2) := by decide +kernel
theorem dX10_readNumber_109 : decode cX10_readNumber 109 = .ok (.if_icmp .ne 12, 3) := by decide +kernel
theorem dX10_readNumber_112 : decode cX10_readNumber 112 = .ok (.aload_n 0, 1) := by decide +kernel
theorem dX10_readNumber_113 : decode cX10_readNumber 113 = .ok (.aload_n 0, 1) := by decide +kernel
theorem dX10_readNumber_114 : decode cX10_readNumber 114 = .ok (.getfield 26, 3) := by decide +kernel
theorem dX10_readNumber_117 : decode cX10_readNumber 117 = .ok (.invokevirtual 43, 3) := by decide +kernel
theorem dX10_readNumber_120 : decode cX10_readNumber 120 = .ok (.ireturn, 1) := by decide +kernel
theorem dX10_readNumber_121 : decode cX10_readNumber 121 = .ok (.iload 4, 2) := by decide +kernel
theorem dX10_readNumber_123 : decode cX10_readNumber 123 = .ok (.ifCond .eq 9, 3) := by decide +kernel
theorem dX10_readNumber_126 : decode cX10_readNumber 126 = .ok (.iload 6, 2) := by decide +kernel
theorem dX10_readNumber_128 : decode cX10_readNumber 128 = .ok (.ineg, 1) := by decide +kernel
theorem dX10_readNumber_129 : decode cX10_readNumber 129 = .ok (.goto 5, 3) := by decide +kernel
theorem dX10_readNumber_132 : decode cX10_readNumber 132 = .ok (.iload 6, 2) := by decide +kernel
theorem dX10_readNumber_134 : decode cX10_readNumber 134 = .ok (.istore 6, 2) := by decide +kernel
theorem dX10_readNumber_136 : decode cX10_readNumber 136 = .ok (.iload_n 2, 1) := by decide +kernel
theorem dX10_readNumber_137 : decode cX10_readNumber 137 = .ok (.iload 6, 2) := by decide +kernel
theorem dX10_readNumber_139 : decode cX10_readNumber 139 = .ok (.invokestatic 76, 3) := by decide +kernel
theorem dX10_readNumber_142 : decode cX10_readNumber 142 = .ok (.ifCond .ne 9, 3) := by decide +kernel
theorem dX10_readNumber_145 : decode cX10_readNumber 145 = .ok (.aload_n 0, 1) := by decide +kernel
theorem dX10_readNumber_146 : decode cX10_readNumber 146 = .ok (.iload_n 3, 1) := by decide +kernel
theorem dX10_readNumber_147 : decode cX10_readNumber 147 = .ok (.invokevirtual 43, 3) := by decide +kernel
theorem dX10_readNumber_150 : decode cX10_readNumber 150 = .ok (.ireturn, 1) := by decide +kernel
theorem dX10_readNumber_151 : decode cX10_readNumber 151 = .ok (.aload_n 0, 1) := by decide +kernel
theorem dX10_readNumber_152 : decode cX10_readNumber 152 = .ok (.iload_n 1, 1) := by decide +kernel
theorem dX10_readNumber_153 : decode cX10_readNumber 153 = .ok (.iload 6, 2) := by decide +kernel
theorem dX10_readNumber_155 : decode cX10_readNumber 155 = .ok (.invokevirtual 54, 3) := by decide +kernel
theorem dX10_readNumber_158 : decode cX10_readNumber 158 = .ok (.iconst 1, 1) := by decide +kernel
theorem dX10_readNumber_159 : decode cX10_readNumber 159 = .ok (.ireturn, 1) := by decide +kernel
theorem dX10_inRange_0 : decode cX10_inRange 0 = .ok (.iload_n 0, 1) := by decide +kernel
theorem dX10_inRange_1 : decode cX10_inRange 1 = .ok (.bipush 111, 2) := by decide +kernel
theorem dX10_inRange_3 : decode cX10_inRange 3 = .ok (.if_icmp .ne 19, 3) := by decide +kernel
theorem dX10_inRange_6 : decode cX10_inRange 6 = .ok (.iload_n 1, 1) := by decide +kernel
theorem dX10_inRange_7 : decode cX10_inRange 7 = .ok (.ifCond .lt 13, 3) := by decide +kernel
theorem dX10_inRange_10 : decode cX10_inRange 10 = .ok (.iload_n 1, 1) := by decide +kernel
theorem dX10_inRange_11 : decode cX10_inRange 11 = .ok (.bipush 24, 2) := by decide +kernel
theorem dX10_inRange_13 : decode cX10_inRange 13 = .ok (.if_icmp .ge 7, 3) := by decide +kernel
theorem dX10_inRange_16 : decode cX10_inRange 16 = .ok (.iconst 1, 1) := by decide +kernel
theorem dX10_inRange_17 : decode cX10_inRange 17 = .ok (.goto 4, 3) := by decide +kernel
theorem dX10_inRange_20 : decode cX10_inRange 20 = .ok (.iconst 0, 1) := by decide +kernel
theorem dX10_inRange_21 : decode cX10_inRange 21 = .ok (.ireturn, 1) := by decide +kernel
theorem dX10_inRange_22 : decode cX10_inRange 22 = .ok (.iload_n 0, 1) := by decide +kernel
theorem dX10_inRange_23 : decode cX10_inRange 23 = .ok (.bipush 107, 2) := by decide +kernel
theorem dX10_inRange_25 : decode cX10_inRange 25 = .ok (.if_icmp .ne 19, 3) := by decide +kernel
theorem dX10_inRange_28 : decode cX10_inRange 28 = .ok (.iload_n 1, 1) := by decide +kernel
theorem dX10_inRange_29 : decode cX10_inRange 29 = .ok (.ifCond .lt 13, 3) := by decide +kernel
theorem dX10_inRange_32 : decode cX10_inRange 32 = .ok (.iload_n 1, 1) := by decide +kernel
theorem dX10_inRange_33 : decode cX10_inRange 33 = .ok (.bipush 60, 2) := by decide +kernel
theorem dX10_inRange_35 : decode cX10_inRange 35 = .ok (.if_icmp .ge 7, 3) := by decide +kernel
theorem dX10_inRange_38 : decode cX10_inRange 38 = .ok (.iconst 1, 1) := by decide +kernel
theorem dX10_inRange_39 : decode cX10_inRange 39 = .ok (.goto 4, 3) := by decide +kernel
theorem dX10_inRange_42 : decode cX10_inRange 42 = .ok (.iconst 0, 1) := by decide +kernel
theorem dX10_inRange_43 : decode cX10_inRange 43 = .ok (.ireturn, 1) := by decide +kernel
theorem dX10_inRange_44 : decode cX10_inRange 44 = .ok (.iload_n 0, 1) := by decide +kernel
theorem dX10_inRange_45 : decode cX10_inRange 45 = .ok (.bipush 112, 2) := by decide +kernel
theorem dX10_inRange_47 : decode cX10_inRange 47 = .ok (.if_icmp .ne 8, 3) := by decide +kernel
theorem dX10_inRange_50 : decode cX10_inRange 50 = .ok (.iload_n 1, 1) := by decide +kernel
theorem dX10_inRange_51 : decode cX10_inRange 51 = .ok (.iconst 1, 1) := by decide +kernel
theorem dX10_inRange_52 : decode cX10_inRange 52 = .ok (.if_icmp .lt 7, 3) := by decide +kernel
theorem dX10_inRange_55 : decode cX10_inRange 55 = .ok (.iconst 1, 1) := by decide +kernel
theorem dX10_inRange_56 : decode cX10_inRange 56 = .ok (.goto 4, 3) := by decide +kernel
theorem dX10_inRange_59 : decode cX10_inRange 59 = .ok (.iconst 0, 1) := by decide +kernel
theorem dX10_inRange_60 : decode cX10_inRange 60 = .ok (.ireturn, 1) := by decide +kernel
theorem dX10_wordAt_0 : decode cX10_wordAt 0 = .ok (.iconst 0, 1) := by decide +kernel
theorem dX10_wordAt_1 : decode cX10_wordAt 1 = .ok (.istore_n 2, 1) := by decide +kernel
theorem dX10_wordAt_2 : decode cX10_wordAt 2 = .ok (.iload_n 2, 1) := by decide +kernel
theorem dX10_wordAt_3 : decode cX10_wordAt 3 = .ok (.getstatic 50, 3) := by decide +kernel
theorem dX10_wordAt_6 : decode cX10_wordAt 6 = .ok (.arraylength, 1) := by decide +kernel
theorem dX10_wordAt_7 : decode cX10_wordAt 7 = .ok (.if_icmp .ge 27, 3) := by decide +kernel
theorem dX10_wordAt_10 : decode cX10_wordAt 10 = .ok (.aload_n 0, 1) := by decide +kernel
theorem dX10_wordAt_11 : decode cX10_wordAt 11 = .ok (.iload_n 1, 1) := by decide +kernel
theorem dX10_wordAt_12 : decode cX10_wordAt 12 = .ok (.getstatic 50, 3) := by decide +kernel
theorem dX10_wordAt_15 : decode cX10_wordAt 15 = .ok (.iload_n 2, 1) := by decide +kernel
theorem dX10_wordAt_16 : decode cX10_wordAt 16 = .ok (.aaload, 1) := by decide +kernel
theorem dX10_wordAt_17 : decode cX10_wordAt 17 = .ok (.getfield 80, 3) := by decide +kernel
theorem dX10_wordAt_20 : decode cX10_wordAt 20 = .ok (.invokevirtual 83, 3) := by decide +kernel
theorem dX10_wordAt_23 : decode cX10_wordAt 23 = .ok (.ifCond .eq 5, 3) := by decide +kernel
theorem dX10_wordAt_26 : decode cX10_wordAt 26 = .ok (.iload_n 2, 1) := by decide +kernel
theorem dX10_wordAt_27 : decode cX10_wordAt 27 = .ok (.ireturn, 1) := by decide +kernel
theorem dX10_wordAt_28 : decode cX10_wordAt 28 = .ok (.iinc 2 1, 3) := by decide +kernel
theorem dX10_wordAt_31 : decode cX10_wordAt 31 = .ok (.goto (-29), 3) := by decide +kernel
theorem dX10_wordAt_34 : decode cX10_wordAt 34 = .ok (.iconst (-1), 1) := by decide +kernel
theorem dX10_wordAt_35 : decode cX10_wordAt 35 = .ok (.ireturn, 1) := by decide +kernel
theorem dX10_isText_0 : decode cX10_isText 0 = .ok (.aload_n 0, 1) := by decide +kernel
theorem dX10_isText_1 : decode cX10_isText 1 = .ok (.getfield 26, 3) := by decide +kernel
theorem dX10_isText_4 : decode cX10_isText 4 = .ok (.iload_n 1, 1) := by decide +kernel
theorem dX10_isText_5 : decode cX10_isText 5 = .ok (.isub, 1) := by decide +kernel
theorem dX10_isText_6 : decode cX10_isText 6 = .ok (.aload_n 2, 1) := by decide +kernel
theorem dX10_isText_7 : decode cX10_isText 7 = .ok (.invokevirtual 64, 3) := by decide +kernel
theorem dX10_isText_10 : decode cX10_isText 10 = .ok (.if_icmp .ne 19, 3) := by decide +kernel
theorem dX10_isText_13 : decode cX10_isText 13 = .ok (.iload_n 1, 1) := by decide +kernel
theorem dX10_isText_14 : decode cX10_isText 14 = .ok (.ifCond .lt 15, 3) := by decide +kernel
theorem dX10_isText_17 : decode cX10_isText 17 = .ok (.aload_n 0, 1) := by decide +kernel
theorem dX10_isText_18 : decode cX10_isText 18 = .ok (.getfield 26, 3) := by decide +kernel
theorem dX10_isText_21 : decode cX10_isText 21 = .ok (.aload_n 0, 1) := by decide +kernel
theorem dX10_isText_22 : decode cX10_isText 22 = .ok (.getfield 19, 3) := by decide +kernel
theorem dX10_isText_25 : decode cX10_isText 25 = .ok (.arraylength, 1) := by decide +kernel
theorem dX10_isText_26 : decode cX10_isText 26 = .ok (.if_icmp .le 5, 3) := by decide +kernel
theorem dX10_isText_29 : decode cX10_isText 29 = .ok (.iconst 0, 1) := by decide +kernel
theorem dX10_isText_30 : decode cX10_isText 30 = .ok (.ireturn, 1) := by decide +kernel
theorem dX10_isText_31 : decode cX10_isText 31 = .ok (.iconst 0, 1) := by decide +kernel
theorem dX10_isText_32 : decode cX10_isText 32 = .ok (.istore_n 3, 1) := by decide +kernel
theorem dX10_isText_33 : decode cX10_isText 33 = .ok (.iload_n 3, 1) := by decide +kernel
theorem dX10_isText_34 : decode cX10_isText 34 = .ok (.aload_n 2, 1) := by decide +kernel
theorem dX10_isText_35 : decode cX10_isText 35 = .ok (.invokevirtual 64, 3) := by decide +kernel
theorem dX10_isText_38 : decode cX10_isText 38 = .ok (.if_icmp .ge 27, 3) := by decide +kernel
theorem dX10_isText_41 : decode cX10_isText 41 = .ok (.aload_n 0, 1) := by decide +kernel
theorem dX10_isText_42 : decode cX10_isText 42 = .ok (.getfield 19, 3) := by decide +kernel
theorem dX10_isText_45 : decode cX10_isText 45 = .ok (.iload_n 1, 1) := by decide +kernel
theorem dX10_isText_46 : decode cX10_isText 46 = .ok (.iload_n 3, 1) := by decide +kernel
theorem dX10_isText_47 : decode cX10_isText 47 = .ok (.iadd, 1) := by decide +kernel
theorem dX10_isText_48 : decode cX10_isText 48 = .ok (.baload, 1) := by decide +kernel
theorem dX10_isText_49 : decode cX10_isText 49 = .ok (.aload_n 2, 1) := by decide +kernel
theorem dX10_isText_50 : decode cX10_isText 50 = .ok (.iload_n 3, 1) := by decide +kernel
theorem dX10_isText_51 : decode cX10_isText 51 = .ok (.invokevirtual 68, 3) := by decide +kernel
theorem dX10_isText_54 : decode cX10_isText 54 = .ok (.if_icmp .eq 5, 3) := by decide +kernel
theorem dX10_isText_57 : decode cX10_isText 57 = .ok (.iconst 0, 1) := by decide +kernel
theorem dX10_isText_58 : decode cX10_isText 58 = .ok (.ireturn, 1) := by decide +kernel
theorem dX10_isText_59 : decode cX10_isText 59 = .ok (.iinc 3 1, 3) := by decide +kernel
theorem dX10_isText_62 : decode cX10_isText 62 = .ok (.goto (-29), 3) := by decide +kernel
theorem dX10_isText_65 : decode cX10_isText 65 = .ok (.iconst 1, 1) := by decide +kernel
theorem dX10_isText_66 : decode cX10_isText 66 = .ok (.ireturn, 1) := by decide +kernel
theorem dX10_skipBlanks_0 : decode cX10_skipBlanks 0 = .ok (.aload_n 0, 1) := by decide +kernel
theorem dX10_skipBlanks_1 : decode cX10_skipBlanks 1 = .ok (.getfield 26, 3) := by decide +kernel
theorem dX10_skipBlanks_4 : decode cX10_skipBlanks 4 = .ok (.aload_n 0, 1) := by decide +kernel
theorem dX10_skipBlanks_5 : decode cX10_skipBlanks 5 = .ok (.getfield 23, 3) := by decide +kernel
theorem dX10_skipBlanks_8 : decode cX10_skipBlanks 8 = .ok (.if_icmp .ge 25, 3) := by decide +kernel
theorem dX10_skipBlanks_11 : decode cX10_skipBlanks 11 = .ok (.aload_n 0, 1) := by decide +kernel
theorem dX10_skipBlanks_12 : decode cX10_skipBlanks 12 = .ok (.invokevirtual 39, 3) := by decide +kernel
theorem dX10_skipBlanks_15 : decode cX10_skipBlanks 15 = .ok (.bipush 32, 2) := by decide +kernel
theorem dX10_skipBlanks_17 : decode cX10_skipBlanks 17 = .ok (.if_icmp .ne 16, 3) := by decide +kernel
theorem dX10_skipBlanks_20 : decode cX10_skipBlanks 20 = .ok (.aload_n 0, 1) := by decide +kernel
theorem dX10_skipBlanks_21 : decode cX10_skipBlanks 21 = .ok (.dup, 1) := by decide +kernel
theorem dX10_skipBlanks_22 : decode cX10_skipBlanks 22 = .ok (.getfield 26, 3) := by decide +kernel
theorem dX10_skipBlanks_25 : decode cX10_skipBlanks 25 = .ok (.iconst 1, 1) := by decide +kernel
theorem dX10_skipBlanks_26 : decode cX10_skipBlanks 26 = .ok (.iadd, 1) := by decide +kernel
theorem dX10_skipBlanks_27 : decode cX10_skipBlanks 27 = .ok (.putfield 26, 3) := by decide +kernel
theorem dX10_skipBlanks_30 : decode cX10_skipBlanks 30 = .ok (.goto (-30), 3) := by decide +kernel
theorem dX10_skipBlanks_33 : decode cX10_skipBlanks 33 = .ok (.return_, 1) := by decide +kernel
theorem dX10_here_0 : decode cX10_here 0 = .ok (.aload_n 0, 1) := by decide +kernel
theorem dX10_here_1 : decode cX10_here 1 = .ok (.getfield 26, 3) := by decide +kernel
theorem dX10_here_4 : decode cX10_here 4 = .ok (.ifCond .lt 38, 3) := by decide +kernel
theorem dX10_here_7 : decode cX10_here 7 = .ok (.aload_n 0, 1) := by decide +kernel
theorem dX10_here_8 : decode cX10_here 8 = .ok (.getfield 26, 3) := by decide +kernel
theorem dX10_here_11 : decode cX10_here 11 = .ok (.aload_n 0, 1) := by decide +kernel
theorem dX10_here_12 : decode cX10_here 12 = .ok (.getfield 23, 3) := by decide +kernel
theorem dX10_here_15 : decode cX10_here 15 = .ok (.if_icmp .ge 27, 3) := by decide +kernel
theorem dX10_here_18 : decode cX10_here 18 = .ok (.aload_n 0, 1) := by decide +kernel
theorem dX10_here_19 : decode cX10_here 19 = .ok (.getfield 26, 3) := by decide +kernel
theorem dX10_here_22 : decode cX10_here 22 = .ok (.aload_n 0, 1) := by decide +kernel
theorem dX10_here_23 : decode cX10_here 23 = .ok (.getfield 19, 3) := by decide +kernel
theorem dX10_here_26 : decode cX10_here 26 = .ok (.arraylength, 1) := by decide +kernel
theorem dX10_here_27 : decode cX10_here 27 = .ok (.if_icmp .ge 15, 3) := by decide +kernel
theorem dX10_here_30 : decode cX10_here 30 = .ok (.aload_n 0, 1) := by decide +kernel
theorem dX10_here_31 : decode cX10_here 31 = .ok (.getfield 19, 3) := by decide +kernel
theorem dX10_here_34 : decode cX10_here 34 = .ok (.aload_n 0, 1) := by decide +kernel
theorem dX10_here_35 : decode cX10_here 35 = .ok (.getfield 26, 3) := by decide +kernel
theorem dX10_here_38 : decode cX10_here 38 = .ok (.baload, 1) := by decide +kernel
theorem dX10_here_39 : decode cX10_here 39 = .ok (.goto 4, 3) := by decide +kernel
theorem dX10_here_42 : decode cX10_here 42 = .ok (.iconst (-1), 1) := by decide +kernel
theorem dX10_here_43 : decode cX10_here 43 = .ok (.ireturn, 1) := by decide +kernel
theorem dX10_store_0 : decode cX10_store 0 = .ok (.iload_n 1, 1) := by decide +kernel
theorem dX10_store_1 : decode cX10_store 1 = .ok (.ifCond .lt 19, 3) := by decide +kernel
theorem dX10_store_4 : decode cX10_store 4 = .ok (.iload_n 1, 1) := by decide +kernel
theorem dX10_store_5 : decode cX10_store 5 = .ok (.aload_n 0, 1) := by decide +kernel
theorem dX10_store_6 : decode cX10_store 6 = .ok (.getfield 9, 3) := by decide +kernel
theorem dX10_store_9 : decode cX10_store 9 = .ok (.arraylength, 1) := by decide +kernel
theorem dX10_store_10 : decode cX10_store 10 = .ok (.if_icmp .ge 10, 3) := by decide +kernel
theorem dX10_store_13 : decode cX10_store 13 = .ok (.aload_n 0, 1) := by decide +kernel
theorem dX10_store_14 : decode cX10_store 14 = .ok (.getfield 9, 3) := by decide +kernel
theorem dX10_store_17 : decode cX10_store 17 = .ok (.iload_n 1, 1) := by decide +kernel
theorem dX10_store_18 : decode cX10_store 18 = .ok (.iload_n 2, 1) := by decide +kernel
theorem dX10_store_19 : decode cX10_store 19 = .ok (.iastore, 1) := by decide +kernel
theorem dX10_store_20 : decode cX10_store 20 = .ok (.return_, 1) := by decide +kernel
theorem dX10_broken_0 : decode cX10_broken 0 = .ok (.aload_n 0, 1) := by decide +kernel
theorem dX10_broken_1 : decode cX10_broken 1 = .ok (.iload_n 1, 1) := by decide +kernel
theorem dX10_broken_2 : decode cX10_broken 2 = .ok (.putfield 15, 3) := by decide +kernel
theorem dX10_broken_5 : decode cX10_broken 5 = .ok (.iconst 0, 1) := by decide +kernel
theorem dX10_broken_6 : decode cX10_broken 6 = .ok (.ireturn, 1) := by decide +kernel
theorem dX12_init_0 : decode cX12_init 0 = .ok (.aload_n 0, 1) := by decide +kernel
theorem dX12_init_1 : decode cX12_init 1 = .ok (.invokespecial 1, 3) := by decide +kernel
theorem dX12_init_4 : decode cX12_init 4 = .ok (.aload_n 0, 1) := by decide +kernel
theorem dX12_init_5 : decode cX12_init 5 = .ok (.new 7, 3) := by decide +kernel
theorem dX12_init_8 : decode cX12_init 8 = .ok (.dup, 1) := by decide +kernel
theorem dX12_init_9 : decode cX12_init 9 = .ok (.invokespecial 9, 3) := by decide +kernel
theorem dX12_init_12 : decode cX12_init 12 = .ok (.putfield 10, 3) := by decide +kernel
theorem dX12_init_15 : decode cX12_init 15 = .ok (.aload_n 0, 1) := by decide +kernel
theorem dX12_init_16 : decode cX12_init 16 = .ok (.bipush 24, 2) := by decide +kernel
theorem dX12_init_18 : decode cX12_init 18 = .ok (.anewarray 16, 3) := by decide +kernel
theorem dX12_init_21 : decode cX12_init 21 = .ok (.putfield 18, 3) := by decide +kernel
theorem dX12_init_24 : decode cX12_init 24 = .ok (.aload_n 0, 1) := by decide +kernel
theorem dX12_init_25 : decode cX12_init 25 = .ok (.bipush 8, 2) := by decide +kernel
theorem dX12_init_27 : decode cX12_init 27 = .ok (.anewarray 22, 3) := by decide +kernel
theorem dX12_init_30 : decode cX12_init 30 = .ok (.putfield 24, 3) := by decide +kernel
theorem dX12_init_33 : decode cX12_init 33 = .ok (.aload_n 0, 1) := by decide +kernel
theorem dX12_init_34 : decode cX12_init 34 = .ok (.bipush 7, 2) := by decide +kernel
theorem dX12_init_36 : decode cX12_init 36 = .ok (.putfield 28, 3) := by decide +kernel
theorem dX12_init_39 : decode cX12_init 39 = .ok (.iconst 0, 1) := by decide +kernel
theorem dX12_init_40 : decode cX12_init 40 = .ok (.istore_n 1, 1) := by decide +kernel
theorem dX12_init_41 : decode cX12_init 41 = .ok (.iload_n 1, 1) := by decide +kernel
theorem dX12_init_42 : decode cX12_init 42 = .ok (.bipush 8, 2) := by decide +kernel
theorem dX12_init_44 : decode cX12_init 44 = .ok (.if_icmp .ge 23, 3) := by decide +kernel
theorem dX12_init_47 : decode cX12_init 47 = .ok (.aload_n 0, 1) := by decide +kernel
theorem dX12_init_48 : decode cX12_init 48 = .ok (.getfield 24, 3) := by decide +kernel
theorem dX12_init_51 : decode cX12_init 51 = .ok (.iload_n 1, 1) := by decide +kernel
theorem dX12_init_52 : decode cX12_init 52 = .ok (.new 22, 3) := by decide +kernel
theorem dX12_init_55 : decode cX12_init 55 = .ok (.dup, 1) := by decide +kernel
theorem dX12_init_56 : decode cX12_init 56 = .ok (.iload_n 1, 1) := by decide +kernel
theorem dX12_init_57 : decode cX12_init 57 = .ok (.invokespecial 32, 3) := by decide +kernel
theorem dX12_init_60 : decode cX12_init 60 = .ok (.aastore, 1) := by decide +kernel
theorem dX12_init_61 : decode cX12_init 61 = .ok (.iinc 1 1, 3) := by decide +kernel
theorem dX12_init_64 : decode cX12_init 64 = .ok (.goto (-23), 3) := by decide +kernel
theorem dX12_init_67 : decode cX12_init 67 = .ok (.return_, 1) := by decide +kernel
theorem dX12_feed_0 : decode cX12_feed 0 = .ok (.aload_n 0, 1) := by decide +kernel
theorem dX12_feed_1 : decode cX12_feed 1 = .ok (.getfield 10, 3) := by decide +kernel
theorem dX12_feed_4 : decode cX12_feed 4 = .ok (.getfield 35, 3) := by decide +kernel
theorem dX12_feed_7 : decode cX12_feed 7 = .ok (.bipush 20, 2) := by decide +kernel
theorem dX12_feed_9 : decode cX12_feed 9 = .ok (.iadd, 1) := by decide +kernel
theorem dX12_feed_10 : decode cX12_feed 10 = .ok (.sipush 1600, 3) := by decide +kernel
theorem dX12_feed_13 : decode cX12_feed 13 = .ok (.if_icmp .le 13, 3) := by decide +kernel
theorem dX12_feed_16 : decode cX12_feed 16 = .ok (.new 38, 3) := by decide +kernel
theorem dX12_feed_19 : decode cX12_feed 19 = .ok (.dup, 1) := by decide +kernel
theorem dX12_feed_20 : decode cX12_feed 20 = .ok (.ldc 40, 2) := by decide +kernel
theorem dX12_feed_22 : decode cX12_feed 22 = .ok (.invokespecial 42, 3) := by decide +kernel
theorem dX12_feed_25 : decode cX12_feed 25 = .ok (.athrow, 1) := by decide +kernel
theorem dX12_feed_26 : decode cX12_feed 26 = .ok (.aload_n 0, 1) := by decide +kernel
theorem dX12_feed_27 : decode cX12_feed 27 = .ok (.getfield 10, 3) := by decide +kernel
theorem dX12_feed_30 : decode cX12_feed 30 = .ok (.iload_n 1, 1) := by decide +kernel
theorem dX12_feed_31 : decode cX12_feed 31 = .ok (.invokevirtual 45, 3) := by decide +kernel
theorem dX12_feed_34 : decode cX12_feed 34 = .ok (.aload_n 0, 1) := by decide +kernel
theorem dX12_feed_35 : decode cX12_feed 35 = .ok (.getfield 10, 3) := by decide +kernel
theorem dX12_feed_38 : decode cX12_feed 38 = .ok (.iload_n 2, 1) := by decide +kernel
theorem dX12_feed_39 : decode cX12_feed 39 = .ok (.invokevirtual 45, 3) := by decide +kernel
theorem dX12_feed_42 : decode cX12_feed 42 = .ok (.aload_n 0, 1) := by decide +kernel
theorem dX12_feed_43 : decode cX12_feed 43 = .ok (.getfield 10, 3) := by decide +kernel
theorem dX12_feed_46 : decode cX12_feed 46 = .ok (.iload_n 3, 1) := by decide +kernel
theorem dX12_feed_47 : decode cX12_feed 47 = .ok (.invokevirtual 45, 3) := by decide +kernel
theorem dX12_feed_50 : decode cX12_feed 50 = .ok (.aload_n 0, 1) := by decide +kernel
theorem dX12_feed_51 : decode cX12_feed 51 = .ok (.getfield 10, 3) := by decide +kernel
theorem dX12_feed_54 : decode cX12_feed 54 = .ok (.iload 4, 2) := by decide +kernel
theorem dX12_feed_56 : decode cX12_feed 56 = .ok (.invokevirtual 45, 3) := by decide +kernel
theorem dX12_feed_59 : decode cX12_feed 59 = .ok (.aload_n 0, 1) := by decide +kernel
theorem dX12_feed_60 : decode cX12_feed 60 = .ok (.getfield 10, 3) := by decide +kernel
theorem dX12_feed_63 : decode cX12_feed 63 = .ok (.iload 5, 2) := by decide +kernel
theorem dX12_feed_65 : decode cX12_feed 65 = .ok (.invokevirtual 45, 3) := by decide +kernel
theorem dX12_feed_68 : decode cX12_feed 68 = .ok (.aload_n 0, 1) := by decide +kernel
theorem dX12_feed_69 : decode cX12_feed 69 = .ok (.getfield 10, 3) := by decide +kernel
theorem dX12_feed_72 : decode cX12_feed 72 = .ok (.getfield 35, 3) := by decide +kernel
theorem dX12_feed_75 : decode cX12_feed 75 = .ok (.ireturn, 1) := by decide +kernel
theorem dX12_end_0 : decode cX12_end 0 = .ok (.iload_n 1, 1) := by decide +kernel
theorem dX12_end_1 : decode cX12_end 1 = .ok (.ifCond .lt 14, 3) := by decide +kernel
theorem dX12_end_4 : decode cX12_end 4 = .ok (.iload_n 1, 1) := by decide +kernel
theorem dX12_end_5 : decode cX12_end 5 = .ok (.aload_n 0, 1) := by decide +kernel
theorem dX12_end_6 : decode cX12_end 6 = .ok (.getfield 10, 3) := by decide +kernel
theorem dX12_end_9 : decode cX12_end 9 = .ok (.getfield 35, 3) := by decide +kernel
theorem dX12_end_12 : decode cX12_end 12 = .ok (.if_icmp .le 13, 3) := by decide +kernel
theorem dX12_end_15 : decode cX12_end 15 = .ok (.new 48, 3) := by decide +kernel
theorem dX12_end_18 : decode cX12_end 18 = .ok (.dup, 1) := by decide +kernel
theorem dX12_end_19 : decode cX12_end 19 = .ok (.ldc 50, 2) := by decide +kernel
theorem dX12_end_21 : decode cX12_end 21 = .ok (.invokespecial 52, 3) := by decide +kernel
theorem dX12_end_24 : decode cX12_end 24 = .ok (.athrow, 1) := by decide +kernel
theorem dX12_end_25 : decode cX12_end 25 = .ok (.aload_n 0, 1) := by decide +kernel
theorem dX12_end_26 : decode cX12_end 26 = .ok (.getfield 10, 3) := by decide +kernel
theorem dX12_end_29 : decode cX12_end 29 = .ok (.iload_n 1, 1) := by decide +kernel
theorem dX12_end_30 : decode cX12_end 30 = .ok (.putfield 35, 3) := by decide +kernel
theorem dX12_end_33 : decode cX12_end 33 = .ok (.iload_n 1, 1) := by decide +kernel
theorem dX12_end_34 : decode cX12_end 34 = .ok (.ireturn, 1) := by decide +kernel
theorem dX12_make_0 : decode cX12_make 0 = .ok (.iload_n 1, 1) := by decide +kernel
theorem dX12_make_1 : decode cX12_make 1 = .ok (.iload_n 2, 1) := by decide +kernel
theorem dX12_make_2 : decode cX12_make 2 = .ok (.invokestatic 53, 3) := by decide +kernel
theorem dX12_make_5 : decode cX12_make 5 = .ok (.ifCond .ne 13, 3) := by decide +kernel
theorem dX12_make_8 : decode cX12_make 8 = .ok (.new 48, 3) := by decide +kernel
theorem dX12_make_11 : decode cX12_make 11 = .ok (.dup, 1) := by decide +kernel
theorem dX12_make_12 : decode cX12_make 12 = .ok (.ldc 57, 2) := by decide +kernel
theorem dX12_make_14 : decode cX12_make 14 = .ok (.invokespecial 52, 3) := by decide +kernel
theorem dX12_make_17 : decode cX12_make 17 = .ok (.athrow, 1) := by decide +kernel
theorem dX12_make_18 : decode cX12_make 18 = .ok (.aload_n 0, 1) := by decide +kernel
theorem dX12_make_19 : decode cX12_make 19 = .ok (.invokevirtual 59, 3) := by decide +kernel
theorem dX12_make_22 : decode cX12_make 22 = .ok (.istore_n 3, 1) := by decide +kernel
theorem dX12_make_23 : decode cX12_make 23 = .ok (.iload_n 3, 1) := by decide +kernel
theorem dX12_make_24 : decode cX12_make 24 = .ok (.ifCond .lt 12, 3) := by decide +kernel
theorem dX12_make_27 : decode cX12_make 27 = .ok (.iload_n 3, 1) := by decide +kernel
theorem dX12_make_28 : decode cX12_make 28 = .ok (.aload_n 0, 1) := by decide +kernel
theorem dX12_make_29 : decode cX12_make 29 = .ok (.getfield 18, 3) := by decide +kernel
theorem dX12_make_32 : decode cX12_make 32 = .ok (.arraylength, 1) := by decide +kernel
theorem dX12_make_33 : decode cX12_make 33 = .ok (.if_icmp .lt 13, 3) := by decide +kernel
theorem dX12_make_36 : decode cX12_make 36 = .ok (.new 63, 3) := by decide +kernel
theorem dX12_make_39 : decode cX12_make 39 = .ok (.dup, 1) := by decide +kernel
theorem dX12_make_40 : decode cX12_make 40 = .ok (.ldc 65, 2) := by decide +kernel
theorem dX12_make_42 : decode cX12_make 42 = .ok (.invokespecial 67, 3) := by decide +kernel
theorem dX12_make_45 : decode cX12_make 45 = .ok (.athrow, 1) := by decide +kernel
theorem dX12_make_46 : decode cX12_make 46 = .ok (.aload_n 0, 1) := by decide +kernel
theorem dX12_make_47 : decode cX12_make 47 = .ok (.getfield 18, 3) := by decide +kernel
theorem dX12_make_50 : decode cX12_make 50 = .ok (.iload_n 3, 1) := by decide +kernel
theorem dX12_make_51 : decode cX12_make 51 = .ok (.iload_n 3, 1) := by decide +kernel
theorem dX12_make_52 : decode cX12_make 52 = .ok (.iload_n 1, 1) := by decide +kernel
theorem dX12_make_53 : decode cX12_make 53 = .ok (.iload_n 2, 1) := by decide +kernel
theorem dX12_make_54 : decode cX12_make 54 = .ok (.invokestatic 68, 3) := by decide +kernel
theorem dX12_make_57 : decode cX12_make 57 = .ok (.aastore, 1) := by decide +kernel
theorem dX12_make_58 : decode cX12_make 58 = .ok (.iload_n 3, 1) := by decide +kernel
theorem dX12_make_59 : decode cX12_make 59 = .ok (.ireturn, 1) := by decide +kernel
theorem dX12_drop_0 : decode cX12_drop 0 = .ok (.iload_n 1, 1) := by decide +kernel
theorem dX12_drop_1 : decode cX12_drop 1 = .ok (.ifCond .lt 21, 3) := by decide +kernel
theorem dX12_drop_4 : decode cX12_drop 4 = .ok (.iload_n 1, 1) := by decide +kernel
theorem dX12_drop_5 : decode cX12_drop 5 = .ok (.aload_n 0, 1) := by decide +kernel
theorem dX12_drop_6 : decode cX12_drop 6 = .ok (.getfield 18, 3) := by decide +kernel
theorem dX12_drop_9 : decode cX12_drop 9 = .ok (.arraylength, 1) := by decide +kernel
theorem dX12_drop_10 : decode cX12_drop 10 = .ok (.if_icmp .ge 12, 3) := by decide +kernel
theorem dX12_drop_13 : decode cX12_drop 13 = .ok (.aload_n 0, 1) := by decide +kernel
theorem dX12_drop_14 : decode cX12_drop 14 = .ok (.getfield 18, 3) := by decide +kernel
theorem dX12_drop_17 : decode cX12_drop 17 = .ok (.iload_n 1, 1) := by decide +kernel
theorem dX12_drop_18 : decode cX12_drop 18 = .ok (.aaload, 1) := by decide +kernel
end
section
theorem dX12_drop_19 : decode cX12_drop 19 = .ok (.ifnonnull 13, 3) := by decide +kernel
theorem dX12_drop_22 : decode cX12_drop 22 = .ok (.new 72, 3) := by decide +kernel
theorem dX12_drop_25 : decode cX12_drop 25 = .ok (.dup, 1) := by decide +kernel
theorem dX12_drop_26 : decode cX12_drop 26 = .ok (.ldc 74, 2) := by decide +kernel
theorem dX12_drop_28 : decode cX12_drop 28 = .ok (.invokespecial 76, 3) := by decide +kernel
theorem dX12_drop_31 : decode cX12_drop 31 = .ok (.athrow, 1) := by decide +kernel
theorem dX12_drop_32 : decode cX12_drop 32 = .ok (.aload_n 0, 1) := by decide +kernel
theorem dX12_drop_33 : decode cX12_drop 33 = .ok (.getfield 18, 3) := by decide +kernel
theorem dX12_drop_36 : decode cX12_drop 36 = .ok (.iload_n 1, 1) := by decide +kernel
theorem dX12_drop_37 : decode cX12_drop 37 = .ok (.aaload, 1) := by decide +kernel
theorem dX12_drop_38 : decode cX12_drop 38 = .ok (.invokevirtual 77, 3) := by decide +kernel
theorem dX12_drop_41 : decode cX12_drop 41 = .ok (.ifCond .eq 13, 3) := by decide +kernel
theorem dX12_drop_44 : decode cX12_drop 44 = .ok (.new 63, 3) := by decide +kernel
theorem dX12_drop_47 : decode cX12_drop 47 = .ok (.dup, 1) := by decide +kernel
theorem dX12_drop_48 : decode cX12_drop 48 = .ok (.ldc 81, 2) := by decide +kernel
theorem dX12_drop_50 : decode cX12_drop 50 = .ok (.invokespecial 67, 3) := by decide +kernel
theorem dX12_drop_53 : decode cX12_drop 53 = .ok (.athrow, 1) := by decide +kernel
theorem dX12_drop_54 : decode cX12_drop 54 = .ok (.aload_n 0, 1) := by decide +kernel
theorem dX12_drop_55 : decode cX12_drop 55 = .ok (.getfield 18, 3) := by decide +kernel
theorem dX12_drop_58 : decode cX12_drop 58 = .ok (.iload_n 1, 1) := by decide +kernel
theorem dX12_drop_59 : decode cX12_drop 59 = .ok (.aconst_null, 1) := by decide +kernel
theorem dX12_drop_60 : decode cX12_drop 60 = .ok (.aastore, 1) := by decide +kernel
theorem dX12_drop_61 : decode cX12_drop 61 = .ok (.aload_n 0, 1) := by decide +kernel
theorem dX12_drop_62 : decode cX12_drop 62 = .ok (.invokevirtual 83, 3) := by decide +kernel
theorem dX12_drop_65 : decode cX12_drop 65 = .ok (.ireturn, 1) := by decide +kernel
theorem dX12_thread_0 : decode cX12_thread 0 = .ok (.aload_n 0, 1) := by decide +kernel
theorem dX12_thread_1 : decode cX12_thread 1 = .ok (.getfield 10, 3) := by decide +kernel
theorem dX12_thread_4 : decode cX12_thread 4 = .ok (.invokevirtual 86, 3) := by decide +kernel
theorem dX12_thread_7 : decode cX12_thread 7 = .ok (.istore_n 1, 1) := by decide +kernel
theorem dX12_thread_8 : decode cX12_thread 8 = .ok (.aload_n 0, 1) := by decide +kernel
theorem dX12_thread_9 : decode cX12_thread 9 = .ok (.getfield 10, 3) := by decide +kernel
theorem dX12_thread_12 : decode cX12_thread 12 = .ok (.iconst 0, 1) := by decide +kernel
theorem dX12_thread_13 : decode cX12_thread 13 = .ok (.putfield 35, 3) := by decide +kernel
theorem dX12_thread_16 : decode cX12_thread 16 = .ok (.iload_n 1, 1) := by decide +kernel
theorem dX12_thread_17 : decode cX12_thread 17 = .ok (.ifCond .ne 13, 3) := by decide +kernel
theorem dX12_thread_20 : decode cX12_thread 20 = .ok (.new 89, 3) := by decide +kernel
theorem dX12_thread_23 : decode cX12_thread 23 = .ok (.dup, 1) := by decide +kernel
theorem dX12_thread_24 : decode cX12_thread 24 = .ok (.ldc 91, 2) := by decide +kernel
theorem dX12_thread_26 : decode cX12_thread 26 = .ok (.invokespecial 93, 3) := by decide +kernel
theorem dX12_thread_29 : decode cX12_thread 29 = .ok (.athrow, 1) := by decide +kernel
theorem dX12_thread_30 : decode cX12_thread 30 = .ok (.iconst 0, 1) := by decide +kernel
theorem dX12_thread_31 : decode cX12_thread 31 = .ok (.istore_n 2, 1) := by decide +kernel
theorem dX12_thread_32 : decode cX12_thread 32 = .ok (.iload_n 2, 1) := by decide +kernel
theorem dX12_thread_33 : decode cX12_thread 33 = .ok (.aload_n 0, 1) := by decide +kernel
theorem dX12_thread_34 : decode cX12_thread 34 = .ok (.getfield 24, 3) := by decide +kernel
theorem dX12_thread_37 : decode cX12_thread 37 = .ok (.arraylength, 1) := by decide +kernel
theorem dX12_thread_38 : decode cX12_thread 38 = .ok (.if_icmp .ge 46, 3) := by decide +kernel
theorem dX12_thread_41 : decode cX12_thread 41 = .ok (.aload_n 0, 1) := by decide +kernel
theorem dX12_thread_42 : decode cX12_thread 42 = .ok (.getfield 24, 3) := by decide +kernel
theorem dX12_thread_45 : decode cX12_thread 45 = .ok (.iload_n 2, 1) := by decide +kernel
theorem dX12_thread_46 : decode cX12_thread 46 = .ok (.aaload, 1) := by decide +kernel
theorem dX12_thread_47 : decode cX12_thread 47 = .ok (.invokevirtual 94, 3) := by decide +kernel
theorem dX12_thread_50 : decode cX12_thread 50 = .ok (.ifCond .eq 28, 3) := by decide +kernel
theorem dX12_thread_53 : decode cX12_thread 53 = .ok (.aload_n 0, 1) := by decide +kernel
theorem dX12_thread_54 : decode cX12_thread 54 = .ok (.getfield 24, 3) := by decide +kernel
theorem dX12_thread_57 : decode cX12_thread 57 = .ok (.iload_n 2, 1) := by decide +kernel
theorem dX12_thread_58 : decode cX12_thread 58 = .ok (.aaload, 1) := by decide +kernel
theorem dX12_thread_59 : decode cX12_thread 59 = .ok (.aload_n 0, 1) := by decide +kernel
theorem dX12_thread_60 : decode cX12_thread 60 = .ok (.getfield 10, 3) := by decide +kernel
theorem dX12_thread_63 : decode cX12_thread 63 = .ok (.getfield 97, 3) := by decide +kernel
theorem dX12_thread_66 : decode cX12_thread 66 = .ok (.aload_n 0, 1) := by decide +kernel
theorem dX12_thread_67 : decode cX12_thread 67 = .ok (.getfield 10, 3) := by decide +kernel
theorem dX12_thread_70 : decode cX12_thread 70 = .ok (.getfield 101, 3) := by decide +kernel
theorem dX12_thread_73 : decode cX12_thread 73 = .ok (.invokevirtual 104, 3) := by decide +kernel
theorem dX12_thread_76 : decode cX12_thread 76 = .ok (.iload_n 2, 1) := by decide +kernel
theorem dX12_thread_77 : decode cX12_thread 77 = .ok (.ireturn, 1) := by decide +kernel
theorem dX12_thread_78 : decode cX12_thread 78 = .ok (.iinc 2 1, 3) := by decide +kernel
theorem dX12_thread_81 : decode cX12_thread 81 = .ok (.goto (-49), 3) := by decide +kernel
theorem dX12_thread_84 : decode cX12_thread 84 = .ok (.new 63, 3) := by decide +kernel
theorem dX12_thread_87 : decode cX12_thread 87 = .ok (.dup, 1) := by decide +kernel
theorem dX12_thread_88 : decode cX12_thread 88 = .ok (.ldc 65, 2) := by decide +kernel
theorem dX12_thread_90 : decode cX12_thread 90 = .ok (.invokespecial 67, 3) := by decide +kernel
theorem dX12_thread_93 : decode cX12_thread 93 = .ok (.athrow, 1) := by decide +kernel
theorem dX12_step_0 : decode cX12_step 0 = .ok (.aload_n 0, 1) := by decide +kernel
theorem dX12_step_1 : decode cX12_step 1 = .ok (.iload_n 1, 1) := by decide +kernel
theorem dX12_step_2 : decode cX12_step 2 = .ok (.invokevirtual 108, 3) := by decide +kernel
theorem dX12_step_5 : decode cX12_step 5 = .ok (.astore_n 2, 1) := by decide +kernel
theorem dX12_step_6 : decode cX12_step 6 = .ok (.aload_n 2, 1) := by decide +kernel
theorem dX12_step_7 : decode cX12_step 7 = .ok (.getfield 112, 3) := by decide +kernel
theorem dX12_step_10 : decode cX12_step 10 = .ok (.iconst 1, 1) := by decide +kernel
theorem dX12_step_11 : decode cX12_step 11 = .ok (.if_icmp .ne 8, 3) := by decide +kernel
theorem dX12_step_14 : decode cX12_step 14 = .ok (.aload_n 0, 1) := by decide +kernel
theorem dX12_step_15 : decode cX12_step 15 = .ok (.aload_n 2, 1) := by decide +kernel
theorem dX12_step_16 : decode cX12_step 16 = .ok (.invokevirtual 115, 3) := by decide +kernel
theorem dX12_step_19 : decode cX12_step 19 = .ok (.aload_n 2, 1) := by decide +kernel
theorem dX12_step_20 : decode cX12_step 20 = .ok (.getfield 112, 3) := by decide +kernel
theorem dX12_step_23 : decode cX12_step 23 = .ok (.ireturn, 1) := by decide +kernel
theorem dX12_run_0 : decode cX12_run 0 = .ok (.iload_n 1, 1) := by decide +kernel
theorem dX12_run_1 : decode cX12_run 1 = .ok (.ifCond .lt 19, 3) := by decide +kernel
theorem dX12_run_4 : decode cX12_run 4 = .ok (.iload_n 1, 1) := by decide +kernel
theorem dX12_run_5 : decode cX12_run 5 = .ok (.iconst 2, 1) := by decide +kernel
theorem dX12_run_6 : decode cX12_run 6 = .ok (.if_icmp .gt 14, 3) := by decide +kernel
theorem dX12_run_9 : decode cX12_run 9 = .ok (.iload_n 3, 1) := by decide +kernel
theorem dX12_run_10 : decode cX12_run 10 = .ok (.ifCond .lt 10, 3) := by decide +kernel
theorem dX12_run_13 : decode cX12_run 13 = .ok (.iload_n 3, 1) := by decide +kernel
theorem dX12_run_14 : decode cX12_run 14 = .ok (.sipush 4000, 3) := by decide +kernel
theorem dX12_run_17 : decode cX12_run 17 = .ok (.if_icmp .le 13, 3) := by decide +kernel
theorem dX12_run_20 : decode cX12_run 20 = .ok (.new 48, 3) := by decide +kernel
theorem dX12_run_23 : decode cX12_run 23 = .ok (.dup, 1) := by decide +kernel
theorem dX12_run_24 : decode cX12_run 24 = .ok (.ldc 119, 2) := by decide +kernel
theorem dX12_run_26 : decode cX12_run 26 = .ok (.invokespecial 52, 3) := by decide +kernel
theorem dX12_run_29 : decode cX12_run 29 = .ok (.athrow, 1) := by decide +kernel
theorem dX12_run_30 : decode cX12_run 30 = .ok (.iload_n 2, 1) := by decide +kernel
theorem dX12_run_31 : decode cX12_run 31 = .ok (.istore 4, 2) := by decide +kernel
theorem dX12_run_33 : decode cX12_run 33 = .ok (.iconst 0, 1) := by decide +kernel
theorem dX12_run_34 : decode cX12_run 34 = .ok (.istore 5, 2) := by decide +kernel
theorem dX12_run_36 : decode cX12_run 36 = .ok (.iload 5, 2) := by decide +kernel
theorem dX12_run_38 : decode cX12_run 38 = .ok (.iload_n 3, 1) := by decide +kernel
theorem dX12_run_39 : decode cX12_run 39 = .ok (.if_icmp .ge 77, 3) := by decide +kernel
theorem dX12_run_42 : decode cX12_run 42 = .ok (.aload_n 0, 1) := by decide +kernel
theorem dX12_run_43 : decode cX12_run 43 = .ok (.invokevirtual 121, 3) := by decide +kernel
theorem dX12_run_46 : decode cX12_run 46 = .ok (.istore 6, 2) := by decide +kernel
theorem dX12_run_48 : decode cX12_run 48 = .ok (.iload 6, 2) := by decide +kernel
theorem dX12_run_50 : decode cX12_run 50 = .ok (.iconst 1, 1) := by decide +kernel
theorem dX12_run_51 : decode cX12_run 51 = .ok (.if_icmp .ge 6, 3) := by decide +kernel
theorem dX12_run_54 : decode cX12_run 54 = .ok (.iload 5, 2) := by decide +kernel
theorem dX12_run_56 : decode cX12_run 56 = .ok (.ireturn, 1) := by decide +kernel
theorem dX12_run_57 : decode cX12_run 57 = .ok (.iconst 0, 1) := by decide +kernel
theorem dX12_run_58 : decode cX12_run 58 = .ok (.istore 7, 2) := by decide +kernel
theorem dX12_run_60 : decode cX12_run 60 = .ok (.iload_n 1, 1) := by decide +kernel
theorem dX12_run_61 : decode cX12_run 61 = .ok (.ifCond .ne 24, 3) := by decide +kernel
theorem dX12_run_64 : decode cX12_run 64 = .ok (.iload 4, 2) := by decide +kernel
theorem dX12_run_66 : decode cX12_run 66 = .ok (.ldc 124, 2) := by decide +kernel
theorem dX12_run_68 : decode cX12_run 68 = .ok (.imul, 1) := by decide +kernel
theorem dX12_run_69 : decode cX12_run 69 = .ok (.sipush 12345, 3) := by decide +kernel
theorem dX12_run_72 : decode cX12_run 72 = .ok (.iadd, 1) := by decide +kernel
theorem dX12_run_73 : decode cX12_run 73 = .ok (.istore 4, 2) := by decide +kernel
theorem dX12_run_75 : decode cX12_run 75 = .ok (.iload 4, 2) := by decide +kernel
theorem dX12_run_77 : decode cX12_run 77 = .ok (.bipush 8, 2) := by decide +kernel
theorem dX12_run_79 : decode cX12_run 79 = .ok (.iushr, 1) := by decide +kernel
theorem dX12_run_80 : decode cX12_run 80 = .ok (.iload 6, 2) := by decide +kernel
theorem dX12_run_82 : decode cX12_run 82 = .ok (.irem, 1) := by decide +kernel
theorem dX12_run_83 : decode cX12_run 83 = .ok (.istore 7, 2) := by decide +kernel
theorem dX12_run_85 : decode cX12_run 85 = .ok (.aload_n 0, 1) := by decide +kernel
theorem dX12_run_86 : decode cX12_run 86 = .ok (.aload_n 0, 1) := by decide +kernel
theorem dX12_run_87 : decode cX12_run 87 = .ok (.iload_n 1, 1) := by decide +kernel
theorem dX12_run_88 : decode cX12_run 88 = .ok (.iconst 2, 1) := by decide +kernel
theorem dX12_run_89 : decode cX12_run 89 = .ok (.if_icmp .ne 12, 3) := by decide +kernel
theorem dX12_run_92 : decode cX12_run 92 = .ok (.aload_n 0, 1) := by decide +kernel
theorem dX12_run_93 : decode cX12_run 93 = .ok (.getfield 28, 3) := by decide +kernel
theorem dX12_run_96 : decode cX12_run 96 = .ok (.iconst 1, 1) := by decide +kernel
theorem dX12_run_97 : decode cX12_run 97 = .ok (.iadd, 1) := by decide +kernel
theorem dX12_run_98 : decode cX12_run 98 = .ok (.goto 4, 3) := by decide +kernel
theorem dX12_run_101 : decode cX12_run 101 = .ok (.iconst 0, 1) := by decide +kernel
theorem dX12_run_102 : decode cX12_run 102 = .ok (.iload 7, 2) := by decide +kernel
theorem dX12_run_104 : decode cX12_run 104 = .ok (.invokevirtual 125, 3) := by decide +kernel
theorem dX12_run_107 : decode cX12_run 107 = .ok (.invokevirtual 115, 3) := by decide +kernel
theorem dX12_run_110 : decode cX12_run 110 = .ok (.iinc 5 1, 3) := by decide +kernel
theorem dX12_run_113 : decode cX12_run 113 = .ok (.goto (-77), 3) := by decide +kernel
theorem dX12_run_116 : decode cX12_run 116 = .ok (.iload_n 3, 1) := by decide +kernel
theorem dX12_run_117 : decode cX12_run 117 = .ok (.ireturn, 1) := by decide +kernel
theorem dX12_tick_0 : decode cX12_tick 0 = .ok (.iload_n 1, 1) := by decide +kernel
theorem dX12_tick_1 : decode cX12_tick 1 = .ok (.ifCond .ge 13, 3) := by decide +kernel
theorem dX12_tick_4 : decode cX12_tick 4 = .ok (.new 48, 3) := by decide +kernel
theorem dX12_tick_7 : decode cX12_tick 7 = .ok (.dup, 1) := by decide +kernel
theorem dX12_tick_8 : decode cX12_tick 8 = .ok (.ldc 50, 2) := by decide +kernel
theorem dX12_tick_10 : decode cX12_tick 10 = .ok (.invokespecial 52, 3) := by decide +kernel
theorem dX12_tick_13 : decode cX12_tick 13 = .ok (.athrow, 1) := by decide +kernel
theorem dX12_tick_14 : decode cX12_tick 14 = .ok (.aload_n 0, 1) := by decide +kernel
theorem dX12_tick_15 : decode cX12_tick 15 = .ok (.dup, 1) := by decide +kernel
theorem dX12_tick_16 : decode cX12_tick 16 = .ok (.getfield 129, 3) := by decide +kernel
theorem dX12_tick_19 : decode cX12_tick 19 = .ok (.iload_n 1, 1) := by decide +kernel
theorem dX12_tick_20 : decode cX12_tick 20 = .ok (.i2l, 1) := by decide +kernel
theorem dX12_tick_21 : decode cX12_tick 21 = .ok (.ladd, 1) := by decide +kernel
theorem dX12_tick_22 : decode cX12_tick 22 = .ok (.putfield 129, 3) := by decide +kernel
theorem dX12_tick_25 : decode cX12_tick 25 = .ok (.iconst 0, 1) := by decide +kernel
theorem dX12_tick_26 : decode cX12_tick 26 = .ok (.istore_n 2, 1) := by decide +kernel
theorem dX12_tick_27 : decode cX12_tick 27 = .ok (.aload_n 0, 1) := by decide +kernel
theorem dX12_tick_28 : decode cX12_tick 28 = .ok (.getfield 24, 3) := by decide +kernel
theorem dX12_tick_31 : decode cX12_tick 31 = .ok (.astore_n 3, 1) := by decide +kernel
theorem dX12_tick_32 : decode cX12_tick 32 = .ok (.aload_n 3, 1) := by decide +kernel
theorem dX12_tick_33 : decode cX12_tick 33 = .ok (.arraylength, 1) := by decide +kernel
theorem dX12_tick_34 : decode cX12_tick 34 = .ok (.istore 4, 2) := by decide +kernel
theorem dX12_tick_36 : decode cX12_tick 36 = .ok (.iconst 0, 1) := by decide +kernel
theorem dX12_tick_37 : decode cX12_tick 37 = .ok (.istore 5, 2) := by decide +kernel
theorem dX12_tick_39 : decode cX12_tick 39 = .ok (.iload 5, 2) := by decide +kernel
theorem dX12_tick_41 : decode cX12_tick 41 = .ok (.iload 4, 2) := by decide +kernel
theorem dX12_tick_43 : decode cX12_tick 43 = .ok (.if_icmp .ge 45, 3) := by decide +kernel
theorem dX12_tick_46 : decode cX12_tick 46 = .ok (.aload_n 3, 1) := by decide +kernel
theorem dX12_tick_47 : decode cX12_tick 47 = .ok (.iload 5, 2) := by decide +kernel
theorem dX12_tick_49 : decode cX12_tick 49 = .ok (.aaload, 1) := by decide +kernel
theorem dX12_tick_50 : decode cX12_tick 50 = .ok (.astore 6, 2) := by decide +kernel
theorem dX12_tick_52 : decode cX12_tick 52 = .ok (.aload 6, 2) := by decide +kernel
theorem dX12_tick_54 : decode cX12_tick 54 = .ok (.getfield 112, 3) := by decide +kernel
theorem dX12_tick_57 : decode cX12_tick 57 = .ok (.iconst 3, 1) := by decide +kernel
theorem dX12_tick_58 : decode cX12_tick 58 = .ok (.if_icmp .ne 24, 3) := by decide +kernel
theorem dX12_tick_61 : decode cX12_tick 61 = .ok (.aload 6, 2) := by decide +kernel
theorem dX12_tick_63 : decode cX12_tick 63 = .ok (.getfield 133, 3) := by decide +kernel
theorem dX12_tick_66 : decode cX12_tick 66 = .ok (.aload_n 0, 1) := by decide +kernel
theorem dX12_tick_67 : decode cX12_tick 67 = .ok (.getfield 129, 3) := by decide +kernel
theorem dX12_tick_70 : decode cX12_tick 70 = .ok (.lcmp, 1) := by decide +kernel
theorem dX12_tick_71 : decode cX12_tick 71 = .ok (.ifCond .gt 11, 3) := by decide +kernel
theorem dX12_tick_74 : decode cX12_tick 74 = .ok (.aload 6, 2) := by decide +kernel
theorem dX12_tick_76 : decode cX12_tick 76 = .ok (.invokevirtual 136, 3) := by decide +kernel
theorem dX12_tick_79 : decode cX12_tick 79 = .ok (.iinc 2 1, 3) := by decide +kernel
theorem dX12_tick_82 : decode cX12_tick 82 = .ok (.iinc 5 1, 3) := by decide +kernel
theorem dX12_tick_85 : decode cX12_tick 85 = .ok (.goto (-46), 3) := by decide +kernel
theorem dX12_tick_88 : decode cX12_tick 88 = .ok (.iload_n 2, 1) := by decide +kernel
theorem dX12_tick_89 : decode cX12_tick 89 = .ok (.ireturn, 1) := by decide +kernel
theorem dX12_interrupt_0 : decode cX12_interrupt 0 = .ok (.aload_n 0, 1) := by decide +kernel
theorem dX12_interrupt_1 : decode cX12_interrupt 1 = .ok (.iload_n 1, 1) := by decide +kernel
theorem dX12_interrupt_2 : decode cX12_interrupt 2 = .ok (.invokevirtual 108, 3) := by decide +kernel
theorem dX12_interrupt_5 : decode cX12_interrupt 5 = .ok (.astore_n 2, 1) := by decide +kernel
theorem dX12_interrupt_6 : decode cX12_interrupt 6 = .ok (.aload_n 2, 1) := by decide +kernel
theorem dX12_interrupt_7 : decode cX12_interrupt 7 = .ok (.getfield 112, 3) := by decide +kernel
theorem dX12_interrupt_10 : decode cX12_interrupt 10 = .ok (.iconst 1, 1) := by decide +kernel
theorem dX12_interrupt_11 : decode cX12_interrupt 11 = .ok (.if_icmp .ne 10, 3) := by decide +kernel
theorem dX12_interrupt_14 : decode cX12_interrupt 14 = .ok (.aload_n 2, 1) := by decide +kernel
theorem dX12_interrupt_15 : decode cX12_interrupt 15 = .ok (.iconst 1, 1) := by decide +kernel
theorem dX12_interrupt_16 : decode cX12_interrupt 16 = .ok (.putfield 139, 3) := by decide +kernel
theorem dX12_interrupt_19 : decode cX12_interrupt 19 = .ok (.iconst 1, 1) := by decide +kernel
theorem dX12_interrupt_20 : decode cX12_interrupt 20 = .ok (.ireturn, 1) := by decide +kernel
theorem dX12_interrupt_21 : decode cX12_interrupt 21 = .ok (.aload_n 2, 1) := by decide +kernel
theorem dX12_interrupt_22 : decode cX12_interrupt 22 = .ok (.getfield 112, 3) := by decide +kernel
theorem dX12_interrupt_25 : decode cX12_interrupt 25 = .ok (.iconst 2, 1) := by decide +kernel
theorem dX12_interrupt_26 : decode cX12_interrupt 26 = .ok (.if_icmp .eq 13, 3) := by decide +kernel
theorem dX12_interrupt_29 : decode cX12_interrupt 29 = .ok (.aload_n 2, 1) := by decide +kernel
theorem dX12_interrupt_30 : decode cX12_interrupt 30 = .ok (.getfield 112, 3) := by decide +kernel
theorem dX12_interrupt_33 : decode cX12_interrupt 33 = .ok (.iconst 3, 1) := by decide +kernel
theorem dX12_interrupt_34 : decode cX12_interrupt 34 = .ok (.if_icmp .eq 5, 3) := by decide +kernel
theorem dX12_interrupt_37 : decode cX12_interrupt 37 = .ok (.iconst 0, 1) := by decide +kernel
theorem dX12_interrupt_38 : decode cX12_interrupt 38 = .ok (.ireturn, 1) := by decide +kernel
theorem dX12_interrupt_39 : decode cX12_interrupt 39 = .ok (.aload_n 2, 1) := by decide +kernel
theorem dX12_interrupt_40 : decode cX12_interrupt 40 = .ok (.getfield 143, 3) := by decide +kernel
theorem dX12_interrupt_43 : decode cX12_interrupt 43 = .ok (.astore 4, 2) := by decide +kernel
theorem dX12_interrupt_45 : decode cX12_interrupt 45 = .ok (.aload 4, 2) := by decide +kernel
theorem dX12_interrupt_47 : decode cX12_interrupt 47 = .ok (.instanceof 147, 3) := by decide +kernel
theorem dX12_interrupt_50 : decode cX12_interrupt 50 = .ok (.ifCond .eq 24, 3) := by decide +kernel
theorem dX12_interrupt_53 : decode cX12_interrupt 53 = .ok (.aload 4, 2) := by decide +kernel
theorem dX12_interrupt_55 : decode cX12_interrupt 55 = .ok (.checkcast 147, 3) := by decide +kernel
theorem dX12_interrupt_58 : decode cX12_interrupt 58 = .ok (.astore_n 3, 1) := by decide +kernel
theorem dX12_interrupt_59 : decode cX12_interrupt 59 = .ok (.aload_n 2, 1) := by decide +kernel
theorem dX12_interrupt_60 : decode cX12_interrupt 60 = .ok (.getfield 149, 3) := by decide +kernel
theorem dX12_interrupt_63 : decode cX12_interrupt 63 = .ok (.ifCond .le 11, 3) := by decide +kernel
theorem dX12_interrupt_66 : decode cX12_interrupt 66 = .ok (.aload_n 3, 1) := by decide +kernel
theorem dX12_interrupt_67 : decode cX12_interrupt 67 = .ok (.aload_n 2, 1) := by decide +kernel
theorem dX12_interrupt_68 : decode cX12_interrupt 68 = .ok (.invokevirtual 152, 3) := by decide +kernel
theorem dX12_interrupt_71 : decode cX12_interrupt 71 = .ok (.goto 9, 3) := by decide +kernel
theorem dX12_interrupt_74 : decode cX12_interrupt 74 = .ok (.aload_n 2, 1) := by decide +kernel
theorem dX12_interrupt_75 : decode cX12_interrupt 75 = .ok (.bipush (-2), 2) := by decide +kernel
theorem dX12_interrupt_77 : decode cX12_interrupt 77 = .ok (.invokevirtual 155, 3) := by decide +kernel
theorem dX12_interrupt_80 : decode cX12_interrupt 80 = .ok (.iconst 1, 1) := by decide +kernel
theorem dX12_interrupt_81 : decode cX12_interrupt 81 = .ok (.ireturn, 1) := by decide +kernel
theorem dX12_look_0 : decode cX12_look 0 = .ok (.aload_n 0, 1) := by decide +kernel
theorem dX12_look_1 : decode cX12_look 1 = .ok (.iload_n 1, 1) := by decide +kernel
theorem dX12_look_2 : decode cX12_look 2 = .ok (.invokevirtual 108, 3) := by decide +kernel
theorem dX12_look_5 : decode cX12_look 5 = .ok (.astore_n 3, 1) := by decide +kernel
theorem dX12_look_6 : decode cX12_look 6 = .ok (.iload_n 2, 1) := by decide +kernel
theorem dX12_look_7 : decode cX12_look 7 = .ok (.ifCond .lt 8, 3) := by decide +kernel
theorem dX12_look_10 : decode cX12_look 10 = .ok (.iload_n 2, 1) := by decide +kernel
theorem dX12_look_11 : decode cX12_look 11 = .ok (.iconst 5, 1) := by decide +kernel
theorem dX12_look_12 : decode cX12_look 12 = .ok (.if_icmp .le 13, 3) := by decide +kernel
theorem dX12_look_15 : decode cX12_look 15 = .ok (.new 48, 3) := by decide +kernel
theorem dX12_look_18 : decode cX12_look 18 = .ok (.dup, 1) := by decide +kernel
theorem dX12_look_19 : decode cX12_look 19 = .ok (.ldc 158, 2) := by decide +kernel
theorem dX12_look_21 : decode cX12_look 21 = .ok (.invokespecial 52, 3) := by decide +kernel
theorem dX12_look_24 : decode cX12_look 24 = .ok (.athrow, 1) := by decide +kernel
theorem dX12_look_25 : decode cX12_look 25 = .ok (.iload_n 2, 1) := by decide +kernel
theorem dX12_look_26 : decode cX12_look 26 = .ok (.tableswitch 108 0 4 #[34, 39, 44, 68, 95], 34) := by decide +kernel
theorem dX12_look_60 : decode cX12_look 60 = .ok (.aload_n 3, 1) := by decide +kernel
theorem dX12_look_61 : decode cX12_look 61 = .ok (.getfield 112, 3) := by decide +kernel
theorem dX12_look_64 : decode cX12_look 64 = .ok (.ireturn, 1) := by decide +kernel
theorem dX12_look_65 : decode cX12_look 65 = .ok (.aload_n 3, 1) := by decide +kernel
theorem dX12_look_66 : decode cX12_look 66 = .ok (.getfield 160, 3) := by decide +kernel
theorem dX12_look_69 : decode cX12_look 69 = .ok (.ireturn, 1) := by decide +kernel
theorem dX12_look_70 : decode cX12_look 70 = .ok (.aload_n 3, 1) := by decide +kernel
theorem dX12_look_71 : decode cX12_look 71 = .ok (.getfield 112, 3) := by decide +kernel
theorem dX12_look_74 : decode cX12_look 74 = .ok (.ifCond .eq 11, 3) := by decide +kernel
theorem dX12_look_77 : decode cX12_look 77 = .ok (.aload_n 3, 1) := by decide +kernel
theorem dX12_look_78 : decode cX12_look 78 = .ok (.getfield 112, 3) := by decide +kernel
theorem dX12_look_81 : decode cX12_look 81 = .ok (.iconst 4, 1) := by decide +kernel
theorem dX12_look_82 : decode cX12_look 82 = .ok (.if_icmp .ne 7, 3) := by decide +kernel
theorem dX12_look_85 : decode cX12_look 85 = .ok (.iconst (-1), 1) := by decide +kernel
theorem dX12_look_86 : decode cX12_look 86 = .ok (.goto 7, 3) := by decide +kernel
theorem dX12_look_89 : decode cX12_look 89 = .ok (.aload_n 3, 1) := by decide +kernel
theorem dX12_look_90 : decode cX12_look 90 = .ok (.getfield 163, 3) := by decide +kernel
theorem dX12_look_93 : decode cX12_look 93 = .ok (.ireturn, 1) := by decide +kernel
theorem dX12_look_94 : decode cX12_look 94 = .ok (.aload_n 3, 1) := by decide +kernel
theorem dX12_look_95 : decode cX12_look 95 = .ok (.getfield 112, 3) := by decide +kernel
theorem dX12_look_98 : decode cX12_look 98 = .ok (.iconst 2, 1) := by decide +kernel
theorem dX12_look_99 : decode cX12_look 99 = .ok (.if_icmp .ne 20, 3) := by decide +kernel
theorem dX12_look_102 : decode cX12_look 102 = .ok (.aload_n 3, 1) := by decide +kernel
theorem dX12_look_103 : decode cX12_look 103 = .ok (.getfield 143, 3) := by decide +kernel
theorem dX12_look_106 : decode cX12_look 106 = .ok (.ifnull 13, 3) := by decide +kernel
theorem dX12_look_109 : decode cX12_look 109 = .ok (.aload_n 3, 1) := by decide +kernel
theorem dX12_look_110 : decode cX12_look 110 = .ok (.getfield 143, 3) := by decide +kernel
theorem dX12_look_113 : decode cX12_look 113 = .ok (.getfield 166, 3) := by decide +kernel
theorem dX12_look_116 : decode cX12_look 116 = .ok (.goto 4, 3) := by decide +kernel
theorem dX12_look_119 : decode cX12_look 119 = .ok (.iconst (-1), 1) := by decide +kernel
theorem dX12_look_120 : decode cX12_look 120 = .ok (.ireturn, 1) := by decide +kernel
theorem dX12_look_121 : decode cX12_look 121 = .ok (.aload_n 3, 1) := by decide +kernel
theorem dX12_look_122 : decode cX12_look 122 = .ok (.getfield 139, 3) := by decide +kernel
theorem dX12_look_125 : decode cX12_look 125 = .ok (.ifCond .eq 7, 3) := by decide +kernel
theorem dX12_look_128 : decode cX12_look 128 = .ok (.iconst 1, 1) := by decide +kernel
theorem dX12_look_129 : decode cX12_look 129 = .ok (.goto 4, 3) := by decide +kernel
theorem dX12_look_132 : decode cX12_look 132 = .ok (.iconst 0, 1) := by decide +kernel
theorem dX12_look_133 : decode cX12_look 133 = .ok (.ireturn, 1) := by decide +kernel
theorem dX12_look_134 : decode cX12_look 134 = .ok (.aload_n 3, 1) := by decide +kernel
theorem dX12_look_135 : decode cX12_look 135 = .ok (.getfield 169, 3) := by decide +kernel
theorem dX12_look_138 : decode cX12_look 138 = .ok (.ireturn, 1) := by decide +kernel
theorem dX12_dead_0 : decode cX12_dead 0 = .ok (.iconst 0, 1) := by decide +kernel
theorem dX12_dead_1 : decode cX12_dead 1 = .ok (.istore_n 1, 1) := by decide +kernel
theorem dX12_dead_2 : decode cX12_dead 2 = .ok (.iload_n 1, 1) := by decide +kernel
theorem dX12_dead_3 : decode cX12_dead 3 = .ok (.bipush 8, 2) := by decide +kernel
theorem dX12_dead_5 : decode cX12_dead 5 = .ok (.if_icmp .ge 47, 3) := by decide +kernel
theorem dX12_dead_8 : decode cX12_dead 8 = .ok (.aload_n 0, 1) := by decide +kernel
theorem dX12_dead_9 : decode cX12_dead 9 = .ok (.iload_n 1, 1) := by decide +kernel
theorem dX12_dead_10 : decode cX12_dead 10 = .ok (.invokevirtual 172, 3) := by decide +kernel
theorem dX12_dead_13 : decode cX12_dead 13 = .ok (.istore_n 2, 1) := by decide +kernel
theorem dX12_dead_14 : decode cX12_dead 14 = .ok (.iconst 1, 1) := by decide +kernel
theorem dX12_dead_15 : decode cX12_dead 15 = .ok (.istore_n 3, 1) := by decide +kernel
theorem dX12_dead_16 : decode cX12_dead 16 = .ok (.iload_n 3, 1) := by decide +kernel
theorem dX12_dead_17 : decode cX12_dead 17 = .ok (.bipush 8, 2) := by decide +kernel
theorem dX12_dead_19 : decode cX12_dead 19 = .ok (.if_icmp .ge 20, 3) := by decide +kernel
theorem dX12_dead_22 : decode cX12_dead 22 = .ok (.iload_n 2, 1) := by decide +kernel
theorem dX12_dead_23 : decode cX12_dead 23 = .ok (.iload_n 1, 1) := by decide +kernel
theorem dX12_dead_24 : decode cX12_dead 24 = .ok (.if_icmp .eq 15, 3) := by decide +kernel
theorem dX12_dead_27 : decode cX12_dead 27 = .ok (.aload_n 0, 1) := by decide +kernel
theorem dX12_dead_28 : decode cX12_dead 28 = .ok (.iload_n 2, 1) := by decide +kernel
theorem dX12_dead_29 : decode cX12_dead 29 = .ok (.invokevirtual 172, 3) := by decide +kernel
theorem dX12_dead_32 : decode cX12_dead 32 = .ok (.istore_n 2, 1) := by decide +kernel
theorem dX12_dead_33 : decode cX12_dead 33 = .ok (.iinc 3 1, 3) := by decide +kernel
theorem dX12_dead_36 : decode cX12_dead 36 = .ok (.goto (-20), 3) := by decide +kernel
theorem dX12_dead_39 : decode cX12_dead 39 = .ok (.iload_n 2, 1) := by decide +kernel
theorem dX12_dead_40 : decode cX12_dead 40 = .ok (.iload_n 1, 1) := by decide +kernel
theorem dX12_dead_41 : decode cX12_dead 41 = .ok (.if_icmp .ne 5, 3) := by decide +kernel
theorem dX12_dead_44 : decode cX12_dead 44 = .ok (.iload_n 1, 1) := by decide +kernel
theorem dX12_dead_45 : decode cX12_dead 45 = .ok (.ireturn, 1) := by decide +kernel
theorem dX12_dead_46 : decode cX12_dead 46 = .ok (.iinc 1 1, 3) := by decide +kernel
theorem dX12_dead_49 : decode cX12_dead 49 = .ok (.goto (-47), 3) := by decide +kernel
theorem dX12_dead_52 : decode cX12_dead 52 = .ok (.iconst (-1), 1) := by decide +kernel
theorem dX12_dead_53 : decode cX12_dead 53 = .ok (.ireturn, 1) := by decide +kernel
theorem dX12_sync_0 : decode cX12_sync 0 = .ok (.aload_n 0, 1) := by decide +kernel
theorem dX12_sync_1 : decode cX12_sync 1 = .ok (.iload_n 1, 1) := by decide +kernel
theorem dX12_sync_2 : decode cX12_sync 2 = .ok (.invokevirtual 176, 3) := by decide +kernel
theorem dX12_sync_5 : decode cX12_sync 5 = .ok (.astore_n 3, 1) := by decide +kernel
theorem dX12_sync_6 : decode cX12_sync 6 = .ok (.aload_n 3, 1) := by decide +kernel
theorem dX12_sync_7 : decode cX12_sync 7 = .ok (.ifnonnull 13, 3) := by decide +kernel
theorem dX12_sync_10 : decode cX12_sync 10 = .ok (.new 72, 3) := by decide +kernel
theorem dX12_sync_13 : decode cX12_sync 13 = .ok (.dup, 1) := by decide +kernel
theorem dX12_sync_14 : decode cX12_sync 14 = .ok (.ldc 74, 2) := by decide +kernel
theorem dX12_sync_16 : decode cX12_sync 16 = .ok (.invokespecial 76, 3) := by decide +kernel
theorem dX12_sync_19 : decode cX12_sync 19 = .ok (.athrow, 1) := by decide +kernel
theorem dX12_sync_20 : decode cX12_sync 20 = .ok (.iload_n 2, 1) := by decide +kernel
theorem dX12_sync_21 : decode cX12_sync 21 = .ok (.ifCond .lt 8, 3) := by decide +kernel
theorem dX12_sync_24 : decode cX12_sync 24 = .ok (.iload_n 2, 1) := by decide +kernel
theorem dX12_sync_25 : decode cX12_sync 25 = .ok (.iconst 4, 1) := by decide +kernel
theorem dX12_sync_26 : decode cX12_sync 26 = .ok (.if_icmp .le 13, 3) := by decide +kernel
theorem dX12_sync_29 : decode cX12_sync 29 = .ok (.new 48, 3) := by decide +kernel
theorem dX12_sync_32 : decode cX12_sync 32 = .ok (.dup, 1) := by decide +kernel
theorem dX12_sync_33 : decode cX12_sync 33 = .ok (.ldc 158, 2) := by decide +kernel
theorem dX12_sync_35 : decode cX12_sync 35 = .ok (.invokespecial 52, 3) := by decide +kernel
theorem dX12_sync_38 : decode cX12_sync 38 = .ok (.athrow, 1) := by decide +kernel
theorem dX12_sync_39 : decode cX12_sync 39 = .ok (.aload_n 3, 1) := by decide +kernel
theorem dX12_sync_40 : decode cX12_sync 40 = .ok (.iload_n 2, 1) := by decide +kernel
theorem dX12_sync_41 : decode cX12_sync 41 = .ok (.invokevirtual 180, 3) := by decide +kernel
theorem dX12_sync_44 : decode cX12_sync 44 = .ok (.ifCond .ne 13, 3) := by decide +kernel
theorem dX12_sync_47 : decode cX12_sync 47 = .ok (.new 89, 3) := by decide +kernel
theorem dX12_sync_50 : decode cX12_sync 50 = .ok (.dup, 1) := by decide +kernel
theorem dX12_sync_51 : decode cX12_sync 51 = .ok (.ldc 184, 2) := by decide +kernel
theorem dX12_sync_53 : decode cX12_sync 53 = .ok (.invokespecial 93, 3) := by decide +kernel
theorem dX12_sync_56 : decode cX12_sync 56 = .ok (.athrow, 1) := by decide +kernel
theorem dX12_sync_57 : decode cX12_sync 57 = .ok (.iload_n 2, 1) := by decide +kernel
theorem dX12_sync_58 : decode cX12_sync 58 = .ok (.lookupswitch 40 #[(0, 26), (1, 31)], 26) := by decide +kernel
theorem dX12_sync_84 : decode cX12_sync 84 = .ok (.aload_n 3, 1) := by decide +kernel
theorem dX12_sync_85 : decode cX12_sync 85 = .ok (.invokevirtual 186, 3) := by decide +kernel
theorem dX12_sync_88 : decode cX12_sync 88 = .ok (.lreturn, 1) := by decide +kernel
theorem dX12_sync_89 : decode cX12_sync 89 = .ok (.aload_n 3, 1) := by decide +kernel
theorem dX12_sync_90 : decode cX12_sync 90 = .ok (.getfield 190, 3) := by decide +kernel
theorem dX12_sync_93 : decode cX12_sync 93 = .ok (.getfield 194, 3) := by decide +kernel
theorem dX12_sync_96 : decode cX12_sync 96 = .ok (.i2l, 1) := by decide +kernel
theorem dX12_sync_97 : decode cX12_sync 97 = .ok (.lreturn, 1) := by decide +kernel
theorem dX12_sync_98 : decode cX12_sync 98 = .ok (.aload_n 3, 1) := by decide +kernel
theorem dX12_sync_99 : decode cX12_sync 99 = .ok (.iload_n 2, 1) := by decide +kernel
theorem dX12_sync_100 : decode cX12_sync 100 = .ok (.invokevirtual 197, 3) := by decide +kernel
theorem dX12_sync_103 : decode cX12_sync 103 = .ok (.lreturn, 1) := by decide +kernel
theorem dX12_count_0 : decode cX12_count 0 = .ok (.iload_n 1, 1) := by decide +kernel
theorem dX12_count_1 : decode cX12_count 1 = .ok (.bipush 10, 2) := by decide +kernel
theorem dX12_count_3 : decode cX12_count 3 = .ok (.if_icmp .lt 34, 3) := by decide +kernel
theorem dX12_count_6 : decode cX12_count 6 = .ok (.iload_n 1, 1) := by decide +kernel
theorem dX12_count_7 : decode cX12_count 7 = .ok (.bipush 34, 2) := by decide +kernel
theorem dX12_count_9 : decode cX12_count 9 = .ok (.if_icmp .ge 28, 3) := by decide +kernel
theorem dX12_count_12 : decode cX12_count 12 = .ok (.aload_n 0, 1) := by decide +kernel
theorem dX12_count_13 : decode cX12_count 13 = .ok (.iload_n 1, 1) := by decide +kernel
theorem dX12_count_14 : decode cX12_count 14 = .ok (.bipush 10, 2) := by decide +kernel
theorem dX12_count_16 : decode cX12_count 16 = .ok (.isub, 1) := by decide +kernel
theorem dX12_count_17 : decode cX12_count 17 = .ok (.invokevirtual 176, 3) := by decide +kernel
theorem dX12_count_20 : decode cX12_count 20 = .ok (.astore_n 2, 1) := by decide +kernel
theorem dX12_count_21 : decode cX12_count 21 = .ok (.aload_n 2, 1) := by decide +kernel
theorem dX12_count_22 : decode cX12_count 22 = .ok (.ifnonnull 9, 3) := by decide +kernel
theorem dX12_count_25 : decode cX12_count 25 = .ok (.ldc2_w 201, 3) := by decide +kernel
theorem dX12_count_28 : decode cX12_count 28 = .ok (.goto 8, 3) := by decide +kernel
theorem dX12_count_31 : decode cX12_count 31 = .ok (.aload_n 2, 1) := by decide +kernel
theorem dX12_count_32 : decode cX12_count 32 = .ok (.getfield 203, 3) := by decide +kernel
theorem dX12_count_35 : decode cX12_count 35 = .ok (.i2l, 1) := by decide +kernel
theorem dX12_count_36 : decode cX12_count 36 = .ok (.lreturn, 1) := by decide +kernel
theorem dX12_count_37 : decode cX12_count 37 = .ok (.iload_n 1, 1) := by decide +kernel
theorem dX12_count_38 : decode cX12_count 38 = .ok (.tableswitch 68 0 4 #[34, 43, 49, 58, 63], 34) := by decide +kernel
theorem dX12_count_72 : decode cX12_count 72 = .ok (.aload_n 0, 1) := by decide +kernel
theorem dX12_count_73 : decode cX12_count 73 = .ok (.getfield 10, 3) := by decide +kernel
theorem dX12_count_76 : decode cX12_count 76 = .ok (.getfield 35, 3) := by decide +kernel
theorem dX12_count_79 : decode cX12_count 79 = .ok (.i2l, 1) := by decide +kernel
theorem dX12_count_80 : decode cX12_count 80 = .ok (.lreturn, 1) := by decide +kernel
theorem dX12_count_81 : decode cX12_count 81 = .ok (.aload_n 0, 1) := by decide +kernel
theorem dX12_count_82 : decode cX12_count 82 = .ok (.invokevirtual 83, 3) := by decide +kernel
theorem dX12_count_85 : decode cX12_count 85 = .ok (.i2l, 1) := by decide +kernel
theorem dX12_count_86 : decode cX12_count 86 = .ok (.lreturn, 1) := by decide +kernel
theorem dX12_count_87 : decode cX12_count 87 = .ok (.aload_n 0, 1) := by decide +kernel
theorem dX12_count_88 : decode cX12_count 88 = .ok (.getfield 10, 3) := by decide +kernel
theorem dX12_count_91 : decode cX12_count 91 = .ok (.getfield 206, 3) := by decide +kernel
theorem dX12_count_94 : decode cX12_count 94 = .ok (.i2l, 1) := by decide +kernel
theorem dX12_count_95 : decode cX12_count 95 = .ok (.lreturn, 1) := by decide +kernel
theorem dX12_count_96 : decode cX12_count 96 = .ok (.aload_n 0, 1) := by decide +kernel
theorem dX12_count_97 : decode cX12_count 97 = .ok (.getfield 129, 3) := by decide +kernel
theorem dX12_count_100 : decode cX12_count 100 = .ok (.lreturn, 1) := by decide +kernel
theorem dX12_count_101 : decode cX12_count 101 = .ok (.aload_n 0, 1) := by decide +kernel
theorem dX12_count_102 : decode cX12_count 102 = .ok (.getfield 209, 3) := by decide +kernel
theorem dX12_count_105 : decode cX12_count 105 = .ok (.lreturn, 1) := by decide +kernel
theorem dX12_count_106 : decode cX12_count 106 = .ok (.new 48, 3) := by decide +kernel
theorem dX12_count_109 : decode cX12_count 109 = .ok (.dup, 1) := by decide +kernel
theorem dX12_count_110 : decode cX12_count 110 = .ok (.ldc 158, 2) := by decide +kernel
theorem dX12_count_112 : decode cX12_count 112 = .ok (.invokespecial 52, 3) := by decide +kernel
theorem dX12_count_115 : decode cX12_count 115 = .ok (.athrow, 1) := by decide +kernel
theorem dX12_fits_0 : decode cX12_fits 0 = .ok (.iload_n 0, 1) := by decide +kernel
theorem dX12_fits_1 : decode cX12_fits 1 = .ok (.tableswitch 94 0 4 #[35, 94, 50, 60, 77], 35) := by decide +kernel
theorem dX12_fits_36 : decode cX12_fits 36 = .ok (.iload_n 1, 1) := by decide +kernel
theorem dX12_fits_37 : decode cX12_fits 37 = .ok (.ifCond .eq 8, 3) := by decide +kernel
theorem dX12_fits_40 : decode cX12_fits 40 = .ok (.iload_n 1, 1) := by decide +kernel
theorem dX12_fits_41 : decode cX12_fits 41 = .ok (.iconst 1, 1) := by decide +kernel
theorem dX12_fits_42 : decode cX12_fits 42 = .ok (.if_icmp .ne 7, 3) := by decide +kernel
theorem dX12_fits_45 : decode cX12_fits 45 = .ok (.iconst 1, 1) := by decide +kernel
theorem dX12_fits_46 : decode cX12_fits 46 = .ok (.goto 4, 3) := by decide +kernel
theorem dX12_fits_49 : decode cX12_fits 49 = .ok (.iconst 0, 1) := by decide +kernel
theorem dX12_fits_50 : decode cX12_fits 50 = .ok (.ireturn, 1) := by decide +kernel
theorem dX12_fits_51 : decode cX12_fits 51 = .ok (.iload_n 1, 1) := by decide +kernel
theorem dX12_fits_52 : decode cX12_fits 52 = .ok (.ifCond .lt 7, 3) := by decide +kernel
theorem dX12_fits_55 : decode cX12_fits 55 = .ok (.iconst 1, 1) := by decide +kernel
theorem dX12_fits_56 : decode cX12_fits 56 = .ok (.goto 4, 3) := by decide +kernel
theorem dX12_fits_59 : decode cX12_fits 59 = .ok (.iconst 0, 1) := by decide +kernel
theorem dX12_fits_60 : decode cX12_fits 60 = .ok (.ireturn, 1) := by decide +kernel
theorem dX12_fits_61 : decode cX12_fits 61 = .ok (.iload_n 1, 1) := by decide +kernel
theorem dX12_fits_62 : decode cX12_fits 62 = .ok (.iconst 1, 1) := by decide +kernel
theorem dX12_fits_63 : decode cX12_fits 63 = .ok (.if_icmp .lt 13, 3) := by decide +kernel
theorem dX12_fits_66 : decode cX12_fits 66 = .ok (.iload_n 1, 1) := by decide +kernel
theorem dX12_fits_67 : decode cX12_fits 67 = .ok (.bipush 8, 2) := by decide +kernel
theorem dX12_fits_69 : decode cX12_fits 69 = .ok (.if_icmp .gt 7, 3) := by decide +kernel
theorem dX12_fits_72 : decode cX12_fits 72 = .ok (.iconst 1, 1) := by decide +kernel
theorem dX12_fits_73 : decode cX12_fits 73 = .ok (.goto 4, 3) := by decide +kernel
theorem dX12_fits_76 : decode cX12_fits 76 = .ok (.iconst 0, 1) := by decide +kernel
theorem dX12_fits_77 : decode cX12_fits 77 = .ok (.ireturn, 1) := by decide +kernel
theorem dX12_fits_78 : decode cX12_fits 78 = .ok (.iload_n 1, 1) := by decide +kernel
theorem dX12_fits_79 : decode cX12_fits 79 = .ok (.iconst 1, 1) := by decide +kernel
theorem dX12_fits_80 : decode cX12_fits 80 = .ok (.if_icmp .lt 13, 3) := by decide +kernel
theorem dX12_fits_83 : decode cX12_fits 83 = .ok (.iload_n 1, 1) := by decide +kernel
theorem dX12_fits_84 : decode cX12_fits 84 = .ok (.bipush 100, 2) := by decide +kernel
theorem dX12_fits_86 : decode cX12_fits 86 = .ok (.if_icmp .gt 7, 3) := by decide +kernel
theorem dX12_fits_89 : decode cX12_fits 89 = .ok (.iconst 1, 1) := by decide +kernel
theorem dX12_fits_90 : decode cX12_fits 90 = .ok (.goto 4, 3) := by decide +kernel
theorem dX12_fits_93 : decode cX12_fits 93 = .ok (.iconst 0, 1) := by decide +kernel
theorem dX12_fits_94 : decode cX12_fits 94 = .ok (.ireturn, 1) := by decide +kernel
theorem dX12_fits_95 : decode cX12_fits 95 = .ok (.iload_n 0, 1) := by decide +kernel
theorem dX12_fits_96 : decode cX12_fits 96 = .ok (.ifCond .lt 13, 3) := by decide +kernel
theorem dX12_fits_99 : decode cX12_fits 99 = .ok (.iload_n 0, 1) := by decide +kernel
theorem dX12_fits_100 : decode cX12_fits 100 = .ok (.bipush 7, 2) := by decide +kernel
theorem dX12_fits_102 : decode cX12_fits 102 = .ok (.if_icmp .gt 7, 3) := by decide +kernel
theorem dX12_fits_105 : decode cX12_fits 105 = .ok (.iconst 1, 1) := by decide +kernel
theorem dX12_fits_106 : decode cX12_fits 106 = .ok (.goto 4, 3) := by decide +kernel
theorem dX12_fits_109 : decode cX12_fits 109 = .ok (.iconst 0, 1) := by decide +kernel
theorem dX12_fits_110 : decode cX12_fits 110 = .ok (.ireturn, 1) := by decide +kernel
theorem dX12_built_0 : decode cX12_built 0 = .ok (.iload_n 1, 1) := by decide +kernel
theorem dX12_built_1 : decode cX12_built 1 = .ok (.tableswitch 119 0 7 #[47, 66, 119, 119, 76, 86, 98, 110], 47) := by decide +kernel
theorem dX12_built_48 : decode cX12_built 48 = .ok (.new 147, 3) := by decide +kernel
theorem dX12_built_51 : decode cX12_built 51 = .ok (.dup, 1) := by decide +kernel
theorem dX12_built_52 : decode cX12_built 52 = .ok (.iload_n 0, 1) := by decide +kernel
theorem dX12_built_53 : decode cX12_built 53 = .ok (.iload_n 2, 1) := by decide +kernel
theorem dX12_built_54 : decode cX12_built 54 = .ok (.iconst 1, 1) := by decide +kernel
theorem dX12_built_55 : decode cX12_built 55 = .ok (.if_icmp .ne 7, 3) := by decide +kernel
theorem dX12_built_58 : decode cX12_built 58 = .ok (.iconst 1, 1) := by decide +kernel
theorem dX12_built_59 : decode cX12_built 59 = .ok (.goto 4, 3) := by decide +kernel
theorem dX12_built_62 : decode cX12_built 62 = .ok (.iconst 0, 1) := by decide +kernel
theorem dX12_built_63 : decode cX12_built 63 = .ok (.invokespecial 212, 3) := by decide +kernel
theorem dX12_built_66 : decode cX12_built 66 = .ok (.areturn, 1) := by decide +kernel
theorem dX12_built_67 : decode cX12_built 67 = .ok (.new 215, 3) := by decide +kernel
theorem dX12_built_70 : decode cX12_built 70 = .ok (.dup, 1) := by decide +kernel
theorem dX12_built_71 : decode cX12_built 71 = .ok (.iload_n 0, 1) := by decide +kernel
theorem dX12_built_72 : decode cX12_built 72 = .ok (.iload_n 2, 1) := by decide +kernel
theorem dX12_built_73 : decode cX12_built 73 = .ok (.invokespecial 217, 3) := by decide +kernel
theorem dX12_built_76 : decode cX12_built 76 = .ok (.areturn, 1) := by decide +kernel
theorem dX12_built_77 : decode cX12_built 77 = .ok (.new 220, 3) := by decide +kernel
theorem dX12_built_80 : decode cX12_built 80 = .ok (.dup, 1) := by decide +kernel
theorem dX12_built_81 : decode cX12_built 81 = .ok (.iload_n 0, 1) := by decide +kernel
theorem dX12_built_82 : decode cX12_built 82 = .ok (.iload_n 2, 1) := by decide +kernel
theorem dX12_built_83 : decode cX12_built 83 = .ok (.invokespecial 222, 3) := by decide +kernel
theorem dX12_built_86 : decode cX12_built 86 = .ok (.areturn, 1) := by decide +kernel
theorem dX12_built_87 : decode cX12_built 87 = .ok (.new 223, 3) := by decide +kernel
theorem dX12_built_90 : decode cX12_built 90 = .ok (.dup, 1) := by decide +kernel
theorem dX12_built_91 : decode cX12_built 91 = .ok (.iload_n 0, 1) := by decide +kernel
theorem dX12_built_92 : decode cX12_built 92 = .ok (.iload_n 1, 1) := by decide +kernel
theorem dX12_built_93 : decode cX12_built 93 = .ok (.iconst 1, 1) := by decide +kernel
theorem dX12_built_94 : decode cX12_built 94 = .ok (.iload_n 2, 1) := by decide +kernel
theorem dX12_built_95 : decode cX12_built 95 = .ok (.invokespecial 225, 3) := by decide +kernel
theorem dX12_built_98 : decode cX12_built 98 = .ok (.areturn, 1) := by decide +kernel
theorem dX12_built_99 : decode cX12_built 99 = .ok (.new 223, 3) := by decide +kernel
theorem dX12_built_102 : decode cX12_built 102 = .ok (.dup, 1) := by decide +kernel
theorem dX12_built_103 : decode cX12_built 103 = .ok (.iload_n 0, 1) := by decide +kernel
theorem dX12_built_104 : decode cX12_built 104 = .ok (.iload_n 1, 1) := by decide +kernel
theorem dX12_built_105 : decode cX12_built 105 = .ok (.iconst 0, 1) := by decide +kernel
theorem dX12_built_106 : decode cX12_built 106 = .ok (.iconst 0, 1) := by decide +kernel
theorem dX12_built_107 : decode cX12_built 107 = .ok (.invokespecial 225, 3) := by decide +kernel
theorem dX12_built_110 : decode cX12_built 110 = .ok (.areturn, 1) := by decide +kernel
theorem dX12_built_111 : decode cX12_built 111 = .ok (.new 228, 3) := by decide +kernel
theorem dX12_built_114 : decode cX12_built 114 = .ok (.dup, 1) := by decide +kernel
theorem dX12_built_115 : decode cX12_built 115 = .ok (.iload_n 0, 1) := by decide +kernel
theorem dX12_built_116 : decode cX12_built 116 = .ok (.invokespecial 230, 3) := by decide +kernel
theorem dX12_built_119 : decode cX12_built 119 = .ok (.areturn, 1) := by decide +kernel
theorem dX12_built_120 : decode cX12_built 120 = .ok (.new 231, 3) := by decide +kernel
theorem dX12_built_123 : decode cX12_built 123 = .ok (.dup, 1) := by decide +kernel
theorem dX12_built_124 : decode cX12_built 124 = .ok (.iload_n 0, 1) := by decide +kernel
theorem dX12_built_125 : decode cX12_built 125 = .ok (.iload_n 1, 1) := by decide +kernel
theorem dX12_built_126 : decode cX12_built 126 = .ok (.iload_n 2, 1) := by decide +kernel
theorem dX12_built_127 : decode cX12_built 127 = .ok (.invokespecial 233, 3) := by decide +kernel
theorem dX12_built_130 : decode cX12_built 130 = .ok (.areturn, 1) := by decide +kernel
theorem dX12_syncAt_0 : decode cX12_syncAt 0 = .ok (.iload_n 1, 1) := by decide +kernel
theorem dX12_syncAt_1 : decode cX12_syncAt 1 = .ok (.ifCond .lt 21, 3) := by decide +kernel
theorem dX12_syncAt_4 : decode cX12_syncAt 4 = .ok (.iload_n 1, 1) := by decide +kernel
theorem dX12_syncAt_5 : decode cX12_syncAt 5 = .ok (.aload_n 0, 1) := by decide +kernel
theorem dX12_syncAt_6 : decode cX12_syncAt 6 = .ok (.getfield 18, 3) := by decide +kernel
theorem dX12_syncAt_9 : decode cX12_syncAt 9 = .ok (.arraylength, 1) := by decide +kernel
theorem dX12_syncAt_10 : decode cX12_syncAt 10 = .ok (.if_icmp .ge 12, 3) := by decide +kernel
theorem dX12_syncAt_13 : decode cX12_syncAt 13 = .ok (.aload_n 0, 1) := by decide +kernel
theorem dX12_syncAt_14 : decode cX12_syncAt 14 = .ok (.getfield 18, 3) := by decide +kernel
theorem dX12_syncAt_17 : decode cX12_syncAt 17 = .ok (.iload_n 1, 1) := by decide +kernel
theorem dX12_syncAt_18 : decode cX12_syncAt 18 = .ok (.aaload, 1) := by decide +kernel
theorem dX12_syncAt_19 : decode cX12_syncAt 19 = .ok (.goto 4, 3) := by decide +kernel
theorem dX12_syncAt_22 : decode cX12_syncAt 22 = .ok (.aconst_null, 1) := by decide +kernel
theorem dX12_syncAt_23 : decode cX12_syncAt 23 = .ok (.areturn, 1) := by decide +kernel
theorem dX12_leastFree_0 : decode cX12_leastFree 0 = .ok (.iconst 0, 1) := by decide +kernel
theorem dX12_leastFree_1 : decode cX12_leastFree 1 = .ok (.istore_n 1, 1) := by decide +kernel
theorem dX12_leastFree_2 : decode cX12_leastFree 2 = .ok (.iload_n 1, 1) := by decide +kernel
theorem dX12_leastFree_3 : decode cX12_leastFree 3 = .ok (.aload_n 0, 1) := by decide +kernel
theorem dX12_leastFree_4 : decode cX12_leastFree 4 = .ok (.getfield 18, 3) := by decide +kernel
theorem dX12_leastFree_7 : decode cX12_leastFree 7 = .ok (.arraylength, 1) := by decide +kernel
theorem dX12_leastFree_8 : decode cX12_leastFree 8 = .ok (.if_icmp .ge 20, 3) := by decide +kernel
theorem dX12_leastFree_11 : decode cX12_leastFree 11 = .ok (.aload_n 0, 1) := by decide +kernel
theorem dX12_leastFree_12 : decode cX12_leastFree 12 = .ok (.getfield 18, 3) := by decide +kernel
theorem dX12_leastFree_15 : decode cX12_leastFree 15 = .ok (.iload_n 1, 1) := by decide +kernel
theorem dX12_leastFree_16 : decode cX12_leastFree 16 = .ok (.aaload, 1) := by decide +kernel
theorem dX12_leastFree_17 : decode cX12_leastFree 17 = .ok (.ifnonnull 5, 3) := by decide +kernel
theorem dX12_leastFree_20 : decode cX12_leastFree 20 = .ok (.iload_n 1, 1) := by decide +kernel
theorem dX12_leastFree_21 : decode cX12_leastFree 21 = .ok (.ireturn, 1) := by decide +kernel
theorem dX12_leastFree_22 : decode cX12_leastFree 22 = .ok (.iinc 1 1, 3) := by decide +kernel
theorem dX12_leastFree_25 : decode cX12_leastFree 25 = .ok (.goto (-23), 3) := by decide +kernel
theorem dX12_leastFree_28 : decode cX12_leastFree 28 = .ok (.iconst (-1), 1) := by decide +kernel
theorem dX12_leastFree_29 : decode cX12_leastFree 29 = .ok (.ireturn, 1) := by decide +kernel
theorem dX12_howManySyncs_0 : decode cX12_howManySyncs 0 = .ok (.iconst 0, 1) := by decide +kernel
theorem dX12_howManySyncs_1 : decode cX12_howManySyncs 1 = .ok (.istore_n 1, 1) := by decide +kernel
theorem dX12_howManySyncs_2 : decode cX12_howManySyncs 2 = .ok (.aload_n 0, 1) := by decide +kernel
theorem dX12_howManySyncs_3 : decode cX12_howManySyncs 3 = .ok (.getfield 18, 3) := by decide +kernel
theorem dX12_howManySyncs_6 : decode cX12_howManySyncs 6 = .ok (.astore_n 2, 1) := by decide +kernel
theorem dX12_howManySyncs_7 : decode cX12_howManySyncs 7 = .ok (.aload_n 2, 1) := by decide +kernel
theorem dX12_howManySyncs_8 : decode cX12_howManySyncs 8 = .ok (.arraylength, 1) := by decide +kernel
theorem dX12_howManySyncs_9 : decode cX12_howManySyncs 9 = .ok (.istore_n 3, 1) := by decide +kernel
theorem dX12_howManySyncs_10 : decode cX12_howManySyncs 10 = .ok (.iconst 0, 1) := by decide +kernel
theorem dX12_howManySyncs_11 : decode cX12_howManySyncs 11 = .ok (.istore 4, 2) := by decide +kernel
theorem dX12_howManySyncs_13 : decode cX12_howManySyncs 13 = .ok (.iload 4, 2) := by decide +kernel
theorem dX12_howManySyncs_15 : decode cX12_howManySyncs 15 = .ok (.iload_n 3, 1) := by decide +kernel
theorem dX12_howManySyncs_16 : decode cX12_howManySyncs 16 = .ok (.if_icmp .ge 28, 3) := by decide +kernel
theorem dX12_howManySyncs_19 : decode cX12_howManySyncs 19 = .ok (.aload_n 2, 1) := by decide +kernel
theorem dX12_howManySyncs_20 : decode cX12_howManySyncs 20 = .ok (.iload 4, 2) := by decide +kernel
theorem dX12_howManySyncs_22 : decode cX12_howManySyncs 22 = .ok (.aaload, 1) := by decide +kernel
theorem dX12_howManySyncs_23 : decode cX12_howManySyncs 23 = .ok (.astore 5, 2) := by decide +kernel
theorem dX12_howManySyncs_25 : decode cX12_howManySyncs 25 = .ok (.iload_n 1, 1) := by decide +kernel
theorem dX12_howManySyncs_26 : decode cX12_howManySyncs 26 = .ok (.aload 5, 2) := by decide +kernel
theorem dX12_howManySyncs_28 : decode cX12_howManySyncs 28 = .ok (.ifnonnull 7, 3) := by decide +kernel
theorem dX12_howManySyncs_31 : decode cX12_howManySyncs 31 = .ok (.iconst 0, 1) := by decide +kernel
theorem dX12_howManySyncs_32 : decode cX12_howManySyncs 32 = .ok (.goto 4, 3) := by decide +kernel
theorem dX12_howManySyncs_35 : decode cX12_howManySyncs 35 = .ok (.iconst 1, 1) := by decide +kernel
theorem dX12_howManySyncs_36 : decode cX12_howManySyncs 36 = .ok (.iadd, 1) := by decide +kernel
theorem dX12_howManySyncs_37 : decode cX12_howManySyncs 37 = .ok (.istore_n 1, 1) := by decide +kernel
theorem dX12_howManySyncs_38 : decode cX12_howManySyncs 38 = .ok (.iinc 4 1, 3) := by decide +kernel
theorem dX12_howManySyncs_41 : decode cX12_howManySyncs 41 = .ok (.goto (-28), 3) := by decide +kernel
theorem dX12_howManySyncs_44 : decode cX12_howManySyncs 44 = .ok (.iload_n 1, 1) := by decide +kernel
theorem dX12_howManySyncs_45 : decode cX12_howManySyncs 45 = .ok (.ireturn, 1) := by decide +kernel
theorem dX12_strandAt_0 : decode cX12_strandAt 0 = .ok (.iload_n 1, 1) := by decide +kernel
theorem dX12_strandAt_1 : decode cX12_strandAt 1 = .ok (.ifCond .lt 12, 3) := by decide +kernel
theorem dX12_strandAt_4 : decode cX12_strandAt 4 = .ok (.iload_n 1, 1) := by decide +kernel
theorem dX12_strandAt_5 : decode cX12_strandAt 5 = .ok (.aload_n 0, 1) := by decide +kernel
theorem dX12_strandAt_6 : decode cX12_strandAt 6 = .ok (.getfield 24, 3) := by decide +kernel
theorem dX12_strandAt_9 : decode cX12_strandAt 9 = .ok (.arraylength, 1) := by decide +kernel
theorem dX12_strandAt_10 : decode cX12_strandAt 10 = .ok (.if_icmp .lt 13, 3) := by decide +kernel
theorem dX12_strandAt_13 : decode cX12_strandAt 13 = .ok (.new 48, 3) := by decide +kernel
theorem dX12_strandAt_16 : decode cX12_strandAt 16 = .ok (.dup, 1) := by decide +kernel
theorem dX12_strandAt_17 : decode cX12_strandAt 17 = .ok (.ldc 236, 2) := by decide +kernel
theorem dX12_strandAt_19 : decode cX12_strandAt 19 = .ok (.invokespecial 52, 3) := by decide +kernel
theorem dX12_strandAt_22 : decode cX12_strandAt 22 = .ok (.athrow, 1) := by decide +kernel
theorem dX12_strandAt_23 : decode cX12_strandAt 23 = .ok (.aload_n 0, 1) := by decide +kernel
theorem dX12_strandAt_24 : decode cX12_strandAt 24 = .ok (.getfield 24, 3) := by decide +kernel
theorem dX12_strandAt_27 : decode cX12_strandAt 27 = .ok (.iload_n 1, 1) := by decide +kernel
theorem dX12_strandAt_28 : decode cX12_strandAt 28 = .ok (.aaload, 1) := by decide +kernel
theorem dX12_strandAt_29 : decode cX12_strandAt 29 = .ok (.areturn, 1) := by decide +kernel
theorem dX12_howManyReady_0 : decode cX12_howManyReady 0 = .ok (.iconst 0, 1) := by decide +kernel
theorem dX12_howManyReady_1 : decode cX12_howManyReady 1 = .ok (.istore_n 1, 1) := by decide +kernel
theorem dX12_howManyReady_2 : decode cX12_howManyReady 2 = .ok (.aload_n 0, 1) := by decide +kernel
theorem dX12_howManyReady_3 : decode cX12_howManyReady 3 = .ok (.getfield 24, 3) := by decide +kernel
theorem dX12_howManyReady_6 : decode cX12_howManyReady 6 = .ok (.astore_n 2, 1) := by decide +kernel
theorem dX12_howManyReady_7 : decode cX12_howManyReady 7 = .ok (.aload_n 2, 1) := by decide +kernel
theorem dX12_howManyReady_8 : decode cX12_howManyReady 8 = .ok (.arraylength, 1) := by decide +kernel
theorem dX12_howManyReady_9 : decode cX12_howManyReady 9 = .ok (.istore_n 3, 1) := by decide +kernel
theorem dX12_howManyReady_10 : decode cX12_howManyReady 10 = .ok (.iconst 0, 1) := by decide +kernel
theorem dX12_howManyReady_11 : decode cX12_howManyReady 11 = .ok (.istore 4, 2) := by decide +kernel
theorem dX12_howManyReady_13 : decode cX12_howManyReady 13 = .ok (.iload 4, 2) := by decide +kernel
theorem dX12_howManyReady_15 : decode cX12_howManyReady 15 = .ok (.iload_n 3, 1) := by decide +kernel
theorem dX12_howManyReady_16 : decode cX12_howManyReady 16 = .ok (.if_icmp .ge 32, 3) := by decide +kernel
theorem dX12_howManyReady_19 : decode cX12_howManyReady 19 = .ok (.aload_n 2, 1) := by decide +kernel
theorem dX12_howManyReady_20 : decode cX12_howManyReady 20 = .ok (.iload 4, 2) := by decide +kernel
theorem dX12_howManyReady_22 : decode cX12_howManyReady 22 = .ok (.aaload, 1) := by decide +kernel
theorem dX12_howManyReady_23 : decode cX12_howManyReady 23 = .ok (.astore 5, 2) := by decide +kernel
theorem dX12_howManyReady_25 : decode cX12_howManyReady 25 = .ok (.iload_n 1, 1) := by decide +kernel
theorem dX12_howManyReady_26 : decode cX12_howManyReady 26 = .ok (.aload 5, 2) := by decide +kernel
theorem dX12_howManyReady_28 : decode cX12_howManyReady 28 = .ok (.getfield 112, 3) := by decide +kernel
theorem dX12_howManyReady_31 : decode cX12_howManyReady 31 = .ok (.iconst 1, 1) := by decide +kernel
theorem dX12_howManyReady_32 : decode cX12_howManyReady 32 = .ok (.if_icmp .ne 7, 3) := by decide +kernel
theorem dX12_howManyReady_35 : decode cX12_howManyReady 35 = .ok (.iconst 1, 1) := by decide +kernel
theorem dX12_howManyReady_36 : decode cX12_howManyReady 36 = .ok (.goto 4, 3) := by decide +kernel
theorem dX12_howManyReady_39 : decode cX12_howManyReady 39 = .ok (.iconst 0, 1) := by decide +kernel
theorem dX12_howManyReady_40 : decode cX12_howManyReady 40 = .ok (.iadd, 1) := by decide +kernel
theorem dX12_howManyReady_41 : decode cX12_howManyReady 41 = .ok (.istore_n 1, 1) := by decide +kernel
theorem dX12_howManyReady_42 : decode cX12_howManyReady 42 = .ok (.iinc 4 1, 3) := by decide +kernel
theorem dX12_howManyReady_45 : decode cX12_howManyReady 45 = .ok (.goto (-32), 3) := by decide +kernel
theorem dX12_howManyReady_48 : decode cX12_howManyReady 48 = .ok (.iload_n 1, 1) := by decide +kernel
theorem dX12_howManyReady_49 : decode cX12_howManyReady 49 = .ok (.ireturn, 1) := by decide +kernel
theorem dX12_readyFrom_0 : decode cX12_readyFrom 0 = .ok (.iload_n 2, 1) := by decide +kernel
theorem dX12_readyFrom_1 : decode cX12_readyFrom 1 = .ok (.istore_n 3, 1) := by decide +kernel
theorem dX12_readyFrom_2 : decode cX12_readyFrom 2 = .ok (.iconst 0, 1) := by decide +kernel
theorem dX12_readyFrom_3 : decode cX12_readyFrom 3 = .ok (.istore 4, 2) := by decide +kernel
theorem dX12_readyFrom_5 : decode cX12_readyFrom 5 = .ok (.iload 4, 2) := by decide +kernel
theorem dX12_readyFrom_7 : decode cX12_readyFrom 7 = .ok (.bipush 8, 2) := by decide +kernel
theorem dX12_readyFrom_9 : decode cX12_readyFrom 9 = .ok (.if_icmp .ge 42, 3) := by decide +kernel
theorem dX12_readyFrom_12 : decode cX12_readyFrom 12 = .ok (.aload_n 0, 1) := by decide +kernel
theorem dX12_readyFrom_13 : decode cX12_readyFrom 13 = .ok (.getfield 24, 3) := by decide +kernel
theorem dX12_readyFrom_16 : decode cX12_readyFrom 16 = .ok (.iload_n 1, 1) := by decide +kernel
theorem dX12_readyFrom_17 : decode cX12_readyFrom 17 = .ok (.iload 4, 2) := by decide +kernel
theorem dX12_readyFrom_19 : decode cX12_readyFrom 19 = .ok (.iadd, 1) := by decide +kernel
theorem dX12_readyFrom_20 : decode cX12_readyFrom 20 = .ok (.bipush 7, 2) := by decide +kernel
theorem dX12_readyFrom_22 : decode cX12_readyFrom 22 = .ok (.iand, 1) := by decide +kernel
theorem dX12_readyFrom_23 : decode cX12_readyFrom 23 = .ok (.aaload, 1) := by decide +kernel
theorem dX12_readyFrom_24 : decode cX12_readyFrom 24 = .ok (.astore 5, 2) := by decide +kernel
theorem dX12_readyFrom_26 : decode cX12_readyFrom 26 = .ok (.aload 5, 2) := by decide +kernel
theorem dX12_readyFrom_28 : decode cX12_readyFrom 28 = .ok (.getfield 112, 3) := by decide +kernel
theorem dX12_readyFrom_31 : decode cX12_readyFrom 31 = .ok (.iconst 1, 1) := by decide +kernel
theorem dX12_readyFrom_32 : decode cX12_readyFrom 32 = .ok (.if_icmp .ne 13, 3) := by decide +kernel
theorem dX12_readyFrom_35 : decode cX12_readyFrom 35 = .ok (.iload_n 3, 1) := by decide +kernel
theorem dX12_readyFrom_36 : decode cX12_readyFrom 36 = .ok (.ifCond .ne 6, 3) := by decide +kernel
theorem dX12_readyFrom_39 : decode cX12_readyFrom 39 = .ok (.aload 5, 2) := by decide +kernel
theorem dX12_readyFrom_41 : decode cX12_readyFrom 41 = .ok (.areturn, 1) := by decide +kernel
theorem dX12_readyFrom_42 : decode cX12_readyFrom 42 = .ok (.iinc 3 (-1), 3) := by decide +kernel
theorem dX12_readyFrom_45 : decode cX12_readyFrom 45 = .ok (.iinc 4 1, 3) := by decide +kernel
theorem dX12_readyFrom_48 : decode cX12_readyFrom 48 = .ok (.goto (-43), 3) := by decide +kernel
theorem dX12_readyFrom_51 : decode cX12_readyFrom 51 = .ok (.aconst_null, 1) := by decide +kernel
theorem dX12_readyFrom_52 : decode cX12_readyFrom 52 = .ok (.areturn, 1) := by decide +kernel
theorem dX12_takeTurn_0 : decode cX12_takeTurn 0 = .ok (.aload_n 1, 1) := by decide +kernel
theorem dX12_takeTurn_1 : decode cX12_takeTurn 1 = .ok (.ifnonnull 4, 3) := by decide +kernel
theorem dX12_takeTurn_4 : decode cX12_takeTurn 4 = .ok (.return_, 1) := by decide +kernel
theorem dX12_takeTurn_5 : decode cX12_takeTurn 5 = .ok (.aload_n 0, 1) := by decide +kernel
theorem dX12_takeTurn_6 : decode cX12_takeTurn 6 = .ok (.dup, 1) := by decide +kernel
theorem dX12_takeTurn_7 : decode cX12_takeTurn 7 = .ok (.getfield 209, 3) := by decide +kernel
theorem dX12_takeTurn_10 : decode cX12_takeTurn 10 = .ok (.lconst 1, 1) := by decide +kernel
theorem dX12_takeTurn_11 : decode cX12_takeTurn 11 = .ok (.ladd, 1) := by decide +kernel
theorem dX12_takeTurn_12 : decode cX12_takeTurn 12 = .ok (.putfield 209, 3) := by decide +kernel
theorem dX12_takeTurn_15 : decode cX12_takeTurn 15 = .ok (.aload_n 0, 1) := by decide +kernel
theorem dX12_takeTurn_16 : decode cX12_takeTurn 16 = .ok (.aload_n 1, 1) := by decide +kernel
theorem dX12_takeTurn_17 : decode cX12_takeTurn 17 = .ok (.getfield 238, 3) := by decide +kernel
theorem dX12_takeTurn_20 : decode cX12_takeTurn 20 = .ok (.putfield 28, 3) := by decide +kernel
theorem dX12_takeTurn_23 : decode cX12_takeTurn 23 = .ok (.aload_n 1, 1) := by decide +kernel
theorem dX12_takeTurn_24 : decode cX12_takeTurn 24 = .ok (.getfield 143, 3) := by decide +kernel
theorem dX12_takeTurn_27 : decode cX12_takeTurn 27 = .ok (.astore_n 3, 1) := by decide +kernel
theorem dX12_takeTurn_28 : decode cX12_takeTurn 28 = .ok (.aload_n 3, 1) := by decide +kernel
theorem dX12_takeTurn_29 : decode cX12_takeTurn 29 = .ok (.instanceof 147, 3) := by decide +kernel
theorem dX12_takeTurn_32 : decode cX12_takeTurn 32 = .ok (.ifCond .eq 14, 3) := by decide +kernel
theorem dX12_takeTurn_35 : decode cX12_takeTurn 35 = .ok (.aload_n 3, 1) := by decide +kernel
theorem dX12_takeTurn_36 : decode cX12_takeTurn 36 = .ok (.checkcast 147, 3) := by decide +kernel
theorem dX12_takeTurn_39 : decode cX12_takeTurn 39 = .ok (.astore_n 2, 1) := by decide +kernel
theorem dX12_takeTurn_40 : decode cX12_takeTurn 40 = .ok (.aload_n 2, 1) := by decide +kernel
theorem dX12_takeTurn_41 : decode cX12_takeTurn 41 = .ok (.aload_n 1, 1) := by decide +kernel
theorem dX12_takeTurn_42 : decode cX12_takeTurn 42 = .ok (.invokevirtual 239, 3) := by decide +kernel
theorem dX12_takeTurn_45 : decode cX12_takeTurn 45 = .ok (.return_, 1) := by decide +kernel
theorem dX12_takeTurn_46 : decode cX12_takeTurn 46 = .ok (.aload_n 1, 1) := by decide +kernel
theorem dX12_takeTurn_47 : decode cX12_takeTurn 47 = .ok (.invokevirtual 242, 3) := by decide +kernel
theorem dX12_takeTurn_50 : decode cX12_takeTurn 50 = .ok (.astore_n 2, 1) := by decide +kernel
theorem dX12_takeTurn_51 : decode cX12_takeTurn 51 = .ok (.aload_n 2, 1) := by decide +kernel
theorem dX12_takeTurn_52 : decode cX12_takeTurn 52 = .ok (.getfield 246, 3) := by decide +kernel
theorem dX12_takeTurn_55 : decode cX12_takeTurn 55 = .ok (.iconst (-1), 1) := by decide +kernel
theorem dX12_takeTurn_56 : decode cX12_takeTurn 56 = .ok (.if_icmp .ne 10, 3) := by decide +kernel
theorem dX12_takeTurn_59 : decode cX12_takeTurn 59 = .ok (.aload_n 0, 1) := by decide +kernel
theorem dX12_takeTurn_60 : decode cX12_takeTurn 60 = .ok (.aload_n 1, 1) := by decide +kernel
theorem dX12_takeTurn_61 : decode cX12_takeTurn 61 = .ok (.aload_n 2, 1) := by decide +kernel
theorem dX12_takeTurn_62 : decode cX12_takeTurn 62 = .ok (.invokevirtual 249, 3) := by decide +kernel
theorem dX12_takeTurn_65 : decode cX12_takeTurn 65 = .ok (.return_, 1) := by decide +kernel
theorem dX12_takeTurn_66 : decode cX12_takeTurn 66 = .ok (.aload_n 0, 1) := by decide +kernel
theorem dX12_takeTurn_67 : decode cX12_takeTurn 67 = .ok (.aload_n 1, 1) := by decide +kernel
theorem dX12_takeTurn_68 : decode cX12_takeTurn 68 = .ok (.iconst 0, 1) := by decide +kernel
theorem dX12_takeTurn_69 : decode cX12_takeTurn 69 = .ok (.invokevirtual 253, 3) := by decide +kernel
theorem dX12_takeTurn_72 : decode cX12_takeTurn 72 = .ok (.invokevirtual 176, 3) := by decide +kernel
theorem dX12_takeTurn_75 : decode cX12_takeTurn 75 = .ok (.astore_n 3, 1) := by decide +kernel
theorem dX12_takeTurn_76 : decode cX12_takeTurn 76 = .ok (.aload_n 3, 1) := by decide +kernel
theorem dX12_takeTurn_77 : decode cX12_takeTurn 77 = .ok (.ifnull 14, 3) := by decide +kernel
theorem dX12_takeTurn_80 : decode cX12_takeTurn 80 = .ok (.aload_n 3, 1) := by decide +kernel
theorem dX12_takeTurn_81 : decode cX12_takeTurn 81 = .ok (.getfield 203, 3) := by decide +kernel
theorem dX12_takeTurn_84 : decode cX12_takeTurn 84 = .ok (.aload_n 2, 1) := by decide +kernel
theorem dX12_takeTurn_85 : decode cX12_takeTurn 85 = .ok (.getfield 246, 3) := by decide +kernel
theorem dX12_takeTurn_88 : decode cX12_takeTurn 88 = .ok (.if_icmp .eq 11, 3) := by decide +kernel
theorem dX12_takeTurn_91 : decode cX12_takeTurn 91 = .ok (.aload_n 1, 1) := by decide +kernel
theorem dX12_takeTurn_92 : decode cX12_takeTurn 92 = .ok (.iconst 2, 1) := by decide +kernel
theorem dX12_takeTurn_93 : decode cX12_takeTurn 93 = .ok (.invokevirtual 256, 3) := by decide +kernel
theorem dX12_takeTurn_96 : decode cX12_takeTurn 96 = .ok (.goto 9, 3) := by decide +kernel
theorem dX12_takeTurn_99 : decode cX12_takeTurn 99 = .ok (.aload_n 3, 1) := by decide +kernel
theorem dX12_takeTurn_100 : decode cX12_takeTurn 100 = .ok (.aload_n 1, 1) := by decide +kernel
theorem dX12_takeTurn_101 : decode cX12_takeTurn 101 = .ok (.aload_n 2, 1) := by decide +kernel
theorem dX12_takeTurn_102 : decode cX12_takeTurn 102 = .ok (.invokevirtual 259, 3) := by decide +kernel
theorem dX12_takeTurn_105 : decode cX12_takeTurn 105 = .ok (.return_, 1) := by decide +kernel
theorem dX12_doAlone_0 : decode cX12_doAlone 0 = .ok (.aload_n 1, 1) := by decide +kernel
theorem dX12_doAlone_1 : decode cX12_doAlone 1 = .ok (.iconst 0, 1) := by decide +kernel
theorem dX12_doAlone_2 : decode cX12_doAlone 2 = .ok (.invokevirtual 253, 3) := by decide +kernel
theorem dX12_doAlone_5 : decode cX12_doAlone 5 = .ok (.istore_n 3, 1) := by decide +kernel
theorem dX12_doAlone_6 : decode cX12_doAlone 6 = .ok (.getstatic 262, 3) := by decide +kernel
theorem dX12_doAlone_9 : decode cX12_doAlone 9 = .ok (.aload_n 2, 1) := by decide +kernel
theorem dX12_doAlone_10 : decode cX12_doAlone 10 = .ok (.invokevirtual 267, 3) := by decide +kernel
theorem dX12_doAlone_13 : decode cX12_doAlone 13 = .ok (.iaload, 1) := by decide +kernel
theorem dX12_doAlone_14 : decode cX12_doAlone 14 = .ok (.tableswitch 140 1 7 #[42, 50, 63, 75, 83, 107, 131], 42) := by decide +kernel
theorem dX12_doAlone_56 : decode cX12_doAlone 56 = .ok (.aload_n 1, 1) := by decide +kernel
theorem dX12_doAlone_57 : decode cX12_doAlone 57 = .ok (.iload_n 3, 1) := by decide +kernel
theorem dX12_doAlone_58 : decode cX12_doAlone 58 = .ok (.invokevirtual 155, 3) := by decide +kernel
theorem dX12_doAlone_61 : decode cX12_doAlone 61 = .ok (.goto 98, 3) := by decide +kernel
theorem dX12_doAlone_64 : decode cX12_doAlone 64 = .ok (.aload_n 1, 1) := by decide +kernel
theorem dX12_doAlone_65 : decode cX12_doAlone 65 = .ok (.aload_n 1, 1) := by decide +kernel
theorem dX12_doAlone_66 : decode cX12_doAlone 66 = .ok (.getfield 160, 3) := by decide +kernel
theorem dX12_doAlone_69 : decode cX12_doAlone 69 = .ok (.iload_n 3, 1) := by decide +kernel
theorem dX12_doAlone_70 : decode cX12_doAlone 70 = .ok (.iadd, 1) := by decide +kernel
theorem dX12_doAlone_71 : decode cX12_doAlone 71 = .ok (.invokevirtual 155, 3) := by decide +kernel
theorem dX12_doAlone_74 : decode cX12_doAlone 74 = .ok (.goto 85, 3) := by decide +kernel
theorem dX12_doAlone_77 : decode cX12_doAlone 77 = .ok (.aload_n 1, 1) := by decide +kernel
theorem dX12_doAlone_78 : decode cX12_doAlone 78 = .ok (.aload_n 0, 1) := by decide +kernel
theorem dX12_doAlone_79 : decode cX12_doAlone 79 = .ok (.getfield 129, 3) := by decide +kernel
theorem dX12_doAlone_82 : decode cX12_doAlone 82 = .ok (.l2i, 1) := by decide +kernel
theorem dX12_doAlone_83 : decode cX12_doAlone 83 = .ok (.invokevirtual 155, 3) := by decide +kernel
theorem dX12_doAlone_86 : decode cX12_doAlone 86 = .ok (.goto 73, 3) := by decide +kernel
theorem dX12_doAlone_89 : decode cX12_doAlone 89 = .ok (.aload_n 1, 1) := by decide +kernel
theorem dX12_doAlone_90 : decode cX12_doAlone 90 = .ok (.iload_n 3, 1) := by decide +kernel
theorem dX12_doAlone_91 : decode cX12_doAlone 91 = .ok (.invokevirtual 270, 3) := by decide +kernel
theorem dX12_doAlone_94 : decode cX12_doAlone 94 = .ok (.goto 65, 3) := by decide +kernel
theorem dX12_doAlone_97 : decode cX12_doAlone 97 = .ok (.aload_n 1, 1) := by decide +kernel
theorem dX12_doAlone_98 : decode cX12_doAlone 98 = .ok (.aload_n 1, 1) := by decide +kernel
theorem dX12_doAlone_99 : decode cX12_doAlone 99 = .ok (.getfield 160, 3) := by decide +kernel
theorem dX12_doAlone_102 : decode cX12_doAlone 102 = .ok (.ifCond .ne 7, 3) := by decide +kernel
theorem dX12_doAlone_105 : decode cX12_doAlone 105 = .ok (.iload_n 3, 1) := by decide +kernel
theorem dX12_doAlone_106 : decode cX12_doAlone 106 = .ok (.goto 9, 3) := by decide +kernel
theorem dX12_doAlone_109 : decode cX12_doAlone 109 = .ok (.aload_n 1, 1) := by decide +kernel
theorem dX12_doAlone_110 : decode cX12_doAlone 110 = .ok (.getfield 163, 3) := by decide +kernel
theorem dX12_doAlone_113 : decode cX12_doAlone 113 = .ok (.iconst 1, 1) := by decide +kernel
theorem dX12_doAlone_114 : decode cX12_doAlone 114 = .ok (.iadd, 1) := by decide +kernel
theorem dX12_doAlone_115 : decode cX12_doAlone 115 = .ok (.invokevirtual 270, 3) := by decide +kernel
theorem dX12_doAlone_118 : decode cX12_doAlone 118 = .ok (.goto 41, 3) := by decide +kernel
theorem dX12_doAlone_121 : decode cX12_doAlone 121 = .ok (.aload_n 1, 1) := by decide +kernel
theorem dX12_doAlone_122 : decode cX12_doAlone 122 = .ok (.aload_n 1, 1) := by decide +kernel
theorem dX12_doAlone_123 : decode cX12_doAlone 123 = .ok (.getfield 160, 3) := by decide +kernel
theorem dX12_doAlone_126 : decode cX12_doAlone 126 = .ok (.ifCond .ge 7, 3) := by decide +kernel
theorem dX12_doAlone_129 : decode cX12_doAlone 129 = .ok (.iload_n 3, 1) := by decide +kernel
theorem dX12_doAlone_130 : decode cX12_doAlone 130 = .ok (.goto 9, 3) := by decide +kernel
theorem dX12_doAlone_133 : decode cX12_doAlone 133 = .ok (.aload_n 1, 1) := by decide +kernel
theorem dX12_doAlone_134 : decode cX12_doAlone 134 = .ok (.getfield 163, 3) := by decide +kernel
theorem dX12_doAlone_137 : decode cX12_doAlone 137 = .ok (.iconst 1, 1) := by decide +kernel
theorem dX12_doAlone_138 : decode cX12_doAlone 138 = .ok (.iadd, 1) := by decide +kernel
theorem dX12_doAlone_139 : decode cX12_doAlone 139 = .ok (.invokevirtual 270, 3) := by decide +kernel
theorem dX12_doAlone_142 : decode cX12_doAlone 142 = .ok (.goto 17, 3) := by decide +kernel
theorem dX12_doAlone_145 : decode cX12_doAlone 145 = .ok (.aload_n 0, 1) := by decide +kernel
theorem dX12_doAlone_146 : decode cX12_doAlone 146 = .ok (.aload_n 1, 1) := by decide +kernel
theorem dX12_doAlone_147 : decode cX12_doAlone 147 = .ok (.iload_n 3, 1) := by decide +kernel
theorem dX12_doAlone_148 : decode cX12_doAlone 148 = .ok (.invokevirtual 273, 3) := by decide +kernel
theorem dX12_doAlone_151 : decode cX12_doAlone 151 = .ok (.goto 8, 3) := by decide +kernel
theorem dX12_doAlone_154 : decode cX12_doAlone 154 = .ok (.aload_n 1, 1) := by decide +kernel
theorem dX12_doAlone_155 : decode cX12_doAlone 155 = .ok (.iconst 4, 1) := by decide +kernel
theorem dX12_doAlone_156 : decode cX12_doAlone 156 = .ok (.putfield 112, 3) := by decide +kernel
theorem dX12_doAlone_159 : decode cX12_doAlone 159 = .ok (.return_, 1) := by decide +kernel
theorem dX12_fallAsleep_0 : decode cX12_fallAsleep 0 = .ok (.iload_n 2, 1) := by decide +kernel
theorem dX12_fallAsleep_1 : decode cX12_fallAsleep 1 = .ok (.iconst 1, 1) := by decide +kernel
theorem dX12_fallAsleep_2 : decode cX12_fallAsleep 2 = .ok (.if_icmp .ge 10, 3) := by decide +kernel
theorem dX12_fallAsleep_5 : decode cX12_fallAsleep 5 = .ok (.aload_n 1, 1) := by decide +kernel
theorem dX12_fallAsleep_6 : decode cX12_fallAsleep 6 = .ok (.invokevirtual 136, 3) := by decide +kernel
theorem dX12_fallAsleep_9 : decode cX12_fallAsleep 9 = .ok (.goto 26, 3) := by decide +kernel
theorem dX12_fallAsleep_12 : decode cX12_fallAsleep 12 = .ok (.aload_n 1, 1) := by decide +kernel
theorem dX12_fallAsleep_13 : decode cX12_fallAsleep 13 = .ok (.invokevirtual 277, 3) := by decide +kernel
theorem dX12_fallAsleep_16 : decode cX12_fallAsleep 16 = .ok (.ifCond .ne 19, 3) := by decide +kernel
theorem dX12_fallAsleep_19 : decode cX12_fallAsleep 19 = .ok (.aload_n 1, 1) := by decide +kernel
theorem dX12_fallAsleep_20 : decode cX12_fallAsleep 20 = .ok (.aload_n 0, 1) := by decide +kernel
theorem dX12_fallAsleep_21 : decode cX12_fallAsleep 21 = .ok (.getfield 129, 3) := by decide +kernel
theorem dX12_fallAsleep_24 : decode cX12_fallAsleep 24 = .ok (.iload_n 2, 1) := by decide +kernel
theorem dX12_fallAsleep_25 : decode cX12_fallAsleep 25 = .ok (.i2l, 1) := by decide +kernel
theorem dX12_fallAsleep_26 : decode cX12_fallAsleep 26 = .ok (.ladd, 1) := by decide +kernel
theorem dX12_fallAsleep_27 : decode cX12_fallAsleep 27 = .ok (.putfield 133, 3) := by decide +kernel
theorem dX12_fallAsleep_30 : decode cX12_fallAsleep 30 = .ok (.aload_n 1, 1) := by decide +kernel
theorem dX12_fallAsleep_31 : decode cX12_fallAsleep 31 = .ok (.iconst 3, 1) := by decide +kernel
theorem dX12_fallAsleep_32 : decode cX12_fallAsleep 32 = .ok (.putfield 112, 3) := by decide +kernel
theorem dX12_fallAsleep_35 : decode cX12_fallAsleep 35 = .ok (.return_, 1) := by decide +kernel
theorem dX12_blockerOf_0 : decode cX12_blockerOf 0 = .ok (.iload_n 1, 1) := by decide +kernel
theorem dX12_blockerOf_1 : decode cX12_blockerOf 1 = .ok (.ifCond .lt 12, 3) := by decide +kernel
theorem dX12_blockerOf_4 : decode cX12_blockerOf 4 = .ok (.iload_n 1, 1) := by decide +kernel
theorem dX12_blockerOf_5 : decode cX12_blockerOf 5 = .ok (.aload_n 0, 1) := by decide +kernel
theorem dX12_blockerOf_6 : decode cX12_blockerOf 6 = .ok (.getfield 24, 3) := by decide +kernel
theorem dX12_blockerOf_9 : decode cX12_blockerOf 9 = .ok (.arraylength, 1) := by decide +kernel
theorem dX12_blockerOf_10 : decode cX12_blockerOf 10 = .ok (.if_icmp .lt 5, 3) := by decide +kernel
theorem dX12_blockerOf_13 : decode cX12_blockerOf 13 = .ok (.iconst (-1), 1) := by decide +kernel
theorem dX12_blockerOf_14 : decode cX12_blockerOf 14 = .ok (.ireturn, 1) := by decide +kernel
theorem dX12_blockerOf_15 : decode cX12_blockerOf 15 = .ok (.aload_n 0, 1) := by decide +kernel
theorem dX12_blockerOf_16 : decode cX12_blockerOf 16 = .ok (.getfield 24, 3) := by decide +kernel
theorem dX12_blockerOf_19 : decode cX12_blockerOf 19 = .ok (.iload_n 1, 1) := by decide +kernel
theorem dX12_blockerOf_20 : decode cX12_blockerOf 20 = .ok (.aaload, 1) := by decide +kernel
theorem dX12_blockerOf_21 : decode cX12_blockerOf 21 = .ok (.astore_n 2, 1) := by decide +kernel
theorem dX12_blockerOf_22 : decode cX12_blockerOf 22 = .ok (.aload_n 2, 1) := by decide +kernel
theorem dX12_blockerOf_23 : decode cX12_blockerOf 23 = .ok (.getfield 112, 3) := by decide +kernel
theorem dX12_blockerOf_26 : decode cX12_blockerOf 26 = .ok (.iconst 2, 1) := by decide +kernel
theorem dX12_blockerOf_27 : decode cX12_blockerOf 27 = .ok (.if_icmp .ne 39, 3) := by decide +kernel
theorem dX12_blockerOf_30 : decode cX12_blockerOf 30 = .ok (.aload_n 2, 1) := by decide +kernel
theorem dX12_blockerOf_31 : decode cX12_blockerOf 31 = .ok (.getfield 143, 3) := by decide +kernel
theorem dX12_blockerOf_34 : decode cX12_blockerOf 34 = .ok (.astore 4, 2) := by decide +kernel
theorem dX12_blockerOf_36 : decode cX12_blockerOf 36 = .ok (.aload 4, 2) := by decide +kernel
theorem dX12_blockerOf_38 : decode cX12_blockerOf 38 = .ok (.instanceof 147, 3) := by decide +kernel
theorem dX12_blockerOf_41 : decode cX12_blockerOf 41 = .ok (.ifCond .eq 25, 3) := by decide +kernel
theorem dX12_blockerOf_44 : decode cX12_blockerOf 44 = .ok (.aload 4, 2) := by decide +kernel
theorem dX12_blockerOf_46 : decode cX12_blockerOf 46 = .ok (.checkcast 147, 3) := by decide +kernel
theorem dX12_blockerOf_49 : decode cX12_blockerOf 49 = .ok (.astore_n 3, 1) := by decide +kernel
theorem dX12_blockerOf_50 : decode cX12_blockerOf 50 = .ok (.aload_n 2, 1) := by decide +kernel
theorem dX12_blockerOf_51 : decode cX12_blockerOf 51 = .ok (.getfield 280, 3) := by decide +kernel
theorem dX12_blockerOf_54 : decode cX12_blockerOf 54 = .ok (.aload_n 3, 1) := by decide +kernel
theorem dX12_blockerOf_55 : decode cX12_blockerOf 55 = .ok (.getfield 281, 3) := by decide +kernel
theorem dX12_blockerOf_58 : decode cX12_blockerOf 58 = .ok (.if_acmp .ne 8, 3) := by decide +kernel
theorem dX12_blockerOf_61 : decode cX12_blockerOf 61 = .ok (.aload_n 3, 1) := by decide +kernel
theorem dX12_blockerOf_62 : decode cX12_blockerOf 62 = .ok (.getfield 282, 3) := by decide +kernel
theorem dX12_blockerOf_65 : decode cX12_blockerOf 65 = .ok (.ireturn, 1) := by decide +kernel
theorem dX12_blockerOf_66 : decode cX12_blockerOf 66 = .ok (.iconst (-1), 1) := by decide +kernel
theorem dX12_blockerOf_67 : decode cX12_blockerOf 67 = .ok (.ireturn, 1) := by decide +kernel
theorem dJx29ce0_ordinal_8abf5_0 : decode cJx29ce0_ordinal_8abf5 0 = .ok (.aload_n 0, 1) := by decide +kernel
theorem dJx29ce0_ordinal_8abf5_1 : decode cJx29ce0_ordinal_8abf5 1 = .ok (.getfield 7, 3) := by decide +kernel
theorem dJx29ce0_ordinal_8abf5_4 : decode cJx29ce0_ordinal_8abf5 4 = .ok (.ireturn, 1) := by decide +kernel
theorem dJ0_length_8abf5_0 : decode cJ0_length_8abf5 0 = .ok (.aload_n 0, 1) := by decide +kernel
theorem dJ0_length_8abf5_1 : decode cJ0_length_8abf5 1 = .ok (.getfield 9, 3) := by decide +kernel
theorem dJ0_length_8abf5_4 : decode cJ0_length_8abf5 4 = .ok (.arraylength, 1) := by decide +kernel
theorem dJ0_length_8abf5_5 : decode cJ0_length_8abf5 5 = .ok (.aload_n 0, 1) := by decide +kernel
theorem dJ0_length_8abf5_6 : decode cJ0_length_8abf5 6 = .ok (.invokevirtual 335, 3) := by decide +kernel
theorem dJ0_length_8abf5_9 : decode cJ0_length_8abf5 9 = .ok (.ishr, 1) := by decide +kernel
theorem dJ0_length_8abf5_10 : decode cJ0_length_8abf5 10 = .ok (.ireturn, 1) := by decide +kernel
theorem dJ0_charAt_5068e_0 : decode cJ0_charAt_5068e 0 = .ok (.aload_n 0, 1) := by decide +kernel
theorem dJ0_charAt_5068e_1 : decode cJ0_charAt_5068e 1 = .ok (.invokevirtual 492, 3) := by decide +kernel
theorem dJ0_charAt_5068e_4 : decode cJ0_charAt_5068e 4 = .ok (.ifCond .eq 12, 3) := by decide +kernel
theorem dJ0_charAt_5068e_7 : decode cJ0_charAt_5068e 7 = .ok (.aload_n 0, 1) := by decide +kernel
theorem dJ0_charAt_5068e_8 : decode cJ0_charAt_5068e 8 = .ok (.getfield 9, 3) := by decide +kernel
theorem dJ0_charAt_5068e_11 : decode cJ0_charAt_5068e 11 = .ok (.iload_n 1, 1) := by decide +kernel
theorem dJ0_charAt_5068e_12 : decode cJ0_charAt_5068e 12 = .ok (.invokestatic 495, 3) := by decide +kernel
theorem dJ0_charAt_5068e_15 : decode cJ0_charAt_5068e 15 = .ok (.ireturn, 1) := by decide +kernel
theorem dJ0_charAt_5068e_16 : decode cJ0_charAt_5068e 16 = .ok (.aload_n 0, 1) := by decide +kernel
theorem dJ0_charAt_5068e_17 : decode cJ0_charAt_5068e 17 = .ok (.getfield 9, 3) := by decide +kernel
theorem dJ0_charAt_5068e_20 : decode cJ0_charAt_5068e 20 = .ok (.iload_n 1, 1) := by decide +kernel
theorem dJ0_charAt_5068e_21 : decode cJ0_charAt_5068e 21 = .ok (.invokestatic 498, 3) := by decide +kernel
theorem dJ0_charAt_5068e_24 : decode cJ0_charAt_5068e 24 = .ok (.ireturn, 1) := by decide +kernel
theorem dJ0_coder_7d493_0 : decode cJ0_coder_7d493 0 = .ok (.getstatic 38, 3) := by decide +kernel
theorem dJ0_coder_7d493_3 : decode cJ0_coder_7d493 3 = .ok (.ifCond .eq 10, 3) := by decide +kernel
theorem dJ0_coder_7d493_6 : decode cJ0_coder_7d493 6 = .ok (.aload_n 0, 1) := by decide +kernel
theorem dJ0_coder_7d493_7 : decode cJ0_coder_7d493 7 = .ok (.getfield 15, 3) := by decide +kernel
theorem dJ0_coder_7d493_10 : decode cJ0_coder_7d493 10 = .ok (.goto 4, 3) := by decide +kernel
theorem dJ0_coder_7d493_13 : decode cJ0_coder_7d493 13 = .ok (.iconst 1, 1) := by decide +kernel
theorem dJ0_coder_7d493_14 : decode cJ0_coder_7d493 14 = .ok (.ireturn, 1) := by decide +kernel
theorem dJ0_isLatin1_aae02_0 : decode cJ0_isLatin1_aae02 0 = .ok (.getstatic 38, 3) := by decide +kernel
theorem dJ0_isLatin1_aae02_3 : decode cJ0_isLatin1_aae02 3 = .ok (.ifCond .eq 14, 3) := by decide +kernel
theorem dJ0_isLatin1_aae02_6 : decode cJ0_isLatin1_aae02 6 = .ok (.aload_n 0, 1) := by decide +kernel
theorem dJ0_isLatin1_aae02_7 : decode cJ0_isLatin1_aae02 7 = .ok (.getfield 15, 3) := by decide +kernel
theorem dJ0_isLatin1_aae02_10 : decode cJ0_isLatin1_aae02 10 = .ok (.ifCond .ne 7, 3) := by decide +kernel
theorem dJ0_isLatin1_aae02_13 : decode cJ0_isLatin1_aae02 13 = .ok (.iconst 1, 1) := by decide +kernel
theorem dJ0_isLatin1_aae02_14 : decode cJ0_isLatin1_aae02 14 = .ok (.goto 4, 3) := by decide +kernel
theorem dJ0_isLatin1_aae02_17 : decode cJ0_isLatin1_aae02 17 = .ok (.iconst 0, 1) := by decide +kernel
theorem dJ0_isLatin1_aae02_18 : decode cJ0_isLatin1_aae02 18 = .ok (.ireturn, 1) := by decide +kernel
theorem dJ0_checkIndex_df160_0 : decode cJ0_checkIndex_df160 0 = .ok (.iload_n 0, 1) := by decide +kernel
theorem dJ0_checkIndex_df160_1 : decode cJ0_checkIndex_df160 1 = .ok (.iload_n 1, 1) := by decide +kernel
theorem dJ0_checkIndex_df160_2 : decode cJ0_checkIndex_df160 2 = .ok (.getstatic 1053, 3) := by decide +kernel
theorem dJ0_checkIndex_df160_5 : decode cJ0_checkIndex_df160 5 = .ok (.invokestatic 1059, 3) := by decide +kernel
theorem dJ0_checkIndex_df160_8 : decode cJ0_checkIndex_df160 8 = .ok (.pop, 1) := by decide +kernel
theorem dJ0_checkIndex_df160_9 : decode cJ0_checkIndex_df160 9 = .ok (.return_, 1) := by decide +kernel
theorem dJ1_charAt_3b067_0 : decode cJ1_charAt_3b067 0 = .ok (.iload_n 1, 1) := by decide +kernel
theorem dJ1_charAt_3b067_1 : decode cJ1_charAt_3b067 1 = .ok (.aload_n 0, 1) := by decide +kernel
theorem dJ1_charAt_3b067_2 : decode cJ1_charAt_3b067 2 = .ok (.arraylength, 1) := by decide +kernel
theorem dJ1_charAt_3b067_3 : decode cJ1_charAt_3b067 3 = .ok (.invokestatic 9, 3) := by decide +kernel
theorem dJ1_charAt_3b067_6 : decode cJ1_charAt_3b067 6 = .ok (.aload_n 0, 1) := by decide +kernel
theorem dJ1_charAt_3b067_7 : decode cJ1_charAt_3b067 7 = .ok (.iload_n 1, 1) := by decide +kernel
theorem dJ1_charAt_3b067_8 : decode cJ1_charAt_3b067 8 = .ok (.baload, 1) := by decide +kernel
theorem dJ1_charAt_3b067_9 : decode cJ1_charAt_3b067 9 = .ok (.sipush 255, 3) := by decide +kernel
theorem dJ1_charAt_3b067_12 : decode cJ1_charAt_3b067 12 = .ok (.iand, 1) := by decide +kernel
theorem dJ1_charAt_3b067_13 : decode cJ1_charAt_3b067 13 = .ok (.i2c, 1) := by decide +kernel
theorem dJ1_charAt_3b067_14 : decode cJ1_charAt_3b067 14 = .ok (.ireturn, 1) := by decide +kernel
theorem dJ2_getChar_3b067_0 : decode cJ2_getChar_3b067 0 = .ok (.getstatic 44, 3) := by decide +kernel
theorem dJ2_getChar_3b067_3 : decode cJ2_getChar_3b067 3 = .ok (.ifCond .ne 25, 3) := by decide +kernel
theorem dJ2_getChar_3b067_6 : decode cJ2_getChar_3b067 6 = .ok (.iload_n 1, 1) := by decide +kernel
theorem dJ2_getChar_3b067_7 : decode cJ2_getChar_3b067 7 = .ok (.ifCond .lt 11, 3) := by decide +kernel
end
section
theorem dJ2_getChar_3b067_10 : decode cJ2_getChar_3b067 10 = .ok (.iload_n 1, 1) := by decide +kernel
theorem dJ2_getChar_3b067_11 : decode cJ2_getChar_3b067 11 = .ok (.aload_n 0, 1) := by decide +kernel
theorem dJ2_getChar_3b067_12 : decode cJ2_getChar_3b067 12 = .ok (.invokestatic 48, 3) := by decide +kernel
theorem dJ2_getChar_3b067_15 : decode cJ2_getChar_3b067 15 = .ok (.if_icmp .lt 13, 3) := by decide +kernel
theorem dJ2_getChar_3b067_18 : decode cJ2_getChar_3b067 18 = .ok (.new 52, 3) := by decide +kernel
theorem dJ2_getChar_3b067_21 : decode cJ2_getChar_3b067 21 = .ok (.dup, 1) := by decide +kernel
theorem dJ2_getChar_3b067_22 : decode cJ2_getChar_3b067 22 = .ok (.ldc 54, 2) := by decide +kernel
theorem dJ2_getChar_3b067_24 : decode cJ2_getChar_3b067 24 = .ok (.invokespecial 56, 3) := by decide +kernel
theorem dJ2_getChar_3b067_27 : decode cJ2_getChar_3b067 27 = .ok (.athrow, 1) := by decide +kernel
theorem dJ2_getChar_3b067_28 : decode cJ2_getChar_3b067 28 = .ok (.iload_n 1, 1) := by decide +kernel
theorem dJ2_getChar_3b067_29 : decode cJ2_getChar_3b067 29 = .ok (.iconst 1, 1) := by decide +kernel
theorem dJ2_getChar_3b067_30 : decode cJ2_getChar_3b067 30 = .ok (.ishl, 1) := by decide +kernel
theorem dJ2_getChar_3b067_31 : decode cJ2_getChar_3b067 31 = .ok (.istore_n 1, 1) := by decide +kernel
theorem dJ2_getChar_3b067_32 : decode cJ2_getChar_3b067 32 = .ok (.aload_n 0, 1) := by decide +kernel
theorem dJ2_getChar_3b067_33 : decode cJ2_getChar_3b067 33 = .ok (.iload_n 1, 1) := by decide +kernel
theorem dJ2_getChar_3b067_34 : decode cJ2_getChar_3b067 34 = .ok (.iinc 1 1, 3) := by decide +kernel
theorem dJ2_getChar_3b067_37 : decode cJ2_getChar_3b067 37 = .ok (.baload, 1) := by decide +kernel
theorem dJ2_getChar_3b067_38 : decode cJ2_getChar_3b067 38 = .ok (.sipush 255, 3) := by decide +kernel
theorem dJ2_getChar_3b067_41 : decode cJ2_getChar_3b067 41 = .ok (.iand, 1) := by decide +kernel
theorem dJ2_getChar_3b067_42 : decode cJ2_getChar_3b067 42 = .ok (.getstatic 59, 3) := by decide +kernel
theorem dJ2_getChar_3b067_45 : decode cJ2_getChar_3b067 45 = .ok (.ishl, 1) := by decide +kernel
theorem dJ2_getChar_3b067_46 : decode cJ2_getChar_3b067 46 = .ok (.aload_n 0, 1) := by decide +kernel
theorem dJ2_getChar_3b067_47 : decode cJ2_getChar_3b067 47 = .ok (.iload_n 1, 1) := by decide +kernel
theorem dJ2_getChar_3b067_48 : decode cJ2_getChar_3b067 48 = .ok (.baload, 1) := by decide +kernel
theorem dJ2_getChar_3b067_49 : decode cJ2_getChar_3b067 49 = .ok (.sipush 255, 3) := by decide +kernel
theorem dJ2_getChar_3b067_52 : decode cJ2_getChar_3b067 52 = .ok (.iand, 1) := by decide +kernel
theorem dJ2_getChar_3b067_53 : decode cJ2_getChar_3b067 53 = .ok (.getstatic 63, 3) := by decide +kernel
theorem dJ2_getChar_3b067_56 : decode cJ2_getChar_3b067 56 = .ok (.ishl, 1) := by decide +kernel
theorem dJ2_getChar_3b067_57 : decode cJ2_getChar_3b067 57 = .ok (.ior, 1) := by decide +kernel
theorem dJ2_getChar_3b067_58 : decode cJ2_getChar_3b067 58 = .ok (.i2c, 1) := by decide +kernel
theorem dJ2_getChar_3b067_59 : decode cJ2_getChar_3b067 59 = .ok (.ireturn, 1) := by decide +kernel
theorem dJ2_length_9d52b_0 : decode cJ2_length_9d52b 0 = .ok (.aload_n 0, 1) := by decide +kernel
theorem dJ2_length_9d52b_1 : decode cJ2_length_9d52b 1 = .ok (.arraylength, 1) := by decide +kernel
theorem dJ2_length_9d52b_2 : decode cJ2_length_9d52b 2 = .ok (.iconst 1, 1) := by decide +kernel
theorem dJ2_length_9d52b_3 : decode cJ2_length_9d52b 3 = .ok (.ishr, 1) := by decide +kernel
theorem dJ2_length_9d52b_4 : decode cJ2_length_9d52b 4 = .ok (.ireturn, 1) := by decide +kernel
theorem dJ2_charAt_3b067_0 : decode cJ2_charAt_3b067 0 = .ok (.iload_n 1, 1) := by decide +kernel
theorem dJ2_charAt_3b067_1 : decode cJ2_charAt_3b067 1 = .ok (.aload_n 0, 1) := by decide +kernel
theorem dJ2_charAt_3b067_2 : decode cJ2_charAt_3b067 2 = .ok (.invokestatic 67, 3) := by decide +kernel
theorem dJ2_charAt_3b067_5 : decode cJ2_charAt_3b067 5 = .ok (.aload_n 0, 1) := by decide +kernel
theorem dJ2_charAt_3b067_6 : decode cJ2_charAt_3b067 6 = .ok (.iload_n 1, 1) := by decide +kernel
theorem dJ2_charAt_3b067_7 : decode cJ2_charAt_3b067 7 = .ok (.invokestatic 71, 3) := by decide +kernel
theorem dJ2_charAt_3b067_10 : decode cJ2_charAt_3b067 10 = .ok (.ireturn, 1) := by decide +kernel
theorem dJ2_checkIndex_2214a_0 : decode cJ2_checkIndex_2214a 0 = .ok (.iload_n 0, 1) := by decide +kernel
theorem dJ2_checkIndex_2214a_1 : decode cJ2_checkIndex_2214a 1 = .ok (.aload_n 1, 1) := by decide +kernel
theorem dJ2_checkIndex_2214a_2 : decode cJ2_checkIndex_2214a 2 = .ok (.invokestatic 48, 3) := by decide +kernel
theorem dJ2_checkIndex_2214a_5 : decode cJ2_checkIndex_2214a 5 = .ok (.invokestatic 414, 3) := by decide +kernel
theorem dJ2_checkIndex_2214a_8 : decode cJ2_checkIndex_2214a 8 = .ok (.return_, 1) := by decide +kernel
theorem dJ3_checkIndex_8e157_0 : decode cJ3_checkIndex_8e157 0 = .ok (.iload_n 0, 1) := by decide +kernel
theorem dJ3_checkIndex_8e157_1 : decode cJ3_checkIndex_8e157 1 = .ok (.ifCond .lt 8, 3) := by decide +kernel
theorem dJ3_checkIndex_8e157_4 : decode cJ3_checkIndex_8e157 4 = .ok (.iload_n 0, 1) := by decide +kernel
theorem dJ3_checkIndex_8e157_5 : decode cJ3_checkIndex_8e157 5 = .ok (.iload_n 1, 1) := by decide +kernel
theorem dJ3_checkIndex_8e157_6 : decode cJ3_checkIndex_8e157 6 = .ok (.if_icmp .lt 10, 3) := by decide +kernel
theorem dJ3_checkIndex_8e157_9 : decode cJ3_checkIndex_8e157 9 = .ok (.aload_n 2, 1) := by decide +kernel
theorem dJ3_checkIndex_8e157_10 : decode cJ3_checkIndex_8e157 10 = .ok (.iload_n 0, 1) := by decide +kernel
theorem dJ3_checkIndex_8e157_11 : decode cJ3_checkIndex_8e157 11 = .ok (.iload_n 1, 1) := by decide +kernel
theorem dJ3_checkIndex_8e157_12 : decode cJ3_checkIndex_8e157 12 = .ok (.invokestatic 95, 3) := by decide +kernel
theorem dJ3_checkIndex_8e157_15 : decode cJ3_checkIndex_8e157 15 = .ok (.athrow, 1) := by decide +kernel
theorem dJ3_checkIndex_8e157_16 : decode cJ3_checkIndex_8e157 16 = .ok (.iload_n 0, 1) := by decide +kernel
theorem dJ3_checkIndex_8e157_17 : decode cJ3_checkIndex_8e157 17 = .ok (.ireturn, 1) := by decide +kernel
end
section
/-! small rows for the class's parts -/
theorem cvin {x N : Int32} {n : Nat} (hN : N.toInt = n) (h0 : 0 ≤ x) (h1 : x < N) : vp_in x n := by
  rw [vp_in_iff, ← hN]
  exact ⟨Int32.le_iff_toInt_le.mp h0, Int32.lt_iff_toInt_lt.mp h1⟩
theorem cmsd {a b : Int32} {N : Nat} (hm : a.toInt.toNat < N + 1) (h0 : 0 ≤ b) (h : b < a) : b.toInt.toNat < N := by
  have h1 := Int32.lt_iff_toInt_lt.mp h
  have h2 : (0 : Int) ≤ b.toInt := Int32.le_iff_toInt_le.mp h0
  omega
theorem ci_lt {x y : Int32} (h : ¬ y ≤ x) : x < y := by grind
theorem ci_gt {x : Int32} (h : ¬ x ≤ 0) : 0 < x := by grind
theorem ci_le {x y : Int32} (h : ¬ x < y) : y ≤ x := by grind
theorem ca_dec {x y n : Int32} (e : y = x + 1) (h0 : 0 ≤ x) (h : x < n) : 0 ≤ n - y ∧ n - y < n - x := by grind
theorem ca_up {x y n : Int32} (e : y = x + 1) (h0 : 0 ≤ x) (h : x < n) : 0 ≤ y ∧ y ≤ n := by grind
theorem ca_lt8 {x : Int32} (h0 : 0 ≤ x) (h : x < 8) : x.toNatClampNeg < 8 := by
  have h1 : (0 : Int) ≤ x.toInt := Int32.le_iff_toInt_le.mp h0
  have h2 : x.toInt < 8 := Int32.lt_iff_toInt_lt.mp h
  simp only [Int32.toNatClampNeg]; omega
end
section
/-! the class: its words, its world (a pool), a row for each field and kind of use (laid by wip/gen_cworld.py) -/
def tC0 : List Cond := [.code yX6_init cX6_init 1 none, .methodLink RX6 3 objectInit, .instanceMethod objectInit, .code objectInit ⟨#[0xb1]⟩ 1 none, .classLink RX6 9 RX8, .fieldLink RX6 11 "TurnKeeper$Row" "strands" "[LTurnKeeper$Strand;", .code yX9_init cX9_init 3 none, .methodLink RX9 3 objectInit, .classLink RX9 9 RX6, .instantiable RX6 2, .initialized RX6, .fieldLink RX9 12 "TurnKeeper$Sync" "row" "LTurnKeeper$Row;", .fieldLink RX9 18 "TurnKeeper$Sync" "number" "I", .fieldLink RX9 22 "TurnKeeper$Sync" "kind" "I", .instanceMethod yX6_init, .code yX1_init cX1_init 2 none, .fieldLink RX1 9 "TurnKeeper$Gate" "owner" "I", .methodLink RX1 3 yX9_init, .instanceMethod yX9_init, .initialized RX9, .code yJx29ce0_ordinal_8abf5 cJx29ce0_ordinal_8abf5 1 (some .int), .fieldLink RJx29ce0 7 "java/lang/Enum" "ordinal" "I", .code yX6_remove cX6_remove 4 none, .fieldLink RX6 17 "TurnKeeper$Row" "size" "I", .code yX8_goTo cX8_goTo 2 none, .fieldLink RX8 28 "TurnKeeper$Strand" "at" "I", .fieldLink RX8 22 "TurnKeeper$Strand" "size" "I", .fieldLink RX8 19 "TurnKeeper$Strand" "state" "I", .code yX8_goOn cX8_goOn 1 none, .fieldLink RX8 52 "TurnKeeper$Strand" "row" "LTurnKeeper$Row;", .fieldLink RX8 62 "TurnKeeper$Strand" "sync" "LTurnKeeper$Sync;", .methodLink RX8 56 yX6_remove, .instanceMethod yX6_remove, .selects RX6 yX6_remove yX6_remove, .methodLink RX8 66 yX8_goTo, .instanceMethod yX8_goTo, .selects RX8 yX8_goTo yX8_goTo, .initialized RX8, .code yX8_refusesToWait cX8_refusesToWait 1 (some .boolean), .fieldLink RX8 34 "TurnKeeper$Strand" "interrupted" "Z"]
def tC1 : List Cond := [.fieldLink RX8 25 "TurnKeeper$Strand" "a" "I", .methodLink RX8 70 yX8_goOn, .instanceMethod yX8_goOn, .selects RX8 yX8_goOn yX8_goOn, .code yX6_add cX6_add 2 none, .code yX8_standIn cX8_standIn 3 none, .methodLink RX8 73 yX6_add, .instanceMethod yX6_add, .selects RX6 yX6_add yX6_add, .methodLink RX9 30 yX8_refusesToWait, .instanceMethod yX8_refusesToWait, .selects RX8 yX8_refusesToWait yX8_refusesToWait, .methodLink RX9 36 yX8_standIn, .instanceMethod yX8_standIn, .selects RX8 yX8_standIn yX8_standIn, .code yX9_holdUp cX9_holdUp 2 none, .code yX8_fail cX8_fail 2 none, .fieldLink RX8 31 "TurnKeeper$Strand" "why" "I", .code yX6_first cX6_first 1 (some (.object "TurnKeeper$Strand")), .code yX8_codeAt cX8_codeAt 3 (some .int), .fieldLink RX8 9 "TurnKeeper$Strand" "code" "[I", .code yX8_word cX8_word 2 (some (.object "TurnKeeper$Word")), .fieldLink RX8 46 "TurnKeeper$Word" "END" "LTurnKeeper$Word;", .methodLink RX8 38 yX8_codeAt, .instanceMethod yX8_codeAt, .selects RX8 yX8_codeAt yX8_codeAt, .fieldLink RX1 27 "TurnKeeper$Gate" "row" "LTurnKeeper$Row;", .sameField "TurnKeeper$Gate" "TurnKeeper$Sync" "row" "LTurnKeeper$Row;", .fieldLink RX1 73 "TurnKeeper$Word" "OWN" "LTurnKeeper$Word;", .fieldLink RX1 36 "TurnKeeper$Gate" "readers" "I", .fieldLink RX1 52 "TurnKeeper$Strand" "number" "I", .methodLink RX1 65 yX6_first, .instanceMethod yX6_first, .selects RX6 yX6_first yX6_first, .methodLink RX1 69 yX8_word, .instanceMethod yX8_word, .selects RX8 yX8_word yX8_word, .methodLink RX1 39 yX8_goOn, .code yX1_rowGoesOn cX1_rowGoesOn 3 none, .methodLink RX1 58 yX8_fail]
def tC2 : List Cond := [.instanceMethod yX8_fail, .selects RX8 yX8_fail yX8_fail, .methodLink RX1 62 yX1_rowGoesOn, .instanceMethod yX1_rowGoesOn, .selects RX1 yX1_rowGoesOn yX1_rowGoesOn, .initialized RX1, .code yX1_leave cX1_leave 2 none, .code yX1_giveBack cX1_giveBack 2 none, .fieldLink RX1 15 "TurnKeeper$1" "$SwitchMap$TurnKeeper$Word" "[I", .fieldLink RX1 31 "TurnKeeper$Row" "size" "I", .methodLink RX1 21 ⟨"TurnKeeper$Word", "ordinal", "()I"⟩, .sameMethod "TurnKeeper$Word" "java/lang/Enum" "ordinal" "()I", .selects RX11 ⟨"TurnKeeper$Word", "ordinal", "()I"⟩ yJx29ce0_ordinal_8abf5, .instanceMethod yJx29ce0_ordinal_8abf5, .initialized RJx29ce0, .methodLink RX1 45 ⟨"TurnKeeper$Gate", "holdUp", "(LTurnKeeper$Strand;)V"⟩, .sameMethod "TurnKeeper$Gate" "TurnKeeper$Sync" "holdUp" "(LTurnKeeper$Strand;)V", .selects RX1 ⟨"TurnKeeper$Gate", "holdUp", "(LTurnKeeper$Strand;)V"⟩ yX9_holdUp, .instanceMethod yX9_holdUp, .methodLink RX1 49 yX1_leave, .instanceMethod yX1_leave, .selects RX1 yX1_leave yX1_leave, .methodLink RX1 55 yX1_giveBack, .instanceMethod yX1_giveBack, .selects RX1 yX1_giveBack yX1_giveBack, .code yX1_perform cX1_perform 3 none, .code yX1_value cX1_value 1 (some .long), .code yX1_tells cX1_tells 2 (some .boolean), .code yX1_detail cX1_detail 2 (some .long), .code yX2_init cX2_init 5 none, .fieldLink RX2 9 "TurnKeeper$Holder" "filled" "Z", .fieldLink RX2 15 "TurnKeeper$Holder" "held" "I", .methodLink RX2 3 yX9_init, .code yX8_goOnWith cX8_goOnWith 2 none, .code yX8_operand cX8_operand 2 (some .int), .fieldLink RX2 56 "TurnKeeper$Holder" "row" "LTurnKeeper$Row;", .sameField "TurnKeeper$Holder" "TurnKeeper$Sync" "row" "LTurnKeeper$Row;", .methodLink RX2 60 yX6_first, .methodLink RX2 31 yX8_goOnWith, .instanceMethod yX8_goOnWith]
def tC3 : List Cond := [.selects RX8 yX8_goOnWith yX8_goOnWith, .code yX2_isGiven cX2_isGiven 4 (some .boolean), .fieldLink RX2 19 "TurnKeeper$1" "$SwitchMap$TurnKeeper$Word" "[I", .fieldLink RX2 37 "TurnKeeper$Strand" "a" "I", .methodLink RX2 25 ⟨"TurnKeeper$Word", "ordinal", "()I"⟩, .methodLink RX2 40 yX8_goOn, .methodLink RX2 44 yX8_operand, .instanceMethod yX8_operand, .selects RX8 yX8_operand yX8_operand, .methodLink RX2 48 yX2_isGiven, .instanceMethod yX2_isGiven, .selects RX2 yX2_isGiven yX2_isGiven, .initialized RX2, .methodLink RX2 52 ⟨"TurnKeeper$Holder", "holdUp", "(LTurnKeeper$Strand;)V"⟩, .sameMethod "TurnKeeper$Holder" "TurnKeeper$Sync" "holdUp" "(LTurnKeeper$Strand;)V", .selects RX2 ⟨"TurnKeeper$Holder", "holdUp", "(LTurnKeeper$Strand;)V"⟩ yX9_holdUp, .code yX2_perform cX2_perform 4 none, .code yX2_value cX2_value 1 (some .long), .constantLong RX2 66 (1099511627776), .code yX3_init cX3_init 4 none, .fieldLink RX3 9 "TurnKeeper$Hurdle" "height" "I", .methodLink RX3 3 yX9_init, .methodLink RX9 40 yX6_first, .methodLink RX9 44 yX8_goOn, .code yX9_allGoOn cX9_allGoOn 3 none, .fieldLink RX3 15 "TurnKeeper$1" "$SwitchMap$TurnKeeper$Word" "[I", .fieldLink RX3 40 "TurnKeeper$Hurdle" "row" "LTurnKeeper$Row;", .sameField "TurnKeeper$Hurdle" "TurnKeeper$Sync" "row" "LTurnKeeper$Row;", .fieldLink RX3 44 "TurnKeeper$Row" "size" "I", .fieldLink RX3 49 "TurnKeeper$Strand" "a" "I", .methodLink RX3 21 ⟨"TurnKeeper$Word", "ordinal", "()I"⟩, .methodLink RX3 27 yX8_goOn, .methodLink RX3 33 ⟨"TurnKeeper$Hurdle", "allGoOn", "()V"⟩, .sameMethod "TurnKeeper$Hurdle" "TurnKeeper$Sync" "allGoOn" "()V", .selects RX3 ⟨"TurnKeeper$Hurdle", "allGoOn", "()V"⟩ yX9_allGoOn, .instanceMethod yX9_allGoOn, .methodLink RX3 36 ⟨"TurnKeeper$Hurdle", "holdUp", "(LTurnKeeper$Strand;)V"⟩, .sameMethod "TurnKeeper$Hurdle" "TurnKeeper$Sync" "holdUp" "(LTurnKeeper$Strand;)V", .selects RX3 ⟨"TurnKeeper$Hurdle", "holdUp", "(LTurnKeeper$Strand;)V"⟩ yX9_holdUp, .code yX3_perform cX3_perform 3 none]
def tC4 : List Cond := [.code yX3_value cX3_value 1 (some .long), .fieldLink RX3 52 "TurnKeeper$Hurdle" "kind" "I", .sameField "TurnKeeper$Hurdle" "TurnKeeper$Sync" "kind" "I", .code yX4_init cX4_init 3 none, .fieldLink RX4 9 "TurnKeeper$Lock" "owner" "I", .classLink RX4 15 RX6, .fieldLink RX4 20 "TurnKeeper$Lock" "second" "LTurnKeeper$Row;", .fieldLink RX4 24 "TurnKeeper$Lock" "fair" "Z", .methodLink RX4 3 yX9_init, .code yX4_isGrabbed cX4_isGrabbed 2 (some .boolean), .fieldLink RX4 51 "TurnKeeper$Strand" "number" "I", .fieldLink RX4 63 "TurnKeeper$Lock" "holds" "I", .fieldLink RX4 92 "TurnKeeper$Lock" "row" "LTurnKeeper$Row;", .sameField "TurnKeeper$Lock" "TurnKeeper$Sync" "row" "LTurnKeeper$Row;", .methodLink RX4 41 yX4_isGrabbed, .instanceMethod yX4_isGrabbed, .selects RX4 yX4_isGrabbed yX4_isGrabbed, .initialized RX4, .methodLink RX4 60 yX8_goOn, .methodLink RX4 88 yX8_standIn, .code yX4_grabOrStandIn cX4_grabOrStandIn 2 none, .fieldLink RX4 85 "TurnKeeper$Strand" "kept" "I", .fieldLink RX4 105 "TurnKeeper$Strand" "answer" "I", .fieldLink RX4 108 "TurnKeeper$Strand" "a" "I", .code yX4_have cX4_have 2 none, .fieldLink RX4 102 "TurnKeeper$Strand" "state" "I", .methodLink RX4 95 yX6_first, .methodLink RX4 99 yX4_have, .instanceMethod yX4_have, .selects RX4 yX4_have yX4_have, .code yX4_free cX4_free 2 none, .code yX4_comeToFirst cX4_comeToFirst 3 none, .methodLink RX4 115 yX6_remove, .methodLink RX4 111 yX4_comeToFirst, .instanceMethod yX4_comeToFirst, .selects RX4 yX4_comeToFirst yX4_comeToFirst, .code yX4_callUp cX4_callUp 4 none, .fieldLink RX4 28 "TurnKeeper$Word" "LOCK" "LTurnKeeper$Word;", .fieldLink RX4 38 "TurnKeeper$Word" "TRY" "LTurnKeeper$Word;", .fieldLink RX4 57 "TurnKeeper$Word" "UNLOCK" "LTurnKeeper$Word;"]
def tC5 : List Cond := [.fieldLink RX4 69 "TurnKeeper$Word" "SIGNAL" "LTurnKeeper$Word;", .fieldLink RX4 72 "TurnKeeper$Word" "ALL" "LTurnKeeper$Word;", .fieldLink RX4 75 "TurnKeeper$Row" "size" "I", .methodLink RX4 34 yX4_grabOrStandIn, .instanceMethod yX4_grabOrStandIn, .selects RX4 yX4_grabOrStandIn yX4_grabOrStandIn, .methodLink RX4 45 yX8_goOnWith, .methodLink RX4 54 yX8_fail, .methodLink RX4 66 yX4_free, .instanceMethod yX4_free, .selects RX4 yX4_free yX4_free, .methodLink RX4 78 yX4_callUp, .instanceMethod yX4_callUp, .selects RX4 yX4_callUp yX4_callUp, .methodLink RX4 81 yX8_refusesToWait, .code yX4_perform cX4_perform 3 none, .code yX4_tryAgain cX4_tryAgain 2 none, .fieldLink RX4 118 "TurnKeeper$Strand" "row" "LTurnKeeper$Row;", .code yX4_interruptWait cX4_interruptWait 2 none, .code yX4_hasStrands cX4_hasStrands 1 (some .boolean), .code yX4_value cX4_value 1 (some .long), .code yX4_tells cX4_tells 2 (some .boolean), .code yX4_detail cX4_detail 2 (some .long), .code yX5_init cX5_init 3 none, .arrayClass .int, .fieldLink RX5 9 "TurnKeeper$Queue" "items" "[I", .methodLink RX5 3 yX9_init, .code yX5_append cX5_append 3 none, .fieldLink RX5 67 "TurnKeeper$Queue" "head" "I", .fieldLink RX5 48 "TurnKeeper$Queue" "size" "I", .fieldLink RX5 54 "TurnKeeper$Queue" "row" "LTurnKeeper$Row;", .sameField "TurnKeeper$Queue" "TurnKeeper$Sync" "row" "LTurnKeeper$Row;", .methodLink RX5 58 yX6_first, .methodLink RX5 44 yX8_goOnWith, .methodLink RX5 64 yX5_append, .instanceMethod yX5_append, .selects RX5 yX5_append yX5_append, .initialized RX5, .code yX5_isAccepted cX5_isAccepted 3 (some .boolean), .fieldLink RX5 26 "TurnKeeper$Strand" "a" "I"]
def tC6 : List Cond := [.methodLink RX5 36 yX8_goOn, .code yX5_takenOut cX5_takenOut 3 (some .int), .fieldLink RX5 15 "TurnKeeper$1" "$SwitchMap$TurnKeeper$Word" "[I", .methodLink RX5 20 ⟨"TurnKeeper$Word", "ordinal", "()I"⟩, .methodLink RX5 32 yX5_isAccepted, .instanceMethod yX5_isAccepted, .selects RX5 yX5_isAccepted yX5_isAccepted, .methodLink RX5 40 ⟨"TurnKeeper$Queue", "holdUp", "(LTurnKeeper$Strand;)V"⟩, .sameMethod "TurnKeeper$Queue" "TurnKeeper$Sync" "holdUp" "(LTurnKeeper$Strand;)V", .selects RX5 ⟨"TurnKeeper$Queue", "holdUp", "(LTurnKeeper$Strand;)V"⟩ yX9_holdUp, .methodLink RX5 51 yX5_takenOut, .instanceMethod yX5_takenOut, .selects RX5 yX5_takenOut yX5_takenOut, .code yX5_perform cX5_perform 3 none, .code yX5_value cX5_value 1 (some .long), .code yX5_tells cX5_tells 2 (some .boolean), .code yX5_detail cX5_detail 2 (some .long), .code yX7_init cX7_init 3 none, .fieldLink RX7 9 "TurnKeeper$Semaphore" "permits" "I", .methodLink RX7 3 yX9_init, .fieldLink RX7 27 "TurnKeeper$Semaphore" "row" "LTurnKeeper$Row;", .sameField "TurnKeeper$Semaphore" "TurnKeeper$Sync" "row" "LTurnKeeper$Row;", .methodLink RX7 57 yX6_first, .methodLink RX7 36 yX8_operand, .methodLink RX7 42 yX8_goOn, .code yX7_handOut cX7_handOut 3 none, .fieldLink RX7 15 "TurnKeeper$1" "$SwitchMap$TurnKeeper$Word" "[I", .fieldLink RX7 31 "TurnKeeper$Row" "size" "I", .methodLink RX7 21 ⟨"TurnKeeper$Word", "ordinal", "()I"⟩, .methodLink RX7 46 ⟨"TurnKeeper$Semaphore", "holdUp", "(LTurnKeeper$Strand;)V"⟩, .sameMethod "TurnKeeper$Semaphore" "TurnKeeper$Sync" "holdUp" "(LTurnKeeper$Strand;)V", .selects RX7 ⟨"TurnKeeper$Semaphore", "holdUp", "(LTurnKeeper$Strand;)V"⟩ yX9_holdUp, .methodLink RX7 50 yX7_handOut, .instanceMethod yX7_handOut, .selects RX7 yX7_handOut yX7_handOut, .initialized RX7, .methodLink RX7 53 yX8_goOnWith, .code yX7_perform cX7_perform 4 none, .code yX7_value cX7_value 1 (some .long), .code yX8_init cX8_init 2 none]
def tC7 : List Cond := [.methodLink RX8 3 objectInit, .fieldLink RX8 15 "TurnKeeper$Strand" "number" "I", .code yX8_isVacant cX8_isVacant 1 (some .boolean), .code yX8_start cX8_start 4 none, .code yX9_hasStrands cX9_hasStrands 1 (some .boolean), .fieldLink RX9 25 "TurnKeeper$Row" "size" "I", .code yX9_tells cX9_tells 2 (some .boolean), .code yX9_detail cX9_detail 2 (some .long), .constantLong RX9 28 (-1), .code yX10_init cX10_init 1 none, .methodLink RX10 3 objectInit, .fieldLink RX10 9 "TurnKeeper$Tape" "code" "[I", .fieldLink RX10 15 "TurnKeeper$Tape" "place" "I", .arrayClass .byte, .fieldLink RX10 19 "TurnKeeper$Tape" "bytes" "[B", .code yX10_append cX10_append 3 none, .fieldLink RX10 23 "TurnKeeper$Tape" "length" "I", .code yX10_here cX10_here 1 (some .int), .fieldLink RX10 26 "TurnKeeper$Tape" "at" "I", .code yX10_skipBlanks cX10_skipBlanks 1 none, .methodLink RX10 39 yX10_here, .instanceMethod yX10_here, .selects RX10 yX10_here yX10_here, .initialized RX10, .code yJ0_coder_7d493 cJ0_coder_7d493 1 (some .byte), .fieldLink RJ0 38 "java/lang/String" "COMPACT_STRINGS" "Z", .fieldLink RJ0 15 "java/lang/String" "coder" "B", .code yJ0_length_8abf5 cJ0_length_8abf5 1 (some .int), .fieldLink RJ0 9 "java/lang/String" "value" "[B", .methodLink RJ0 335 yJ0_coder_7d493, .instanceMethod yJ0_coder_7d493, .selects RJ0 yJ0_coder_7d493 yJ0_coder_7d493, .initialized RJ0, .code yJ0_isLatin1_aae02 cJ0_isLatin1_aae02 1 (some .boolean), .code yJ3_checkIndex_8e157 cJ3_checkIndex_8e157 3 (some .int), .code yJ0_checkIndex_df160 cJ0_checkIndex_df160 2 none, .fieldLink RJ0 1053 "jdk/internal/util/Preconditions" "SIOOBE_FORMATTER" "Ljava/util/function/BiFunction;", .methodLink RJ0 1059 yJ3_checkIndex_8e157, .static yJ3_checkIndex_8e157, .initialized RJ3]
def tC8 : List Cond := [.code yJ1_charAt_3b067 cJ1_charAt_3b067 2 (some .char), .methodLink RJ1 9 yJ0_checkIndex_df160, .static yJ0_checkIndex_df160, .code yJ2_length_9d52b cJ2_length_9d52b 1 (some .int), .code yJ2_checkIndex_2214a cJ2_checkIndex_2214a 2 none, .methodLink RJ2 48 yJ2_length_9d52b, .static yJ2_length_9d52b, .initialized RJ2, .methodLink RJ2 414 yJ0_checkIndex_df160, .code yJ2_getChar_3b067 cJ2_getChar_3b067 2 (some .char), .fieldLink RJ2 44 "java/lang/StringUTF16" "$assertionsDisabled" "Z", .fieldLink RJ2 59 "java/lang/StringUTF16" "HI_BYTE_SHIFT" "I", .fieldLink RJ2 63 "java/lang/StringUTF16" "LO_BYTE_SHIFT" "I", .code yJ2_charAt_3b067 cJ2_charAt_3b067 2 (some .char), .methodLink RJ2 67 yJ2_checkIndex_2214a, .static yJ2_checkIndex_2214a, .methodLink RJ2 71 yJ2_getChar_3b067, .static yJ2_getChar_3b067, .methodLink RJ0 492 yJ0_isLatin1_aae02, .instanceMethod yJ0_isLatin1_aae02, .selects RJ0 yJ0_isLatin1_aae02 yJ0_isLatin1_aae02, .methodLink RJ0 495 yJ1_charAt_3b067, .static yJ1_charAt_3b067, .initialized RJ1, .methodLink RJ0 498 yJ2_charAt_3b067, .static yJ2_charAt_3b067, .code yJ0_charAt_5068e cJ0_charAt_5068e 2 (some .char), .methodLink RX10 64 yJ0_length_8abf5, .instanceMethod yJ0_length_8abf5, .selects RJ0 yJ0_length_8abf5 yJ0_length_8abf5, .methodLink RX10 68 yJ0_charAt_5068e, .instanceMethod yJ0_charAt_5068e, .selects RJ0 yJ0_charAt_5068e yJ0_charAt_5068e, .code yX10_isText cX10_isText 4 (some .boolean), .fieldLink RX10 80 "TurnKeeper$Word" "text" "Ljava/lang/String;", .methodLink RX10 83 yX10_isText, .instanceMethod yX10_isText, .selects RX10 yX10_isText yX10_isText, .code yX10_wordAt cX10_wordAt 3 (some .int), .code yX10_broken cX10_broken 2 (some .boolean)]
def tC9 : List Cond := [.code yX10_store cX10_store 3 none, .code yX10_inRange cX10_inRange 2 (some .boolean), .code yX10_readNumber cX10_readNumber 7 (some .boolean), .methodLink RX10 43 yX10_broken, .instanceMethod yX10_broken, .selects RX10 yX10_broken yX10_broken, .methodLink RX10 76 yX10_inRange, .static yX10_inRange, .methodLink RX10 54 yX10_store, .instanceMethod yX10_store, .selects RX10 yX10_store yX10_store, .fieldLink RX10 58 "TurnKeeper$Word" "numbers" "Ljava/lang/String;", .methodLink RX10 46 yX10_wordAt, .instanceMethod yX10_wordAt, .selects RX10 yX10_wordAt yX10_wordAt, .methodLink RX10 29 yX10_skipBlanks, .instanceMethod yX10_skipBlanks, .selects RX10 yX10_skipBlanks yX10_skipBlanks, .methodLink RX10 72 yX10_readNumber, .instanceMethod yX10_readNumber, .selects RX10 yX10_readNumber yX10_readNumber, .code yX10_readInstruction cX10_readInstruction 6 (some .boolean), .fieldLink RX10 36 "TurnKeeper$Tape" "size" "I", .methodLink RX10 32 yX10_readInstruction, .instanceMethod yX10_readInstruction, .selects RX10 yX10_readInstruction yX10_readInstruction, .code yX10_read cX10_read 2 (some .boolean), .methodLink RX12 1 objectInit, .classLink RX12 7 RX10, .instantiable RX10 6, .fieldLink RX12 10 "TurnKeeper" "tape" "LTurnKeeper$Tape;", .classLink RX12 16 RX9, .fieldLink RX12 18 "TurnKeeper" "syncs" "[LTurnKeeper$Sync;", .classLink RX12 22 RX8, .fieldLink RX12 24 "TurnKeeper" "strands" "[LTurnKeeper$Strand;", .fieldLink RX12 28 "TurnKeeper" "latest" "I", .instantiable RX8 13, .instanceMethod yX10_init, .methodLink RX12 32 yX8_init, .instanceMethod yX8_init]
def tC10 : List Cond := [.code yX12_init cX12_init 2 none, .code yX12_feed cX12_feed 6 (some .int), .classLink RX12 38 "java/lang/IndexOutOfBoundsException", .initialized "java/lang/IndexOutOfBoundsException", .fieldLink RX12 35 "TurnKeeper$Tape" "length" "I", .methodLink RX12 45 yX10_append, .instanceMethod yX10_append, .selects RX10 yX10_append yX10_append, .code yX12_end cX12_end 2 (some .int), .classLink RX12 48 "java/lang/IllegalArgumentException", .initialized "java/lang/IllegalArgumentException", .code yX12_fits cX12_fits 2 (some .boolean), .code yX12_leastFree cX12_leastFree 2 (some .int), .classLink RX12 147 RX4, .instantiable RX4 7, .classLink RX12 215 RX7, .instantiable RX7 4, .classLink RX12 220 RX5, .instantiable RX5 6, .classLink RX12 223 RX2, .instantiable RX2 5, .classLink RX12 228 RX1, .instantiable RX1 5, .classLink RX12 231 RX3, .instantiable RX3 4, .initialized RX3, .methodLink RX12 212 yX4_init, .instanceMethod yX4_init, .methodLink RX12 217 yX7_init, .instanceMethod yX7_init, .methodLink RX12 222 yX5_init, .instanceMethod yX5_init, .methodLink RX12 225 yX2_init, .instanceMethod yX2_init, .methodLink RX12 230 yX1_init, .instanceMethod yX1_init, .methodLink RX12 233 yX3_init, .instanceMethod yX3_init, .code yX12_built cX12_built 3 (some (.object "TurnKeeper$Sync")), .classLink RX12 63 "java/lang/IllegalStateException"]
def tC11 : List Cond := [.initialized "java/lang/IllegalStateException", .methodLink RX12 53 yX12_fits, .static yX12_fits, .initialized RX12, .methodLink RX12 59 yX12_leastFree, .instanceMethod yX12_leastFree, .selects RX12 yX12_leastFree yX12_leastFree, .methodLink RX12 68 yX12_built, .static yX12_built, .code yX12_make cX12_make 4 (some .int), .code yX12_howManySyncs cX12_howManySyncs 6 (some .int), .classLink RX12 72 "java/util/NoSuchElementException", .initialized "java/util/NoSuchElementException", .methodLink RX12 77 ⟨"TurnKeeper$Sync", "hasStrands", "()Z"⟩, .sameMethod "TurnKeeper$Sync" "TurnKeeper$Sync" "hasStrands" "()Z", .selects RX1 ⟨"TurnKeeper$Sync", "hasStrands", "()Z"⟩ yX9_hasStrands, .instanceMethod yX9_hasStrands, .selects RX2 ⟨"TurnKeeper$Sync", "hasStrands", "()Z"⟩ yX9_hasStrands, .selects RX3 ⟨"TurnKeeper$Sync", "hasStrands", "()Z"⟩ yX9_hasStrands, .instanceMethod ⟨"TurnKeeper$Sync", "hasStrands", "()Z"⟩, .selects RX4 ⟨"TurnKeeper$Sync", "hasStrands", "()Z"⟩ yX4_hasStrands, .instanceMethod yX4_hasStrands, .selects RX5 ⟨"TurnKeeper$Sync", "hasStrands", "()Z"⟩ yX9_hasStrands, .selects RX7 ⟨"TurnKeeper$Sync", "hasStrands", "()Z"⟩ yX9_hasStrands, .methodLink RX12 83 yX12_howManySyncs, .instanceMethod yX12_howManySyncs, .selects RX12 yX12_howManySyncs yX12_howManySyncs, .code yX12_drop cX12_drop 2 (some .int), .classLink RX12 89 "java/lang/UnsupportedOperationException", .initialized "java/lang/UnsupportedOperationException", .fieldLink RX12 97 "TurnKeeper$Tape" "code" "[I", .fieldLink RX12 101 "TurnKeeper$Tape" "size" "I", .methodLink RX12 86 yX10_read, .instanceMethod yX10_read, .selects RX10 yX10_read yX10_read, .methodLink RX12 94 yX8_isVacant, .instanceMethod yX8_isVacant, .selects RX8 yX8_isVacant yX8_isVacant, .methodLink RX12 104 yX8_start, .instanceMethod yX8_start]
def tC12 : List Cond := [.selects RX8 yX8_start yX8_start, .code yX12_thread cX12_thread 3 (some .int), .code yX12_strandAt cX12_strandAt 2 (some (.object "TurnKeeper$Strand")), .fieldLink RX12 129 "TurnKeeper" "clock" "J", .fieldLink RX12 133 "TurnKeeper$Strand" "wakesAt" "J", .fieldLink RX12 112 "TurnKeeper$Strand" "state" "I", .methodLink RX12 136 yX8_goOn, .methodLink RX12 277 yX8_refusesToWait, .code yX12_fallAsleep cX12_fallAsleep 3 none, .fieldLink RX12 262 "TurnKeeper$1" "$SwitchMap$TurnKeeper$Word" "[I", .fieldLink RX12 160 "TurnKeeper$Strand" "a" "I", .fieldLink RX12 163 "TurnKeeper$Strand" "at" "I", .methodLink RX12 253 yX8_operand, .methodLink RX12 267 ⟨"TurnKeeper$Word", "ordinal", "()I"⟩, .methodLink RX12 155 yX8_goOnWith, .methodLink RX12 270 yX8_goTo, .methodLink RX12 273 yX12_fallAsleep, .instanceMethod yX12_fallAsleep, .selects RX12 yX12_fallAsleep yX12_fallAsleep, .code yX12_doAlone cX12_doAlone 4 none, .code yX12_syncAt cX12_syncAt 2 (some (.object "TurnKeeper$Sync")), .fieldLink RX12 209 "TurnKeeper" "steps" "J", .fieldLink RX12 238 "TurnKeeper$Strand" "number" "I", .fieldLink RX12 143 "TurnKeeper$Strand" "sync" "LTurnKeeper$Sync;", .classLink RX12 147 "TurnKeeper$Lock", .fieldLink RX12 246 "TurnKeeper$Word" "kind" "I", .fieldLink RX12 203 "TurnKeeper$Sync" "kind" "I", .methodLink RX12 239 yX4_tryAgain, .instanceMethod yX4_tryAgain, .selects RX4 yX4_tryAgain yX4_tryAgain, .methodLink RX12 242 yX8_word, .methodLink RX12 249 yX12_doAlone, .instanceMethod yX12_doAlone, .selects RX12 yX12_doAlone yX12_doAlone, .methodLink RX12 176 yX12_syncAt, .instanceMethod yX12_syncAt, .selects RX12 yX12_syncAt yX12_syncAt, .methodLink RX12 256 yX8_fail, .methodLink RX12 259 ⟨"TurnKeeper$Sync", "perform", "(LTurnKeeper$Strand;LTurnKeeper$Word;)V"⟩, .sameMethod "TurnKeeper$Sync" "TurnKeeper$Sync" "perform" "(LTurnKeeper$Strand;LTurnKeeper$Word;)V"]
def tC13 : List Cond := [.selects RX1 ⟨"TurnKeeper$Sync", "perform", "(LTurnKeeper$Strand;LTurnKeeper$Word;)V"⟩ yX1_perform, .instanceMethod yX1_perform, .selects RX2 ⟨"TurnKeeper$Sync", "perform", "(LTurnKeeper$Strand;LTurnKeeper$Word;)V"⟩ yX2_perform, .instanceMethod yX2_perform, .selects RX3 ⟨"TurnKeeper$Sync", "perform", "(LTurnKeeper$Strand;LTurnKeeper$Word;)V"⟩ yX3_perform, .instanceMethod yX3_perform, .selects RX4 ⟨"TurnKeeper$Sync", "perform", "(LTurnKeeper$Strand;LTurnKeeper$Word;)V"⟩ yX4_perform, .instanceMethod yX4_perform, .selects RX5 ⟨"TurnKeeper$Sync", "perform", "(LTurnKeeper$Strand;LTurnKeeper$Word;)V"⟩ yX5_perform, .instanceMethod yX5_perform, .selects RX7 ⟨"TurnKeeper$Sync", "perform", "(LTurnKeeper$Strand;LTurnKeeper$Word;)V"⟩ yX7_perform, .instanceMethod yX7_perform, .code yX12_takeTurn cX12_takeTurn 4 none, .methodLink RX12 108 yX12_strandAt, .instanceMethod yX12_strandAt, .selects RX12 yX12_strandAt yX12_strandAt, .methodLink RX12 115 yX12_takeTurn, .instanceMethod yX12_takeTurn, .selects RX12 yX12_takeTurn yX12_takeTurn, .code yX12_step cX12_step 3 (some .int), .code yX12_howManyReady cX12_howManyReady 6 (some .int), .code yX12_readyFrom cX12_readyFrom 6 (some (.object "TurnKeeper$Strand")), .constant RX12 124 (1103515245), .methodLink RX12 121 yX12_howManyReady, .instanceMethod yX12_howManyReady, .selects RX12 yX12_howManyReady yX12_howManyReady, .methodLink RX12 125 yX12_readyFrom, .instanceMethod yX12_readyFrom, .selects RX12 yX12_readyFrom yX12_readyFrom, .code yX12_run cX12_run 8 (some .int), .code yX12_tick cX12_tick 7 (some .int), .fieldLink RX12 139 "TurnKeeper$Strand" "interrupted" "Z", .fieldLink RX12 149 "TurnKeeper$Strand" "kept" "I", .methodLink RX12 152 yX4_interruptWait, .instanceMethod yX4_interruptWait, .selects RX4 yX4_interruptWait yX4_interruptWait, .code yX12_interrupt cX12_interrupt 5 (some .int), .code yX12_look cX12_look 4 (some .int), .fieldLink RX12 166 "TurnKeeper$Sync" "number" "I", .fieldLink RX12 169 "TurnKeeper$Strand" "why" "I"]
def tC14 : List Cond := [.code yX12_blockerOf cX12_blockerOf 5 (some .int), .fieldLink RX12 280 "TurnKeeper$Strand" "row" "LTurnKeeper$Row;", .fieldLink RX12 281 "TurnKeeper$Lock" "row" "LTurnKeeper$Row;", .fieldLink RX12 282 "TurnKeeper$Lock" "owner" "I", .code yX12_dead cX12_dead 4 (some .int), .methodLink RX12 172 yX12_blockerOf, .instanceMethod yX12_blockerOf, .selects RX12 yX12_blockerOf yX12_blockerOf, .fieldLink RX12 190 "TurnKeeper$Sync" "row" "LTurnKeeper$Row;", .fieldLink RX12 194 "TurnKeeper$Row" "size" "I", .methodLink RX12 180 ⟨"TurnKeeper$Sync", "tells", "(I)Z"⟩, .sameMethod "TurnKeeper$Sync" "TurnKeeper$Sync" "tells" "(I)Z", .instanceMethod ⟨"TurnKeeper$Sync", "tells", "(I)Z"⟩, .selects RX1 ⟨"TurnKeeper$Sync", "tells", "(I)Z"⟩ yX1_tells, .instanceMethod yX1_tells, .selects RX2 ⟨"TurnKeeper$Sync", "tells", "(I)Z"⟩ yX9_tells, .instanceMethod yX9_tells, .selects RX3 ⟨"TurnKeeper$Sync", "tells", "(I)Z"⟩ yX9_tells, .selects RX4 ⟨"TurnKeeper$Sync", "tells", "(I)Z"⟩ yX4_tells, .instanceMethod yX4_tells, .selects RX5 ⟨"TurnKeeper$Sync", "tells", "(I)Z"⟩ yX5_tells, .instanceMethod yX5_tells, .selects RX7 ⟨"TurnKeeper$Sync", "tells", "(I)Z"⟩ yX9_tells, .methodLink RX12 186 ⟨"TurnKeeper$Sync", "value", "()J"⟩, .sameMethod "TurnKeeper$Sync" "TurnKeeper$Sync" "value" "()J", .selects RX1 ⟨"TurnKeeper$Sync", "value", "()J"⟩ yX1_value, .instanceMethod yX1_value, .selects RX2 ⟨"TurnKeeper$Sync", "value", "()J"⟩ yX2_value, .instanceMethod yX2_value, .selects RX3 ⟨"TurnKeeper$Sync", "value", "()J"⟩ yX3_value, .instanceMethod yX3_value, .selects RX4 ⟨"TurnKeeper$Sync", "value", "()J"⟩ yX4_value, .instanceMethod yX4_value, .selects RX5 ⟨"TurnKeeper$Sync", "value", "()J"⟩ yX5_value, .instanceMethod yX5_value, .selects RX7 ⟨"TurnKeeper$Sync", "value", "()J"⟩ yX7_value, .instanceMethod yX7_value, .methodLink RX12 197 ⟨"TurnKeeper$Sync", "detail", "(I)J"⟩, .sameMethod "TurnKeeper$Sync" "TurnKeeper$Sync" "detail" "(I)J", .instanceMethod ⟨"TurnKeeper$Sync", "detail", "(I)J"⟩]
def tC15 : List Cond := [.selects RX1 ⟨"TurnKeeper$Sync", "detail", "(I)J"⟩ yX1_detail, .instanceMethod yX1_detail, .selects RX2 ⟨"TurnKeeper$Sync", "detail", "(I)J"⟩ yX9_detail, .instanceMethod yX9_detail, .selects RX3 ⟨"TurnKeeper$Sync", "detail", "(I)J"⟩ yX9_detail, .selects RX4 ⟨"TurnKeeper$Sync", "detail", "(I)J"⟩ yX4_detail, .instanceMethod yX4_detail, .selects RX5 ⟨"TurnKeeper$Sync", "detail", "(I)J"⟩ yX5_detail, .instanceMethod yX5_detail, .selects RX7 ⟨"TurnKeeper$Sync", "detail", "(I)J"⟩ yX9_detail, .code yX12_sync cX12_sync 4 (some .long), .code yX12_count cX12_count 3 (some .long), .constantLong RX12 201 (-1), .fieldLink RX12 206 "TurnKeeper$Tape" "place" "I"]
def tC : List Cond := tC0 ++ (tC1 ++ (tC2 ++ (tC3 ++ (tC4 ++ (tC5 ++ (tC6 ++ (tC7 ++ (tC8 ++ (tC9 ++ (tC10 ++ (tC11 ++ (tC12 ++ (tC13 ++ (tC14 ++ (tC15 ++ (wsX10 ++ (wsX20 ++ (wsX30 ++ (wsX40 ++ (wsX50 ++ (wsX60 ++ (wsX70 ++ (wsX80 ++ (wsX100 ++ (wsX120)))))))))))))))))))))))))
set_option maxRecDepth 100000 in
theorem tC_good : tC.all goodWord = true := by decide +kernel
theorem tC_self : GoodIn tC tC := goodIn_sub (fun _ h => h) tC_good
theorem tC_lay0 : ∀ w ∈ u_ws RX1 TX1 5, w ∈ tC := fun w h => List.mem_append_right _ (List.mem_append_right _ (List.mem_append_right _ (List.mem_append_right _ (List.mem_append_right _ (List.mem_append_right _ (List.mem_append_right _ (List.mem_append_right _ (List.mem_append_right _ (List.mem_append_right _ (List.mem_append_right _ (List.mem_append_right _ (List.mem_append_right _ (List.mem_append_right _ (List.mem_append_right _ (List.mem_append_right _ (List.mem_append_left _ h))))))))))))))))
theorem tC_lay1 : ∀ w ∈ u_ws RX2 TX2 5, w ∈ tC := fun w h => List.mem_append_right _ (List.mem_append_right _ (List.mem_append_right _ (List.mem_append_right _ (List.mem_append_right _ (List.mem_append_right _ (List.mem_append_right _ (List.mem_append_right _ (List.mem_append_right _ (List.mem_append_right _ (List.mem_append_right _ (List.mem_append_right _ (List.mem_append_right _ (List.mem_append_right _ (List.mem_append_right _ (List.mem_append_right _ (List.mem_append_right _ (List.mem_append_left _ h)))))))))))))))))
theorem tC_lay2 : ∀ w ∈ u_ws RX3 TX3 4, w ∈ tC := fun w h => List.mem_append_right _ (List.mem_append_right _ (List.mem_append_right _ (List.mem_append_right _ (List.mem_append_right _ (List.mem_append_right _ (List.mem_append_right _ (List.mem_append_right _ (List.mem_append_right _ (List.mem_append_right _ (List.mem_append_right _ (List.mem_append_right _ (List.mem_append_right _ (List.mem_append_right _ (List.mem_append_right _ (List.mem_append_right _ (List.mem_append_right _ (List.mem_append_right _ (List.mem_append_left _ h))))))))))))))))))
theorem tC_lay3 : ∀ w ∈ u_ws RX4 TX4 7, w ∈ tC := fun w h => List.mem_append_right _ (List.mem_append_right _ (List.mem_append_right _ (List.mem_append_right _ (List.mem_append_right _ (List.mem_append_right _ (List.mem_append_right _ (List.mem_append_right _ (List.mem_append_right _ (List.mem_append_right _ (List.mem_append_right _ (List.mem_append_right _ (List.mem_append_right _ (List.mem_append_right _ (List.mem_append_right _ (List.mem_append_right _ (List.mem_append_right _ (List.mem_append_right _ (List.mem_append_right _ (List.mem_append_left _ h)))))))))))))))))))
theorem tC_lay4 : ∀ w ∈ u_ws RX5 TX5 6, w ∈ tC := fun w h => List.mem_append_right _ (List.mem_append_right _ (List.mem_append_right _ (List.mem_append_right _ (List.mem_append_right _ (List.mem_append_right _ (List.mem_append_right _ (List.mem_append_right _ (List.mem_append_right _ (List.mem_append_right _ (List.mem_append_right _ (List.mem_append_right _ (List.mem_append_right _ (List.mem_append_right _ (List.mem_append_right _ (List.mem_append_right _ (List.mem_append_right _ (List.mem_append_right _ (List.mem_append_right _ (List.mem_append_right _ (List.mem_append_left _ h))))))))))))))))))))
theorem tC_lay5 : ∀ w ∈ u_ws RX6 TX6 2, w ∈ tC := fun w h => List.mem_append_right _ (List.mem_append_right _ (List.mem_append_right _ (List.mem_append_right _ (List.mem_append_right _ (List.mem_append_right _ (List.mem_append_right _ (List.mem_append_right _ (List.mem_append_right _ (List.mem_append_right _ (List.mem_append_right _ (List.mem_append_right _ (List.mem_append_right _ (List.mem_append_right _ (List.mem_append_right _ (List.mem_append_right _ (List.mem_append_right _ (List.mem_append_right _ (List.mem_append_right _ (List.mem_append_right _ (List.mem_append_right _ (List.mem_append_left _ h)))))))))))))))))))))
theorem tC_lay6 : ∀ w ∈ u_ws RX7 TX7 4, w ∈ tC := fun w h => List.mem_append_right _ (List.mem_append_right _ (List.mem_append_right _ (List.mem_append_right _ (List.mem_append_right _ (List.mem_append_right _ (List.mem_append_right _ (List.mem_append_right _ (List.mem_append_right _ (List.mem_append_right _ (List.mem_append_right _ (List.mem_append_right _ (List.mem_append_right _ (List.mem_append_right _ (List.mem_append_right _ (List.mem_append_right _ (List.mem_append_right _ (List.mem_append_right _ (List.mem_append_right _ (List.mem_append_right _ (List.mem_append_right _ (List.mem_append_right _ (List.mem_append_left _ h))))))))))))))))))))))
theorem tC_lay7 : ∀ w ∈ u_ws RX8 TX8 13, w ∈ tC := fun w h => List.mem_append_right _ (List.mem_append_right _ (List.mem_append_right _ (List.mem_append_right _ (List.mem_append_right _ (List.mem_append_right _ (List.mem_append_right _ (List.mem_append_right _ (List.mem_append_right _ (List.mem_append_right _ (List.mem_append_right _ (List.mem_append_right _ (List.mem_append_right _ (List.mem_append_right _ (List.mem_append_right _ (List.mem_append_right _ (List.mem_append_right _ (List.mem_append_right _ (List.mem_append_right _ (List.mem_append_right _ (List.mem_append_right _ (List.mem_append_right _ (List.mem_append_right _ (List.mem_append_left _ h)))))))))))))))))))))))
theorem tC_lay8 : ∀ w ∈ u_ws RX10 TX10 6, w ∈ tC := fun w h => List.mem_append_right _ (List.mem_append_right _ (List.mem_append_right _ (List.mem_append_right _ (List.mem_append_right _ (List.mem_append_right _ (List.mem_append_right _ (List.mem_append_right _ (List.mem_append_right _ (List.mem_append_right _ (List.mem_append_right _ (List.mem_append_right _ (List.mem_append_right _ (List.mem_append_right _ (List.mem_append_right _ (List.mem_append_right _ (List.mem_append_right _ (List.mem_append_right _ (List.mem_append_right _ (List.mem_append_right _ (List.mem_append_right _ (List.mem_append_right _ (List.mem_append_right _ (List.mem_append_right _ (List.mem_append_left _ h))))))))))))))))))))))))
theorem tC_lay9 : ∀ w ∈ u_ws RX12 TX12 6, w ∈ tC := fun w h => List.mem_append_right _ (List.mem_append_right _ (List.mem_append_right _ (List.mem_append_right _ (List.mem_append_right _ (List.mem_append_right _ (List.mem_append_right _ (List.mem_append_right _ (List.mem_append_right _ (List.mem_append_right _ (List.mem_append_right _ (List.mem_append_right _ (List.mem_append_right _ (List.mem_append_right _ (List.mem_append_right _ (List.mem_append_right _ (List.mem_append_right _ (List.mem_append_right _ (List.mem_append_right _ (List.mem_append_right _ (List.mem_append_right _ (List.mem_append_right _ (List.mem_append_right _ (List.mem_append_right _ (List.mem_append_right _ (h)))))))))))))))))))))))))
abbrev cT (ks : ClassId × ClassId × ClassId × ClassId) : List (ClassId × FieldType) := [(ks.1, .byte), (ks.2.1, .int), (ks.2.2.1, .object "TurnKeeper$Strand"), (ks.2.2.2, .object "TurnKeeper$Sync")]
def cV (D : va_G) (L : List Nat) (f : Nat → va_E) (A : Nat → Prop) (H : Heap) : Prop := va_P D vwCl (va_pl L f) H ∧ va_D A (va_pl L f)
def cC (own : String) (p : Program) (s : State) (m : MethodId) (args : Array Value) (c : Code) (cc : ByteArray) (D : va_G) (ks : ClassId × ClassId × ClassId × ClassId) : Prop := p.tables.exec = Jvm.exec ∧ c.code = cc ∧ s.vm.findClass own = some m.cls ∧ (∀ w ∈ tC, w.before args s = true) ∧ va_K D vwCl (cT ks) s
theorem va_pl0 {L : List Nat} {f : Nat → va_E} {a : Nat} (h : a ∈ L) : ∃ k : Nat, (va_pl L f)[k]? = some (a, f a) := by
  obtain ⟨k, hk⟩ := va_pl_get (X := []) (f := f) h
  exact ⟨k, by rw [List.nil_append] at hk; exact hk⟩
theorem va_pls {A : Nat → Prop} {L : List Nat} {f : Nat → va_E} {a k : Nat} {e : va_E} (hD : va_D A (va_pl L f)) (h : a ∈ L) (hk : (va_pl L f)[k]? = some (a, f a)) : (va_pl L f).set k (a, e) = va_pl L (va_up f a e) := by
  have := va_pl_set (X := []) (e := e) (by rw [List.nil_append]; exact hD) h (by rw [List.nil_append]; exact hk)
  rw [List.nil_append, List.nil_append] at this
  exact this
section CW
variable {p : Program} {l : Launch} {e : Env} {R : Room} {s : State} {m : MethodId} {args : Array Value} {below : List Frame} {meth : Method} {c : Code} {H : Heap} {locs : List Loc} {cells slots : Nat} {Q : State → Prop}
variable {cc : ByteArray} {pc : Nat} {ls : Array Slot} {rest : List Value} {D : va_G} {ks : ClassId × ClassId × ClassId × ClassId} {A : Nat → Prop} {L : List Nat} {f : Nat → va_E} {H0 : Heap} {own : String} {a : Nat}
theorem cG {ref C : String} {T : u_T} {N ci index : Nat} {fs : List Value} {v : Value} (C9 : cC own p s m args c cc D ks) (V : cV D L f A H) (ha : a ∈ L) (hf : f a = .inr (ci, fs)) (hc : vwCl[ci]? = some (C, T, N)) (hin : ∀ w ∈ u_ws C T N, w ∈ tC) (k : Nat) (hk : k < N)
    (hl : Cond.fieldLink own index ref (T k).2.1 (T k).2.2.1 ∈ tC) (hsame : (T k).1 = ref ∨ Cond.sameField ref (T k).1 (T k).2.1 (T k).2.2.1 ∈ tC) (hv : fs[k]? = some v) (hdg : decode cc pc = .ok (.getfield index, 3))
    (kk : W p l e R s m args below meth c H locs cells slots Q (F0 m (pc + 3) ls (v :: rest))) : W p l e R s m args below meth c H locs cells slots Q (F0 m pc ls (.ref a :: rest)) := by
  obtain ⟨hx, hb, hown, hts, hK⟩ := C9
  obtain ⟨q0, hq⟩ := va_pl0 (f := f) ha
  rw [hf] at hq
  refine va_get hx hb hts hin hown hK V.1 q0 hq hc k hk (hts _ hl) (fun x h => ?_) hv hdg kk
  rcases hsame with z | z
  · rw [← z]; exact h
  · exact u_same (hts _ z) x h
theorem cP {ref C : String} {T : u_T} {N ci index : Nat} {fs : List Value} {v : Value} {ty : FieldType} (C9 : cC own p s m args c cc D ks) (V : cV D L f A H) (hS : va_S A H0 H locs) (ha : a ∈ L) (hf : f a = .inr (ci, fs)) (hc : vwCl[ci]? = some (C, T, N)) (hin : ∀ w ∈ u_ws C T N, w ∈ tC) (ty0 : Nat → FieldType) (hty : ∀ k, k < N → parseFieldDescriptor (T k).2.2.1 = some (ty0 k)) (hnm : ∀ a, a < N → ∀ b, b < N → a ≠ b → (T a).2.1 ≠ (T b).2.1) (k : Nat) (hk : k < N)
    (hl : Cond.fieldLink own index ref (T k).2.1 (T k).2.2.1 ∈ tC) (hsame : (T k).1 = ref) (hfin : (T k).2.2.2 = false) (hd : parseFieldDescriptor (T k).2.2.1 = some ty) (hn : narrow ty v = v) (hfit : fits ty v = true) (hlen : k < fs.length) (hdg : decode cc pc = .ok (.putfield index, 3))
    (kk : ∀ (f1 : Nat → va_E) (H1 : Heap) (locs1 : List Loc), f1 = va_up f a (.inr (ci, fs.set k v)) → cV D L f1 A H1 → va_S A H0 H1 locs1 → W p l e R s m args below meth c H1 locs1 cells slots Q (F0 m (pc + 3) ls rest)) : W p l e R s m args below meth c H locs cells slots Q (F0 m pc ls (v :: .ref a :: rest)) := by
  obtain ⟨hx, hb, hown, hts, hK⟩ := C9
  obtain ⟨q0, hq0⟩ := va_pl0 (f := f) ha
  have hq := hq0
  rw [hf] at hq
  refine va_put hx hb hts hin ty0 hty hnm hown hK V.1 V.2 hS q0 hq hc k hk (hts _ hl) (fun x h => by rw [← hsame]; exact h) hfin hd hn hfit hlen hdg (fun H1 locs1 hP hD hS1 => ?_)
  rw [va_pls V.2 ha hq0] at hP hD
  exact kk _ H1 locs1 rfl ⟨hP, hD⟩ hS1
theorem cAl {x : vp_A} {cA : ClassId} {ty : FieldType} {t0 : Nat} {v : Int32} (C9 : cC own p s m args c cc D ks) (V : cV D L f A H) (ha : a ∈ L) (hf : f a = .inl (cA, x)) (ht : (cT ks)[t0]? = some (cA, ty)) (hv : Int32.ofNat x.1 = v) (hdg : decode cc pc = .ok (.arraylength, 1))
    (kk : W p l e R s m args below meth c H locs cells slots Q (F0 m (pc + 1) ls (.int v :: rest))) : W p l e R s m args below meth c H locs cells slots Q (F0 m pc ls (.ref a :: rest)) := by
  obtain ⟨hx, hb, hown, hts, hK⟩ := C9
  obtain ⟨q0, hq⟩ := va_pl0 (f := f) ha
  rw [hf] at hq
  exact va_alen hx hb hK V.1 q0 t0 hq ht hv hdg kk
theorem cLi {n : Nat} {g : Nat → Int32} {i : Int32} (C9 : cC own p s m args c cc D ks) (V : cV D L f A H) (ha : a ∈ L) (hf : f a = .inl (ks.2.1, n, .inl g)) (hin : vp_in i n) (hdg : decode cc pc = .ok (.iaload, 1))
    (kk : W p l e R s m args below meth c H locs cells slots Q (F0 m (pc + 1) ls (.int (g i.toNatClampNeg) :: rest))) : W p l e R s m args below meth c H locs cells slots Q (F0 m pc ls (.int i :: .ref a :: rest)) := by
  obtain ⟨hx, hb, hown, hts, hK⟩ := C9
  obtain ⟨q0, hq⟩ := va_pl0 (f := f) ha
  rw [hf] at hq
  exact va_iald hx hb hK V.1 q0 1 hq rfl hin hdg kk
theorem cSi {n : Nat} {g : Nat → Int32} {i x : Int32} (C9 : cC own p s m args c cc D ks) (V : cV D L f A H) (hS : va_S A H0 H locs) (ha : a ∈ L) (hf : f a = .inl (ks.2.1, n, .inl g)) (hin : vp_in i n) (hdg : decode cc pc = .ok (.iastore, 1))
    (kk : ∀ (f1 : Nat → va_E) (H1 : Heap) (locs1 : List Loc), f1 = va_up f a (.inl (ks.2.1, n, .inl (upd g i.toNatClampNeg x))) → cV D L f1 A H1 → va_S A H0 H1 locs1 → W p l e R s m args below meth c H1 locs1 cells slots Q (F0 m (pc + 1) ls rest)) : W p l e R s m args below meth c H locs cells slots Q (F0 m pc ls (.int x :: .int i :: .ref a :: rest)) := by
  obtain ⟨hx, hb, hown, hts, hK⟩ := C9
  obtain ⟨q0, hq0⟩ := va_pl0 (f := f) ha
  have hq := hq0
  rw [hf] at hq
  refine va_iast hx hb hK V.1 V.2 hS q0 1 hq rfl hin hdg (fun H1 locs1 hP hD hS1 => ?_)
  rw [va_pls V.2 ha hq0] at hP hD
  exact kk _ H1 locs1 rfl ⟨hP, hD⟩ hS1
theorem cLb {n : Nat} {g : Nat → Int32} {i : Int32} (C9 : cC own p s m args c cc D ks) (V : cV D L f A H) (ha : a ∈ L) (hf : f a = .inl (ks.1, n, .inl g)) (hin : vp_in i n) (hdg : decode cc pc = .ok (.baload, 1))
    (kk : W p l e R s m args below meth c H locs cells slots Q (F0 m (pc + 1) ls (.int (g i.toNatClampNeg) :: rest))) : W p l e R s m args below meth c H locs cells slots Q (F0 m pc ls (.int i :: .ref a :: rest)) := by
  obtain ⟨hx, hb, hown, hts, hK⟩ := C9
  obtain ⟨q0, hq⟩ := va_pl0 (f := f) ha
  rw [hf] at hq
  exact va_bald hx hb hK V.1 q0 0 hq rfl hin hdg kk
theorem cSb {n : Nat} {g : Nat → Int32} {i x : Int32} (C9 : cC own p s m args c cc D ks) (V : cV D L f A H) (hS : va_S A H0 H locs) (ha : a ∈ L) (hf : f a = .inl (ks.1, n, .inl g)) (hin : vp_in i n) (hdg : decode cc pc = .ok (.bastore, 1))
    (kk : ∀ (f1 : Nat → va_E) (H1 : Heap) (locs1 : List Loc), f1 = va_up f a (.inl (ks.1, n, .inl (upd g i.toNatClampNeg (vp_nar .byte x)))) → cV D L f1 A H1 → va_S A H0 H1 locs1 → W p l e R s m args below meth c H1 locs1 cells slots Q (F0 m (pc + 1) ls rest)) : W p l e R s m args below meth c H locs cells slots Q (F0 m pc ls (.int x :: .int i :: .ref a :: rest)) := by
  obtain ⟨hx, hb, hown, hts, hK⟩ := C9
  obtain ⟨q0, hq0⟩ := va_pl0 (f := f) ha
  have hq := hq0
  rw [hf] at hq
  refine va_bast hx hb hK V.1 V.2 hS q0 0 hq rfl hin hdg (fun H1 locs1 hP hD hS1 => ?_)
  rw [va_pls V.2 ha hq0] at hP hD
  exact kk _ H1 locs1 rfl ⟨hP, hD⟩ hS1
/-- a place of the Strands' arrays (t0 = 2) or of the Syncs' (t0 = 3) -/
theorem cLr {n t0 : Nat} {cA : ClassId} {C : String} {g : Nat → Option Nat} {i : Int32} (C9 : cC own p s m args c cc D ks) (V : cV D L f A H) (ha : a ∈ L) (hf : f a = .inl (cA, n, .inr (.inr (.inr (.inr g))))) (ht : (cT ks)[t0]? = some (cA, .object C)) (hin : vp_in i n) (hdg : decode cc pc = .ok (.aaload, 1))
    (kk : W p l e R s m args below meth c H locs cells slots Q (F0 m (pc + 1) ls (va_rf (g i.toNatClampNeg) :: rest))) : W p l e R s m args below meth c H locs cells slots Q (F0 m pc ls (.int i :: .ref a :: rest)) := by
  obtain ⟨hx, hb, hown, hts, hK⟩ := C9
  obtain ⟨q0, hq⟩ := va_pl0 (f := f) ha
  rw [hf] at hq
  exact va_aldq hx hb hK V.1 q0 t0 hq ht hin hdg kk
/-- a Strand goes into an array of Strands -/
theorem cSr {n v : Nat} {vs : List Value} {g : Nat → Option Nat} {i : Int32} (C9 : cC own p s m args c cc D ks) (V : cV D L f A H) (hS : va_S A H0 H locs) (ha : a ∈ L) (hf : f a = .inl (ks.2.2.1, n, .inr (.inr (.inr (.inr g))))) (hv : v ∈ L) (hfv : f v = .inr (7, vs)) (hin : vp_in i n) (hdg : decode cc pc = .ok (.aastore, 1))
    (kk : ∀ (f1 : Nat → va_E) (H1 : Heap) (locs1 : List Loc), f1 = va_up f a (.inl (ks.2.2.1, n, .inr (.inr (.inr (.inr (va_up g i.toNatClampNeg (some v))))))) → cV D L f1 A H1 → va_S A H0 H1 locs1 → W p l e R s m args below meth c H1 locs1 cells slots Q (F0 m (pc + 1) ls rest)) : W p l e R s m args below meth c H locs cells slots Q (F0 m pc ls (.ref v :: .int i :: .ref a :: rest)) := by
  obtain ⟨hx, hb, hown, hts, hK⟩ := C9
  obtain ⟨q0, hq0⟩ := va_pl0 (f := f) ha
  obtain ⟨q1, hq1⟩ := va_pl0 (f := f) hv
  have hq := hq0
  rw [hf] at hq
  rw [hfv] at hq1
  refine va_astq hx hb hK V.1 V.2 hS q0 2 q1 7 (r := (RX8, TX8, 13)) hq rfl hq1 rfl hin hdg (fun H1 locs1 hP hD hS1 => ?_)
  rw [va_pls V.2 ha hq0] at hP hD
  exact kk _ H1 locs1 rfl ⟨hP, hD⟩ hS1
/-- null goes into an array of Strands (t0 = 2) or of Syncs (t0 = 3) -/
theorem cSn {n t0 : Nat} {cA : ClassId} {C : String} {g : Nat → Option Nat} {i : Int32} (C9 : cC own p s m args c cc D ks) (V : cV D L f A H) (hS : va_S A H0 H locs) (ha : a ∈ L) (hf : f a = .inl (cA, n, .inr (.inr (.inr (.inr g))))) (ht : (cT ks)[t0]? = some (cA, .object C)) (hin : vp_in i n) (hdg : decode cc pc = .ok (.aastore, 1))
    (kk : ∀ (f1 : Nat → va_E) (H1 : Heap) (locs1 : List Loc), f1 = va_up f a (.inl (cA, n, .inr (.inr (.inr (.inr (va_up g i.toNatClampNeg none)))))) → cV D L f1 A H1 → va_S A H0 H1 locs1 → W p l e R s m args below meth c H1 locs1 cells slots Q (F0 m (pc + 1) ls rest)) : W p l e R s m args below meth c H locs cells slots Q (F0 m pc ls (.null :: .int i :: .ref a :: rest)) := by
  obtain ⟨hx, hb, hown, hts, hK⟩ := C9
  obtain ⟨q0, hq0⟩ := va_pl0 (f := f) ha
  have hq := hq0
  rw [hf] at hq
  refine va_astqN hx hb hK V.1 V.2 hS q0 t0 hq ht hin hdg (fun H1 locs1 hP hD hS1 => ?_)
  rw [va_pls V.2 ha hq0] at hP hD
  exact kk _ H1 locs1 rfl ⟨hP, hD⟩ hS1
end CW
-- words of the fields that the class reads and writes
theorem tCf_X6_11 : Cond.fieldLink RX6 11 "TurnKeeper$Row" "strands" "[LTurnKeeper$Strand;" ∈ tC := List.mem_of_getElem? (i := 5) (by decide +kernel)
theorem tCf_X9_12 : Cond.fieldLink RX9 12 "TurnKeeper$Sync" "row" "LTurnKeeper$Row;" ∈ tC := List.mem_of_getElem? (i := 11) (by decide +kernel)
theorem tCf_X9_18 : Cond.fieldLink RX9 18 "TurnKeeper$Sync" "number" "I" ∈ tC := List.mem_of_getElem? (i := 12) (by decide +kernel)
theorem tCf_X9_22 : Cond.fieldLink RX9 22 "TurnKeeper$Sync" "kind" "I" ∈ tC := List.mem_of_getElem? (i := 13) (by decide +kernel)
theorem tCf_X1_9 : Cond.fieldLink RX1 9 "TurnKeeper$Gate" "owner" "I" ∈ tC := List.mem_of_getElem? (i := 16) (by decide +kernel)
theorem tCf_X6_17 : Cond.fieldLink RX6 17 "TurnKeeper$Row" "size" "I" ∈ tC := List.mem_of_getElem? (i := 23) (by decide +kernel)
theorem tCf_X8_28 : Cond.fieldLink RX8 28 "TurnKeeper$Strand" "at" "I" ∈ tC := List.mem_of_getElem? (i := 25) (by decide +kernel)
theorem tCf_X8_22 : Cond.fieldLink RX8 22 "TurnKeeper$Strand" "size" "I" ∈ tC := List.mem_of_getElem? (i := 26) (by decide +kernel)
theorem tCf_X8_19 : Cond.fieldLink RX8 19 "TurnKeeper$Strand" "state" "I" ∈ tC := List.mem_of_getElem? (i := 27) (by decide +kernel)
theorem tCf_X8_52 : Cond.fieldLink RX8 52 "TurnKeeper$Strand" "row" "LTurnKeeper$Row;" ∈ tC := List.mem_of_getElem? (i := 29) (by decide +kernel)
theorem tCf_X8_62 : Cond.fieldLink RX8 62 "TurnKeeper$Strand" "sync" "LTurnKeeper$Sync;" ∈ tC := List.mem_of_getElem? (i := 30) (by decide +kernel)
theorem tCf_X8_34 : Cond.fieldLink RX8 34 "TurnKeeper$Strand" "interrupted" "Z" ∈ tC := List.mem_of_getElem? (i := 39) (by decide +kernel)
theorem tCf_X8_25 : Cond.fieldLink RX8 25 "TurnKeeper$Strand" "a" "I" ∈ tC := List.mem_of_getElem? (i := 40) (by decide +kernel)
theorem tCf_X8_31 : Cond.fieldLink RX8 31 "TurnKeeper$Strand" "why" "I" ∈ tC := List.mem_of_getElem? (i := 57) (by decide +kernel)
theorem tCf_X8_9 : Cond.fieldLink RX8 9 "TurnKeeper$Strand" "code" "[I" ∈ tC := List.mem_of_getElem? (i := 60) (by decide +kernel)
theorem tCf_X8_46 : Cond.fieldLink RX8 46 "TurnKeeper$Word" "END" "LTurnKeeper$Word;" ∈ tC := List.mem_of_getElem? (i := 62) (by decide +kernel)
theorem tCf_X1_27 : Cond.fieldLink RX1 27 "TurnKeeper$Gate" "row" "LTurnKeeper$Row;" ∈ tC := List.mem_of_getElem? (i := 66) (by decide +kernel)
theorem tCs_X1_row : Cond.sameField "TurnKeeper$Gate" "TurnKeeper$Sync" "row" "LTurnKeeper$Row;" ∈ tC := List.mem_of_getElem? (i := 67) (by decide +kernel)
theorem tCf_X1_73 : Cond.fieldLink RX1 73 "TurnKeeper$Word" "OWN" "LTurnKeeper$Word;" ∈ tC := List.mem_of_getElem? (i := 68) (by decide +kernel)
theorem tCf_X1_36 : Cond.fieldLink RX1 36 "TurnKeeper$Gate" "readers" "I" ∈ tC := List.mem_of_getElem? (i := 69) (by decide +kernel)
theorem tCf_X1_52 : Cond.fieldLink RX1 52 "TurnKeeper$Strand" "number" "I" ∈ tC := List.mem_of_getElem? (i := 70) (by decide +kernel)
theorem tCf_X1_15 : Cond.fieldLink RX1 15 "TurnKeeper$1" "$SwitchMap$TurnKeeper$Word" "[I" ∈ tC := List.mem_of_getElem? (i := 88) (by decide +kernel)
theorem tCf_X1_31 : Cond.fieldLink RX1 31 "TurnKeeper$Row" "size" "I" ∈ tC := List.mem_of_getElem? (i := 89) (by decide +kernel)
theorem tCf_X2_9 : Cond.fieldLink RX2 9 "TurnKeeper$Holder" "filled" "Z" ∈ tC := List.mem_of_getElem? (i := 110) (by decide +kernel)
theorem tCf_X2_15 : Cond.fieldLink RX2 15 "TurnKeeper$Holder" "held" "I" ∈ tC := List.mem_of_getElem? (i := 111) (by decide +kernel)
theorem tCf_X2_56 : Cond.fieldLink RX2 56 "TurnKeeper$Holder" "row" "LTurnKeeper$Row;" ∈ tC := List.mem_of_getElem? (i := 115) (by decide +kernel)
theorem tCs_X2_row : Cond.sameField "TurnKeeper$Holder" "TurnKeeper$Sync" "row" "LTurnKeeper$Row;" ∈ tC := List.mem_of_getElem? (i := 116) (by decide +kernel)
theorem tCf_X2_19 : Cond.fieldLink RX2 19 "TurnKeeper$1" "$SwitchMap$TurnKeeper$Word" "[I" ∈ tC := List.mem_of_getElem? (i := 122) (by decide +kernel)
theorem tCf_X2_37 : Cond.fieldLink RX2 37 "TurnKeeper$Strand" "a" "I" ∈ tC := List.mem_of_getElem? (i := 123) (by decide +kernel)
theorem tCf_X3_9 : Cond.fieldLink RX3 9 "TurnKeeper$Hurdle" "height" "I" ∈ tC := List.mem_of_getElem? (i := 140) (by decide +kernel)
theorem tCf_X3_15 : Cond.fieldLink RX3 15 "TurnKeeper$1" "$SwitchMap$TurnKeeper$Word" "[I" ∈ tC := List.mem_of_getElem? (i := 145) (by decide +kernel)
theorem tCf_X3_40 : Cond.fieldLink RX3 40 "TurnKeeper$Hurdle" "row" "LTurnKeeper$Row;" ∈ tC := List.mem_of_getElem? (i := 146) (by decide +kernel)
theorem tCs_X3_row : Cond.sameField "TurnKeeper$Hurdle" "TurnKeeper$Sync" "row" "LTurnKeeper$Row;" ∈ tC := List.mem_of_getElem? (i := 147) (by decide +kernel)
theorem tCf_X3_44 : Cond.fieldLink RX3 44 "TurnKeeper$Row" "size" "I" ∈ tC := List.mem_of_getElem? (i := 148) (by decide +kernel)
theorem tCf_X3_49 : Cond.fieldLink RX3 49 "TurnKeeper$Strand" "a" "I" ∈ tC := List.mem_of_getElem? (i := 149) (by decide +kernel)
theorem tCf_X3_52 : Cond.fieldLink RX3 52 "TurnKeeper$Hurdle" "kind" "I" ∈ tC := List.mem_of_getElem? (i := 161) (by decide +kernel)
theorem tCs_X3_kind : Cond.sameField "TurnKeeper$Hurdle" "TurnKeeper$Sync" "kind" "I" ∈ tC := List.mem_of_getElem? (i := 162) (by decide +kernel)
theorem tCf_X4_9 : Cond.fieldLink RX4 9 "TurnKeeper$Lock" "owner" "I" ∈ tC := List.mem_of_getElem? (i := 164) (by decide +kernel)
theorem tCf_X4_20 : Cond.fieldLink RX4 20 "TurnKeeper$Lock" "second" "LTurnKeeper$Row;" ∈ tC := List.mem_of_getElem? (i := 166) (by decide +kernel)
theorem tCf_X4_24 : Cond.fieldLink RX4 24 "TurnKeeper$Lock" "fair" "Z" ∈ tC := List.mem_of_getElem? (i := 167) (by decide +kernel)
theorem tCf_X4_51 : Cond.fieldLink RX4 51 "TurnKeeper$Strand" "number" "I" ∈ tC := List.mem_of_getElem? (i := 170) (by decide +kernel)
theorem tCf_X4_63 : Cond.fieldLink RX4 63 "TurnKeeper$Lock" "holds" "I" ∈ tC := List.mem_of_getElem? (i := 171) (by decide +kernel)
theorem tCf_X4_92 : Cond.fieldLink RX4 92 "TurnKeeper$Lock" "row" "LTurnKeeper$Row;" ∈ tC := List.mem_of_getElem? (i := 172) (by decide +kernel)
theorem tCs_X4_row : Cond.sameField "TurnKeeper$Lock" "TurnKeeper$Sync" "row" "LTurnKeeper$Row;" ∈ tC := List.mem_of_getElem? (i := 173) (by decide +kernel)
theorem tCf_X4_85 : Cond.fieldLink RX4 85 "TurnKeeper$Strand" "kept" "I" ∈ tC := List.mem_of_getElem? (i := 181) (by decide +kernel)
theorem tCf_X4_105 : Cond.fieldLink RX4 105 "TurnKeeper$Strand" "answer" "I" ∈ tC := List.mem_of_getElem? (i := 182) (by decide +kernel)
theorem tCf_X4_108 : Cond.fieldLink RX4 108 "TurnKeeper$Strand" "a" "I" ∈ tC := List.mem_of_getElem? (i := 183) (by decide +kernel)
theorem tCf_X4_102 : Cond.fieldLink RX4 102 "TurnKeeper$Strand" "state" "I" ∈ tC := List.mem_of_getElem? (i := 185) (by decide +kernel)
theorem tCf_X4_28 : Cond.fieldLink RX4 28 "TurnKeeper$Word" "LOCK" "LTurnKeeper$Word;" ∈ tC := List.mem_of_getElem? (i := 197) (by decide +kernel)
theorem tCf_X4_38 : Cond.fieldLink RX4 38 "TurnKeeper$Word" "TRY" "LTurnKeeper$Word;" ∈ tC := List.mem_of_getElem? (i := 198) (by decide +kernel)
theorem tCf_X4_57 : Cond.fieldLink RX4 57 "TurnKeeper$Word" "UNLOCK" "LTurnKeeper$Word;" ∈ tC := List.mem_of_getElem? (i := 199) (by decide +kernel)
theorem tCf_X4_69 : Cond.fieldLink RX4 69 "TurnKeeper$Word" "SIGNAL" "LTurnKeeper$Word;" ∈ tC := List.mem_of_getElem? (i := 200) (by decide +kernel)
theorem tCf_X4_72 : Cond.fieldLink RX4 72 "TurnKeeper$Word" "ALL" "LTurnKeeper$Word;" ∈ tC := List.mem_of_getElem? (i := 201) (by decide +kernel)
theorem tCf_X4_75 : Cond.fieldLink RX4 75 "TurnKeeper$Row" "size" "I" ∈ tC := List.mem_of_getElem? (i := 202) (by decide +kernel)
theorem tCf_X4_118 : Cond.fieldLink RX4 118 "TurnKeeper$Strand" "row" "LTurnKeeper$Row;" ∈ tC := List.mem_of_getElem? (i := 217) (by decide +kernel)
theorem tCf_X5_9 : Cond.fieldLink RX5 9 "TurnKeeper$Queue" "items" "[I" ∈ tC := List.mem_of_getElem? (i := 225) (by decide +kernel)
theorem tCf_X5_67 : Cond.fieldLink RX5 67 "TurnKeeper$Queue" "head" "I" ∈ tC := List.mem_of_getElem? (i := 228) (by decide +kernel)
theorem tCf_X5_48 : Cond.fieldLink RX5 48 "TurnKeeper$Queue" "size" "I" ∈ tC := List.mem_of_getElem? (i := 229) (by decide +kernel)
theorem tCf_X5_54 : Cond.fieldLink RX5 54 "TurnKeeper$Queue" "row" "LTurnKeeper$Row;" ∈ tC := List.mem_of_getElem? (i := 230) (by decide +kernel)
theorem tCs_X5_row : Cond.sameField "TurnKeeper$Queue" "TurnKeeper$Sync" "row" "LTurnKeeper$Row;" ∈ tC := List.mem_of_getElem? (i := 231) (by decide +kernel)
theorem tCf_X5_26 : Cond.fieldLink RX5 26 "TurnKeeper$Strand" "a" "I" ∈ tC := List.mem_of_getElem? (i := 239) (by decide +kernel)
theorem tCf_X5_15 : Cond.fieldLink RX5 15 "TurnKeeper$1" "$SwitchMap$TurnKeeper$Word" "[I" ∈ tC := List.mem_of_getElem? (i := 242) (by decide +kernel)
theorem tCf_X7_9 : Cond.fieldLink RX7 9 "TurnKeeper$Semaphore" "permits" "I" ∈ tC := List.mem_of_getElem? (i := 258) (by decide +kernel)
theorem tCf_X7_27 : Cond.fieldLink RX7 27 "TurnKeeper$Semaphore" "row" "LTurnKeeper$Row;" ∈ tC := List.mem_of_getElem? (i := 260) (by decide +kernel)
theorem tCs_X7_row : Cond.sameField "TurnKeeper$Semaphore" "TurnKeeper$Sync" "row" "LTurnKeeper$Row;" ∈ tC := List.mem_of_getElem? (i := 261) (by decide +kernel)
theorem tCf_X7_15 : Cond.fieldLink RX7 15 "TurnKeeper$1" "$SwitchMap$TurnKeeper$Word" "[I" ∈ tC := List.mem_of_getElem? (i := 266) (by decide +kernel)
theorem tCf_X7_31 : Cond.fieldLink RX7 31 "TurnKeeper$Row" "size" "I" ∈ tC := List.mem_of_getElem? (i := 267) (by decide +kernel)
theorem tCf_X8_15 : Cond.fieldLink RX8 15 "TurnKeeper$Strand" "number" "I" ∈ tC := List.mem_of_getElem? (i := 281) (by decide +kernel)
theorem tCf_X9_25 : Cond.fieldLink RX9 25 "TurnKeeper$Row" "size" "I" ∈ tC := List.mem_of_getElem? (i := 285) (by decide +kernel)
theorem tCf_X10_9 : Cond.fieldLink RX10 9 "TurnKeeper$Tape" "code" "[I" ∈ tC := List.mem_of_getElem? (i := 291) (by decide +kernel)
theorem tCf_X10_15 : Cond.fieldLink RX10 15 "TurnKeeper$Tape" "place" "I" ∈ tC := List.mem_of_getElem? (i := 292) (by decide +kernel)
theorem tCf_X10_19 : Cond.fieldLink RX10 19 "TurnKeeper$Tape" "bytes" "[B" ∈ tC := List.mem_of_getElem? (i := 294) (by decide +kernel)
theorem tCf_X10_23 : Cond.fieldLink RX10 23 "TurnKeeper$Tape" "length" "I" ∈ tC := List.mem_of_getElem? (i := 296) (by decide +kernel)
theorem tCf_X10_26 : Cond.fieldLink RX10 26 "TurnKeeper$Tape" "at" "I" ∈ tC := List.mem_of_getElem? (i := 298) (by decide +kernel)
theorem tCf_X10_80 : Cond.fieldLink RX10 80 "TurnKeeper$Word" "text" "Ljava/lang/String;" ∈ tC := List.mem_of_getElem? (i := 354) (by decide +kernel)
theorem tCf_X10_58 : Cond.fieldLink RX10 58 "TurnKeeper$Word" "numbers" "Ljava/lang/String;" ∈ tC := List.mem_of_getElem? (i := 371) (by decide +kernel)
theorem tCf_X10_36 : Cond.fieldLink RX10 36 "TurnKeeper$Tape" "size" "I" ∈ tC := List.mem_of_getElem? (i := 382) (by decide +kernel)
theorem tCf_X12_10 : Cond.fieldLink RX12 10 "TurnKeeper" "tape" "LTurnKeeper$Tape;" ∈ tC := List.mem_of_getElem? (i := 390) (by decide +kernel)
theorem tCf_X12_18 : Cond.fieldLink RX12 18 "TurnKeeper" "syncs" "[LTurnKeeper$Sync;" ∈ tC := List.mem_of_getElem? (i := 392) (by decide +kernel)
theorem tCf_X12_24 : Cond.fieldLink RX12 24 "TurnKeeper" "strands" "[LTurnKeeper$Strand;" ∈ tC := List.mem_of_getElem? (i := 394) (by decide +kernel)
theorem tCf_X12_28 : Cond.fieldLink RX12 28 "TurnKeeper" "latest" "I" ∈ tC := List.mem_of_getElem? (i := 395) (by decide +kernel)
theorem tCf_X12_35 : Cond.fieldLink RX12 35 "TurnKeeper$Tape" "length" "I" ∈ tC := List.mem_of_getElem? (i := 404) (by decide +kernel)
theorem tCf_X12_97 : Cond.fieldLink RX12 97 "TurnKeeper$Tape" "code" "[I" ∈ tC := List.mem_of_getElem? (i := 470) (by decide +kernel)
theorem tCf_X12_101 : Cond.fieldLink RX12 101 "TurnKeeper$Tape" "size" "I" ∈ tC := List.mem_of_getElem? (i := 471) (by decide +kernel)
theorem tCf_X12_129 : Cond.fieldLink RX12 129 "TurnKeeper" "clock" "J" ∈ tC := List.mem_of_getElem? (i := 483) (by decide +kernel)
theorem tCf_X12_133 : Cond.fieldLink RX12 133 "TurnKeeper$Strand" "wakesAt" "J" ∈ tC := List.mem_of_getElem? (i := 484) (by decide +kernel)
theorem tCf_X12_112 : Cond.fieldLink RX12 112 "TurnKeeper$Strand" "state" "I" ∈ tC := List.mem_of_getElem? (i := 485) (by decide +kernel)
theorem tCf_X12_262 : Cond.fieldLink RX12 262 "TurnKeeper$1" "$SwitchMap$TurnKeeper$Word" "[I" ∈ tC := List.mem_of_getElem? (i := 489) (by decide +kernel)
theorem tCf_X12_160 : Cond.fieldLink RX12 160 "TurnKeeper$Strand" "a" "I" ∈ tC := List.mem_of_getElem? (i := 490) (by decide +kernel)
theorem tCf_X12_163 : Cond.fieldLink RX12 163 "TurnKeeper$Strand" "at" "I" ∈ tC := List.mem_of_getElem? (i := 491) (by decide +kernel)
theorem tCf_X12_209 : Cond.fieldLink RX12 209 "TurnKeeper" "steps" "J" ∈ tC := List.mem_of_getElem? (i := 501) (by decide +kernel)
theorem tCf_X12_238 : Cond.fieldLink RX12 238 "TurnKeeper$Strand" "number" "I" ∈ tC := List.mem_of_getElem? (i := 502) (by decide +kernel)
theorem tCf_X12_143 : Cond.fieldLink RX12 143 "TurnKeeper$Strand" "sync" "LTurnKeeper$Sync;" ∈ tC := List.mem_of_getElem? (i := 503) (by decide +kernel)
theorem tCf_X12_246 : Cond.fieldLink RX12 246 "TurnKeeper$Word" "kind" "I" ∈ tC := List.mem_of_getElem? (i := 505) (by decide +kernel)
theorem tCf_X12_203 : Cond.fieldLink RX12 203 "TurnKeeper$Sync" "kind" "I" ∈ tC := List.mem_of_getElem? (i := 506) (by decide +kernel)
theorem tCf_X12_139 : Cond.fieldLink RX12 139 "TurnKeeper$Strand" "interrupted" "Z" ∈ tC := List.mem_of_getElem? (i := 551) (by decide +kernel)
theorem tCf_X12_149 : Cond.fieldLink RX12 149 "TurnKeeper$Strand" "kept" "I" ∈ tC := List.mem_of_getElem? (i := 552) (by decide +kernel)
theorem tCf_X12_166 : Cond.fieldLink RX12 166 "TurnKeeper$Sync" "number" "I" ∈ tC := List.mem_of_getElem? (i := 558) (by decide +kernel)
theorem tCf_X12_169 : Cond.fieldLink RX12 169 "TurnKeeper$Strand" "why" "I" ∈ tC := List.mem_of_getElem? (i := 559) (by decide +kernel)
theorem tCf_X12_280 : Cond.fieldLink RX12 280 "TurnKeeper$Strand" "row" "LTurnKeeper$Row;" ∈ tC := List.mem_of_getElem? (i := 561) (by decide +kernel)
theorem tCf_X12_281 : Cond.fieldLink RX12 281 "TurnKeeper$Lock" "row" "LTurnKeeper$Row;" ∈ tC := List.mem_of_getElem? (i := 562) (by decide +kernel)
theorem tCf_X12_282 : Cond.fieldLink RX12 282 "TurnKeeper$Lock" "owner" "I" ∈ tC := List.mem_of_getElem? (i := 563) (by decide +kernel)
theorem tCf_X12_190 : Cond.fieldLink RX12 190 "TurnKeeper$Sync" "row" "LTurnKeeper$Row;" ∈ tC := List.mem_of_getElem? (i := 568) (by decide +kernel)
theorem tCf_X12_194 : Cond.fieldLink RX12 194 "TurnKeeper$Row" "size" "I" ∈ tC := List.mem_of_getElem? (i := 569) (by decide +kernel)
theorem tCf_X12_206 : Cond.fieldLink RX12 206 "TurnKeeper$Tape" "place" "I" ∈ tC := List.mem_of_getElem? (i := 613) (by decide +kernel)
theorem tCc_X2_66 : Cond.constantLong RX2 66 (1099511627776) ∈ tC := List.mem_of_getElem? (i := 138) (by decide +kernel)
theorem tCc_X9_28 : Cond.constantLong RX9 28 (-1) ∈ tC := List.mem_of_getElem? (i := 288) (by decide +kernel)
theorem tCc_X12_124 : Cond.constant RX12 124 (1103515245) ∈ tC := List.mem_of_getElem? (i := 542) (by decide +kernel)
theorem tCc_X12_201 : Cond.constantLong RX12 201 (-1) ∈ tC := List.mem_of_getElem? (i := 612) (by decide +kernel)
end
section
/-! the class: what each cell is, by its kind; contracts' start, ends and calls -/
abbrev kS : Type := ClassId × ClassId × ClassId × ClassId
abbrev rfs (g : Nat → Option Nat) : (Nat → Int32) ⊕ (Nat → Int64) ⊕ (Nat → UInt32) ⊕ (Nat → UInt64) ⊕ (Nat → Option Nat) := .inr (.inr (.inr (.inr g)))
/-- r is a cell of kind k -/
def ty (τ : Nat → Nat) (L : List Nat) (r k : Nat) : Prop := r ∈ L ∧ τ r = k
/-- r is one of the six OBJECTS -/
def tyS (τ : Nat → Nat) (L : List Nat) (r : Nat) : Prop := r ∈ L ∧ (τ r = 0 ∨ τ r = 1 ∨ τ r = 2 ∨ τ r = 3 ∨ τ r = 4 ∨ τ r = 6)
def tyO (τ : Nat → Nat) (L : List Nat) (r : Option Nat) (k : Nat) : Prop := ∀ y, r = some y → ty τ L y k
def tySO (τ : Nat → Nat) (L : List Nat) (r : Option Nat) : Prop := ∀ y, r = some y → tyS τ L y
def cOk (ks : kS) (τ : Nat → Nat) (L : List Nat) (ψ : Int32) (e : va_E) (k : Nat) : Prop :=
  if k = 0 then ∃ (n k r o d : _), e = .inr (0, [.int n, .int k, .ref r, .int o, .int d]) ∧ ty τ L r 5
  else if k = 1 then ∃ (n k r b h : _), e = .inr (1, [.int n, .int k, .ref r, .int b, .int h]) ∧ ty τ L r 5
  else if k = 2 then ∃ (n k r h : _), e = .inr (2, [.int n, .int k, .ref r, .int h]) ∧ ty τ L r 5
  else if k = 3 then ∃ (n k r o b h q : _), e = .inr (3, [.int n, .int k, .ref r, .int o, .int b, .int h, .ref q]) ∧ ty τ L r 5 ∧ ty τ L q 5
  else if k = 4 then ∃ (n k r q h z : _) (c : Nat), e = .inr (4, [.int n, .int k, .ref r, .ref q, .int h, .int z]) ∧ ty τ L r 5 ∧ ty τ L q (100 + c) ∧ (1 ≤ c ∧ c ≤ 100) ∧ 0 ≤ h ∧ h < nI c
  else if k = 5 then ∃ (n q : _), e = .inr (5, [.int n, .ref q]) ∧ (0 ≤ n ∧ n ≤ 8) ∧ ty τ L q 13
  else if k = 6 then ∃ (n k r p : _), e = .inr (6, [.int n, .int k, .ref r, .int p]) ∧ ty τ L r 5
  else if k = 7 then ∃ (n st x at9 w i wk sy rw kp an cd sz : _), e = .inr (7, [.int n, .int st, .int x, .int at9, .int w, .int i, .long wk, va_rf sy, va_rf rw, .int kp, .int an, .ref cd, .int sz]) ∧ tySO τ L sy ∧ tyO τ L rw 5 ∧ ty τ L cd 12
  else if k = 8 then ∃ (cd sz pl by9 at9 : _), e = .inr (8, [.ref cd, .int sz, .int ψ, .int pl, .ref by9, .int at9]) ∧ ty τ L cd 12 ∧ ty τ L by9 11 ∧ (0 ≤ ψ ∧ ψ ≤ 1600) ∧ 0 ≤ at9 ∧ at9 ≤ 1601
  else if k = 9 then ∃ (tp sy st : _) (ck sp : Int64) (la : Int32), e = .inr (9, [.ref tp, .ref sy, .ref st, .long ck, .long sp, .int la]) ∧ ty τ L tp 8 ∧ ty τ L sy 15 ∧ ty τ L st 14
  else if k = 11 then ∃ g, e = .inl (ks.1, 1600, .inl g)
  else if k = 12 then ∃ g, e = .inl (ks.2.1, 240, .inl g)
  else if k = 13 then ∃ g, e = .inl (ks.2.2.1, 8, rfs g) ∧ ∀ j, tyO τ L (g j) 7
  else if k = 14 then ∃ g, e = .inl (ks.2.2.1, 8, rfs g) ∧ ∀ j, j < 8 → ∃ y, g j = some y ∧ ty τ L y 7
  else if k = 15 then ∃ g, e = .inl (ks.2.2.2, 24, rfs g) ∧ ∀ j, tySO τ L (g j)
  else ∃ g, e = .inl (ks.2.1, k - 100, .inl g) ∧ 101 ≤ k ∧ k ≤ 200
def cI (ks : kS) (τ : Nat → Nat) (L : List Nat) (ψ : Int32) (f : Nat → va_E) : Prop := ∀ a, a ∈ L → cOk ks τ L ψ (f a) (τ a)
theorem cI_up {ks : kS} {τ : Nat → Nat} {L : List Nat} {ψ : Int32} {f f1 : Nat → va_E} {a k : Nat} {e : va_E} (h : cI ks τ L ψ f) (hk : τ a = k) (e1 : f1 = va_up f a e) (he : cOk ks τ L ψ e k) : cI ks τ L ψ f1 := by
  intro b hb
  rw [e1]
  by_cases q : b = a
  · subst q; rw [va_up_self, hk]; exact he
  · rw [va_up_ne _ _ q]; exact h b hb
theorem up_s {f f1 : Nat → va_E} {a : Nat} {e : va_E} (e1 : f1 = va_up f a e) : f1 a = e := by rw [e1, va_up_self]
theorem up_n {τ : Nat → Nat} {f f1 : Nat → va_E} {a b k j : Nat} {e e2 : va_E} (e1 : f1 = va_up f a e) (ha : τ a = k) (hb : τ b = j) (hne : j ≠ k) (h : f b = e2) : f1 b = e2 := by
  rw [e1, va_up_ne _ _ (fun z => hne (by rw [← hb, z, ha]))]; exact h
section OP
variable {ks : kS} {τ : Nat → Nat} {L : List Nat} {ψ : Int32} {f : Nat → va_E} {a : Nat}
theorem op0 (h : cI ks τ L ψ f) (t : ty τ L a 0) : ∃ (n k r o d : _), f a = .inr (0, [.int n, .int k, .ref r, .int o, .int d]) ∧ ty τ L r 5 := by have q := h a t.1; rw [t.2] at q; simpa [cOk] using q
theorem op1 (h : cI ks τ L ψ f) (t : ty τ L a 1) : ∃ (n k r b h : _), f a = .inr (1, [.int n, .int k, .ref r, .int b, .int h]) ∧ ty τ L r 5 := by have q := h a t.1; rw [t.2] at q; simpa [cOk] using q
theorem op2 (h : cI ks τ L ψ f) (t : ty τ L a 2) : ∃ (n k r h : _), f a = .inr (2, [.int n, .int k, .ref r, .int h]) ∧ ty τ L r 5 := by have q := h a t.1; rw [t.2] at q; simpa [cOk] using q
theorem op3 (h : cI ks τ L ψ f) (t : ty τ L a 3) : ∃ (n k r o b h q : _), f a = .inr (3, [.int n, .int k, .ref r, .int o, .int b, .int h, .ref q]) ∧ ty τ L r 5 ∧ ty τ L q 5 := by have q := h a t.1; rw [t.2] at q; simpa [cOk] using q
theorem op4 (h : cI ks τ L ψ f) (t : ty τ L a 4) : ∃ (n k r q h z : _) (c : Nat), f a = .inr (4, [.int n, .int k, .ref r, .ref q, .int h, .int z]) ∧ ty τ L r 5 ∧ ty τ L q (100 + c) ∧ (1 ≤ c ∧ c ≤ 100) ∧ 0 ≤ h ∧ h < nI c := by have q := h a t.1; rw [t.2] at q; simpa [cOk] using q
theorem op5 (h : cI ks τ L ψ f) (t : ty τ L a 5) : ∃ (n q : _), f a = .inr (5, [.int n, .ref q]) ∧ (0 ≤ n ∧ n ≤ 8) ∧ ty τ L q 13 := by have q := h a t.1; rw [t.2] at q; simpa [cOk] using q
theorem op6 (h : cI ks τ L ψ f) (t : ty τ L a 6) : ∃ (n k r p : _), f a = .inr (6, [.int n, .int k, .ref r, .int p]) ∧ ty τ L r 5 := by have q := h a t.1; rw [t.2] at q; simpa [cOk] using q
theorem op7 (h : cI ks τ L ψ f) (t : ty τ L a 7) : ∃ (n st x at9 w i wk sy rw kp an cd sz : _), f a = .inr (7, [.int n, .int st, .int x, .int at9, .int w, .int i, .long wk, va_rf sy, va_rf rw, .int kp, .int an, .ref cd, .int sz]) ∧ tySO τ L sy ∧ tyO τ L rw 5 ∧ ty τ L cd 12 := by have q := h a t.1; rw [t.2] at q; simpa [cOk] using q
theorem op8 (h : cI ks τ L ψ f) (t : ty τ L a 8) : ∃ (cd sz pl by9 at9 : _), f a = .inr (8, [.ref cd, .int sz, .int ψ, .int pl, .ref by9, .int at9]) ∧ ty τ L cd 12 ∧ ty τ L by9 11 ∧ (0 ≤ ψ ∧ ψ ≤ 1600) ∧ 0 ≤ at9 ∧ at9 ≤ 1601 := by have q := h a t.1; rw [t.2] at q; simpa [cOk] using q
theorem op9 (h : cI ks τ L ψ f) (t : ty τ L a 9) : ∃ (tp sy st : _) (ck sp : Int64) (la : Int32), f a = .inr (9, [.ref tp, .ref sy, .ref st, .long ck, .long sp, .int la]) ∧ ty τ L tp 8 ∧ ty τ L sy 15 ∧ ty τ L st 14 := by have q := h a t.1; rw [t.2] at q; simpa [cOk] using q
theorem op11 (h : cI ks τ L ψ f) (t : ty τ L a 11) : ∃ g, f a = .inl (ks.1, 1600, .inl g) := by have q := h a t.1; rw [t.2] at q; simpa [cOk] using q
theorem op12 (h : cI ks τ L ψ f) (t : ty τ L a 12) : ∃ g, f a = .inl (ks.2.1, 240, .inl g) := by have q := h a t.1; rw [t.2] at q; simpa [cOk] using q
theorem op13 (h : cI ks τ L ψ f) (t : ty τ L a 13) : ∃ g, f a = .inl (ks.2.2.1, 8, rfs g) ∧ ∀ j, tyO τ L (g j) 7 := by have q := h a t.1; rw [t.2] at q; simpa [cOk] using q
theorem op14 (h : cI ks τ L ψ f) (t : ty τ L a 14) : ∃ g, f a = .inl (ks.2.2.1, 8, rfs g) ∧ ∀ j, j < 8 → ∃ y, g j = some y ∧ ty τ L y 7 := by have q := h a t.1; rw [t.2] at q; simpa [cOk] using q
theorem op15 (h : cI ks τ L ψ f) (t : ty τ L a 15) : ∃ g, f a = .inl (ks.2.2.2, 24, rfs g) ∧ ∀ j, tySO τ L (g j) := by have q := h a t.1; rw [t.2] at q; simpa [cOk] using q
theorem opN {c : Nat} (h : cI ks τ L ψ f) (t : ty τ L a (100 + c)) (hc : 1 ≤ c ∧ c ≤ 100) : ∃ g, f a = .inl (ks.2.1, c, .inl g) := by
  have q := h a t.1
  rw [t.2] at q
  unfold cOk at q
  rw [if_neg (by omega), if_neg (by omega), if_neg (by omega), if_neg (by omega), if_neg (by omega), if_neg (by omega), if_neg (by omega), if_neg (by omega), if_neg (by omega), if_neg (by omega), if_neg (by omega), if_neg (by omega), if_neg (by omega), if_neg (by omega), if_neg (by omega)] at q
  obtain ⟨g, e, -⟩ := q
  exact ⟨g, by rw [e, show 100 + c - 100 = c by omega]⟩
end OP
/-- what stands outside: kept while nothing of it is written -/
def cNk (A : Nat → Prop) (N : State → Prop) : Prop := ∀ u U : State, u.vm.Alike U.vm → u.heap.size ≤ U.heap.size → (∀ q : Nat, q < u.heap.size → ¬ A q → U.heap[q]? = u.heap[q]?) → N u → N U
def cB (D : va_G) (ks : kS) (τ : Nat → Nat) (L : List Nat) (A : Nat → Prop) (N : State → Prop) (x : Int32 × (Nat → va_E)) (U : State) : Prop := cV D L x.2 A U.heap ∧ cI ks τ L x.1 x.2 ∧ va_K D vwCl (cT ks) U ∧ N U
section CC
variable {p : Program} {l : Launch} {e : Env} {R : Room} {s : State} {m : MethodId} {args : Array Value} {below : List Frame} {meth : Method} {c : Code} {H : Heap} {locs : List Loc} {cells slots : Nat} {Q : State → Prop}
variable {cc : ByteArray} {pc : Nat} {ls : Array Slot} {rest : List Value} {D : va_G} {ks : kS} {τ : Nat → Nat} {L : List Nat} {A : Nat → Prop} {N : State → Prop} {ψ : Int32} {f : Nat → va_E} {H0 : Heap} {own : String} {a : Nat}
variable {y : MethodName} {cy : ByteArray} {n nL idx : Nat} {rm : Room} {As st0 av : List Value}
theorem cblind (hN : cNk A N) : FrameBlind (va_Pc av (cB D ks τ L A N (ψ, f))) := fun a U g mk q => by
  obtain ⟨q0, q1, q2, q3, q4⟩ := q
  exact ⟨q0, q1, q2, va_K.moved (u := U) (U := U.calling g mk a) (Vm.Alike.refl U.vm) q3, hN U (U.calling g mk a) (Vm.Alike.refl U.vm) (Nat.le_refl _) (fun _ _ _ => rfl) q4⟩
theorem cMet {ret : Option FieldType} {Qc : Array Value → State → Outcome → State → Prop} (hy : plainName y.cls = true) (hown : y.cls = own) (hn : (lg_sl av).length ≤ n)
    (body : ∀ (p : Program) (e : Env) (s : State) (m : MethodId) (below : List Frame) (meth : Method) (c : Code) (ls : Array Slot), cC own p s m av.toArray c cy D ks → c.maxLocals = n → meth.sig.returnType = ret → meth.locks = false → cV D L f A s.heap → cI ks τ L ψ f → N s → lv_has ls n (lv_args 0 av) →
      W p l e rm s m av.toArray below meth c s.heap [] 0 0 (MQ below Qc av.toArray s 0 0 A) (F0 m 0 ls [])) :
    Met l y (Cond.code y cy n ret :: tC) rm (va_Pc av (cB D ks τ L A N (ψ, f))) Qc 0 0 A := by
  refine Met.ofW (cc := cy) (maxL := n) (ret := ret) hy rfl ?_
  intro p e s m args below meth c s₁ B hml hv
  obtain ⟨rfl, hV, hI, hK, hNs⟩ := hv
  have hts := atoms_spec (ws := Cond.code y cy n ret :: tC) B.pre
  have hf : s.vm.findClass y.cls = some m.cls := findClass_of_methodNamed B.named
  have hl := lv_entry av (n := n) hn
  rw [lg_entry_eq]
  exact body p e s m below meth c _ ⟨B.exec, B.bytes, hown ▸ hf, fun w h => hts w (List.mem_cons_of_mem _ h), hK⟩ hml B.returns B.notSynchronized hV hI hNs hl
theorem cNt {t : State} (hN : cNk A N) (hNs : N s) (hS : va_S A s.heap H locs) (ht : t.heap = H) (hW : s.vm.Alike t.vm) : N t :=
  hN s t hW (by rw [ht]; exact hS.1) (fun q h1 h2 => by rw [ht]; exact hS.2.1 q h1 h2) hNs
theorem cRetV {post : Int32 × (Nat → va_E) → Prop} (C9 : cC own p s m args c cc D ks) (hr : meth.sig.returnType = none) (hlocks : meth.locks = false) (hN : cNk A N) (hNs : N s) (V : cV D L f A H) (I : cI ks τ L ψ f) (hS : va_S A s.heap H locs) (hp : post (ψ, f)) (hdg : decode cc pc = .ok (.return_, 1)) :
    W p l e R s m args below meth c H locs cells slots (MQ below (va_Qv post (cB D ks τ L A N) A) args s cells slots A) (F0 m pc ls []) := by
  obtain ⟨hx, hb, -, -, hK⟩ := C9
  exact W.vret hx hb hr (fun t ht hW => ⟨⟨(ψ, f), rfl, hp, by rw [ht]; exact V, I, va_K.moved hW.alike hK, cNt hN hNs hS ht hW.alike⟩, hS.F ht⟩) hS.2.2 hdg hlocks
theorem cRetI {post : Int32 → Int32 × (Nat → va_E) → Prop} {v : Int32} (C9 : cC own p s m args c cc D ks) (hr : meth.sig.returnType = some .int) (hlocks : meth.locks = false) (hN : cNk A N) (hNs : N s) (V : cV D L f A H) (I : cI ks τ L ψ f) (hS : va_S A s.heap H locs) (hp : post v (ψ, f)) (hdg : decode cc pc = .ok (.ireturn, 1)) :
    W p l e R s m args below meth c H locs cells slots (MQ below (va_Qi post (cB D ks τ L A N) A) args s cells slots A) (F0 m pc ls [.int v]) := by
  obtain ⟨hx, hb, -, -, hK⟩ := C9
  exact W.iret hx hb hr (fun t ht hW => ⟨⟨v, (ψ, f), rfl, hp, by rw [ht]; exact V, I, va_K.moved hW.alike hK, cNt hN hNs hS ht hW.alike⟩, hS.F ht⟩) hS.2.2 hdg hlocks
theorem cRetZ {post : Int32 → Int32 × (Nat → va_E) → Prop} {v : Int32} (C9 : cC own p s m args c cc D ks) (hr : meth.sig.returnType = some .boolean) (hlocks : meth.locks = false) (hN : cNk A N) (hNs : N s) (V : cV D L f A H) (I : cI ks τ L ψ f) (hS : va_S A s.heap H locs) (hv : narrow .boolean (.int v) = .int v) (hp : post v (ψ, f)) (hdg : decode cc pc = .ok (.ireturn, 1)) :
    W p l e R s m args below meth c H locs cells slots (MQ below (va_Qi post (cB D ks τ L A N) A) args s cells slots A) (F0 m pc ls [.int v]) := by
  obtain ⟨hx, hb, -, -, hK⟩ := C9
  exact W.zret hx hb hr hv (fun t ht hW => ⟨⟨v, (ψ, f), rfl, hp, by rw [ht]; exact V, I, va_K.moved hW.alike hK, cNt hN hNs hS ht hW.alike⟩, hS.F ht⟩) hS.2.2 hdg hlocks
theorem cRetL {post : Int64 → Int32 × (Nat → va_E) → Prop} {v : Int64} (C9 : cC own p s m args c cc D ks) (hr : meth.sig.returnType = some .long) (hlocks : meth.locks = false) (hN : cNk A N) (hNs : N s) (V : cV D L f A H) (I : cI ks τ L ψ f) (hS : va_S A s.heap H locs) (hp : post v (ψ, f)) (hdg : decode cc pc = .ok (.lreturn, 1)) :
    W p l e R s m args below meth c H locs cells slots (MQ below (va_Ql post (cB D ks τ L A N) A) args s cells slots A) (F0 m pc ls [.long v]) := by
  obtain ⟨hx, hb, -, -, hK⟩ := C9
  exact W.lret hx hb hr (fun t ht hW => ⟨⟨v, (ψ, f), rfl, hp, by rw [ht]; exact V, I, va_K.moved hW.alike hK, cNt hN hNs hS ht hW.alike⟩, hS.F ht⟩) hS.2.2 hdg hlocks
theorem cRetR {post : Option Nat → Int32 × (Nat → va_E) → Prop} {v : Option Nat} {C : String} (C9 : cC own p s m args c cc D ks) (hr : meth.sig.returnType = some (.object C)) (hlocks : meth.locks = false) (hN : cNk A N) (hNs : N s) (V : cV D L f A H) (I : cI ks τ L ψ f) (hS : va_S A s.heap H locs) (hp : post v (ψ, f)) (hdg : decode cc pc = .ok (.areturn, 1)) :
    W p l e R s m args below meth c H locs cells slots (MQ below (va_Qq post (cB D ks τ L A N) A) args s cells slots A) (F0 m pc ls [va_rf v]) := by
  obtain ⟨hx, hb, -, -, hK⟩ := C9
  exact W.aret hx hb hr (Or.inl ⟨_, rfl⟩) (by cases v <;> simp [va_rf]) (fun t ht hW => ⟨⟨v, (ψ, f), rfl, hp, by rw [ht]; exact V, I, va_K.moved hW.alike hK, cNt hN hNs hS ht hW.alike⟩, hS.F ht⟩) hS.2.2 hdg hlocks
end CC
-- cells as they must be
section MK
variable {ks : kS} {τ : Nat → Nat} {L : List Nat} {ψ : Int32}
theorem mk0 {n k o d : Int32} {r : Nat} (h1 : ty τ L r 5) : cOk ks τ L ψ (.inr (0, [.int n, .int k, .ref r, .int o, .int d])) 0 := by simp [cOk, h1]
theorem mk1 {n k b h : Int32} {r : Nat} (h1 : ty τ L r 5) : cOk ks τ L ψ (.inr (1, [.int n, .int k, .ref r, .int b, .int h])) 1 := by simp [cOk, h1]
theorem mk2 {n k h : Int32} {r : Nat} (h1 : ty τ L r 5) : cOk ks τ L ψ (.inr (2, [.int n, .int k, .ref r, .int h])) 2 := by simp [cOk, h1]
theorem mk3 {n k o b h : Int32} {r q : Nat} (h1 : ty τ L r 5) (h2 : ty τ L q 5) : cOk ks τ L ψ (.inr (3, [.int n, .int k, .ref r, .int o, .int b, .int h, .ref q])) 3 := by
  show ∃ _, _
  exact ⟨n, k, r, o, b, h, q, rfl, h1, h2⟩
theorem mk4 {n k h z : Int32} {r q c : Nat} (h1 : ty τ L r 5) (h2 : ty τ L q (100 + c)) (h3 : 1 ≤ c ∧ c ≤ 100) (h4 : 0 ≤ h) (h5 : h < nI c) : cOk ks τ L ψ (.inr (4, [.int n, .int k, .ref r, .ref q, .int h, .int z])) 4 := by
  show ∃ _, _
  exact ⟨n, k, r, q, h, z, c, rfl, h1, h2, h3, h4, h5⟩
theorem mk5 {n : Int32} {q : Nat} (h1 : 0 ≤ n ∧ n ≤ 8) (h2 : ty τ L q 13) : cOk ks τ L ψ (.inr (5, [.int n, .ref q])) 5 := by simp [cOk, h1, h2]
theorem mk6 {n k p : Int32} {r : Nat} (h1 : ty τ L r 5) : cOk ks τ L ψ (.inr (6, [.int n, .int k, .ref r, .int p])) 6 := by simp [cOk, h1]
theorem mk7 {n st x at9 w i kp an sz : Int32} {wk : Int64} {sy rw : Option Nat} {cd : Nat} (h1 : tySO τ L sy) (h2 : tyO τ L rw 5) (h3 : ty τ L cd 12) : cOk ks τ L ψ (.inr (7, [.int n, .int st, .int x, .int at9, .int w, .int i, .long wk, va_rf sy, va_rf rw, .int kp, .int an, .ref cd, .int sz])) 7 := by
  show ∃ _, _
  exact ⟨n, st, x, at9, w, i, wk, sy, rw, kp, an, cd, sz, rfl, h1, h2, h3⟩
theorem mk12 {g : Nat → Int32} : cOk ks τ L ψ (.inl (ks.2.1, 240, .inl g)) 12 := by simp [cOk]
theorem mk13 {g : Nat → Option Nat} (h : ∀ j, tyO τ L (g j) 7) : cOk ks τ L ψ (.inl (ks.2.2.1, 8, rfs g)) 13 := by
  show ∃ _, _
  exact ⟨g, rfl, h⟩
theorem tyO_n {k : Nat} : tyO τ L none k := fun _ h => by cases h
theorem tyO_s {y k : Nat} (h : ty τ L y k) : tyO τ L (some y) k := fun _ q => by cases q; exact h
theorem tySO_n : tySO τ L none := fun _ h => by cases h
theorem tySO_s {y : Nat} (h : tyS τ L y) : tySO τ L (some y) := fun _ q => by cases q; exact h
theorem tyO_up {g : Nat → Option Nat} {i k : Nat} {v : Option Nat} (h : ∀ j, tyO τ L (g j) k) (hv : tyO τ L v k) : ∀ j, tyO τ L (va_up g i v j) k := by
  intro j
  by_cases q : j = i
  · subst q; rw [va_up_self]; exact hv
  · rw [va_up_ne _ _ q]; exact h j
end MK
theorem tyS_of {τ : Nat → Nat} {L : List Nat} {y k : Nat} (h : ty τ L y k) (hk : k = 0 ∨ k = 1 ∨ k = 2 ∨ k = 3 ∨ k = 4 ∨ k = 6) : tyS τ L y := ⟨h.1, by rw [h.2]; exact hk⟩
theorem mkN {ks : kS} {τ : Nat → Nat} {L : List Nat} {ψ : Int32} {c : Nat} {g : Nat → Int32} (hc : 1 ≤ c ∧ c ≤ 100) : cOk ks τ L ψ (.inl (ks.2.1, c, .inl g)) (100 + c) := by
  unfold cOk
  rw [if_neg (by omega), if_neg (by omega), if_neg (by omega), if_neg (by omega), if_neg (by omega), if_neg (by omega), if_neg (by omega), if_neg (by omega), if_neg (by omega), if_neg (by omega), if_neg (by omega), if_neg (by omega), if_neg (by omega), if_neg (by omega), if_neg (by omega)]
  exact ⟨g, by rw [show 100 + c - 100 = c by omega], by omega, by omega⟩
theorem mk11 {ks : kS} {τ : Nat → Nat} {L : List Nat} {ψ : Int32} {g : Nat → Int32} : cOk ks τ L ψ (.inl (ks.1, 1600, .inl g)) 11 := by simp [cOk]
theorem cq_in {i : Int32} {c : Nat} (hc : 1 ≤ c ∧ c ≤ 100) (h0 : 0 ≤ i) (h1 : i < nI c) : vp_in i c := by
  rw [vp_in_iff]
  have a : (0 : Int) ≤ i.toInt := Int32.le_iff_toInt_le.mp h0
  have b := Int32.lt_iff_toInt_lt.mp h1
  rw [nI_toInt (by omega)] at b
  exact ⟨a, b⟩
theorem cq_n {c : Nat} (hc : 1 ≤ c ∧ c ≤ 100) : 1 ≤ nI c ∧ nI c ≤ 100 := by
  have a := nI_le (a := 1) hc.1 (by omega)
  have b := nI_le (b := 100) hc.2 (by decide)
  exact ⟨a, b⟩
theorem cq_h {h x : Int32} {c : Nat} (e : x = h + 1) (h0 : 0 ≤ h) (h1 : h < nI c) (hc : 1 ≤ c ∧ c ≤ 100) (hl : ¬ nI c ≤ h + 1) : 0 ≤ x ∧ x < nI c := by
  have q := cq_n hc
  generalize nI c = N at *
  subst e; clear hc; grind
theorem cq_0 {c : Nat} (hc : 1 ≤ c ∧ c ≤ 100) : (0 : Int32) ≤ 0 ∧ (0 : Int32) < nI c := by
  have q := cq_n hc
  generalize nI c = N at *
  clear hc; grind
end
section
/-! the class: calls -/
theorem gC_v {own C : String} {idx : Nat} {y : MethodName} {cy : Cond} (h1 : Cond.methodLink own idx y ∈ tC) (h2 : Cond.instanceMethod y ∈ tC) (h3 : Cond.selects C y y ∈ tC) (h4 : Cond.initialized C ∈ tC) (h5 : cy ∈ tC) : GoodIn tC (wsV own idx C y (cy :: tC)) := by
  intro w hw
  rcases List.mem_append.mp hw with h | h
  · simp only [List.mem_cons, List.not_mem_nil, or_false] at h
    rcases h with rfl | rfl | rfl | rfl
    · exact tC_self _ h1
    · exact tC_self _ h2
    · exact tC_self _ h3
    · exact tC_self _ h4
  · rcases List.mem_cons.mp h with rfl | h
    · exact tC_self _ h5
    · exact tC_self _ h
section CR
variable {p : Program} {l : Launch} {e : Env} {R : Room} {s : State} {m : MethodId} {args : Array Value} {below : List Frame} {meth : Method} {c : Code} {H : Heap} {locs : List Loc} {cells slots : Nat} {Q : State → Prop}
variable {cc : ByteArray} {pc : Nat} {ls : Array Slot} {rest : List Value} {D : va_G} {ks : kS} {τ : Nat → Nat} {L : List Nat} {A : Nat → Prop} {N : State → Prop} {ψ : Int32} {f : Nat → va_E} {H0 : Heap} {own : String} {a : Nat}
variable {y : MethodName} {cy : ByteArray} {n nL idx : Nat} {rm : Room} {As st0 av : List Value}
def cOkY (y : MethodName) (C : String) (k : Nat) : Prop := y.cls = C ∧ y.cls ≠ "java/lang/invoke/MethodHandle" ∧ y.cls ≠ "java/lang/invoke/VarHandle" ∧ (parseMethodDescriptor y.desc).map (fun d => d.parameters.length) = some k
theorem cRunV {ret : Option FieldType} {Qc : Array Value → State → Outcome → State → Prop} {ci : Nat} {fs : List Value} {C : String} {T : u_T} {K : Nat} (C9 : cC own p s m args c cc D ks) (hml : c.maxLocals = nL) (hN : cNk A N) (hNs : N s) (V : cV D L f A H) (I : cI ks τ L ψ f) (hS : va_S A s.heap H locs) (ha : a ∈ L) (hf : f a = .inr (ci, fs)) (hc : vwCl[ci]? = some (C, T, K))
    (hM : Met l y (Cond.code y cy n ret :: tC) rm (va_Pc (.ref a :: As) (cB D ks τ L A N (ψ, f))) Qc 0 0 A) (hg : GoodIn tC (wsV own idx C y (Cond.code y cy n ret :: tC))) (hk : cOkY y C As.length)
    (hR : rm.cells = 0 ∧ rm.slots = 0 ∧ rm.frames + 1 ≤ R.frames ∧ 8 + (n + 11) + rm.locals ≤ R.locals) (hsz : ls.size = nL) (hst : st0 = As.reverse ++ .ref a :: rest) (hro : (rest.map fun v => v.category).sum ≤ 8)
    (hdg : decode cc pc = .ok (.invokevirtual idx, 3)) (hcs : cells ≤ R.cells ∧ slots ≤ R.slots) :
    va_Run p l e R s m args below meth c H locs cells slots 0 0 (F0 m pc ls st0) rest (Qc (Value.ref a :: As).toArray) A := by
  obtain ⟨hx, hb, hown, hts, hK⟩ := C9
  obtain ⟨q0, hq⟩ := va_pl0 (f := f) ha
  rw [hf] at hq
  exact va_runV (As := As) (rest := rest) ⟨hx, hb, hml, hown, hts⟩ hM (cwV As.length hts hg rfl hR.1 hR.2.1 hk hR.2.2) ⟨cblind hN, va_recv hK V.1 hc hq, fun U hU hW => ⟨rfl, by rw [hU]; exact V, I, va_K.moved hW.alike hK, cNt hN hNs hS hU hW.alike⟩⟩ rfl rfl hsz hst (lv_room hro) hdg hcs
theorem cGoV {post : Int32 × (Nat → va_E) → Prop} {a : Array Value} (hr : va_Run p l e R s m args below meth c H locs cells slots 0 0 (F0 m pc ls st0) rest (va_Qv post (cB D ks τ L A N) A a) A) (hS : va_S A H0 H locs)
    (kk : ∀ (ψ1 : Int32) (f1 : Nat → va_E) (H1 : Heap) (locs1 : List Loc), post (ψ1, f1) → cV D L f1 A H1 → cI ks τ L ψ1 f1 → va_S A H0 H1 locs1 → W p l e R s m args below meth c H1 locs1 cells slots Q (F0 m (pc + 3) ls rest)) : W p l e R s m args below meth c H locs cells slots Q (F0 m pc ls st0) :=
  va_callv hr hS (fun _ _ h => h) (fun _ h => h) (fun u t H1 locs1 ht hvm hw hB hz hk hS1 => kk u.1 u.2 H1 locs1 hw (by rw [← ht]; exact hB.1) hB.2.1 hS1)
theorem cGoI {post : Int32 → Int32 × (Nat → va_E) → Prop} {a : Array Value} (hr : va_Run p l e R s m args below meth c H locs cells slots 0 0 (F0 m pc ls st0) rest (va_Qi post (cB D ks τ L A N) A a) A) (hS : va_S A H0 H locs)
    (kk : ∀ (r : Int32) (ψ1 : Int32) (f1 : Nat → va_E) (H1 : Heap) (locs1 : List Loc), post r (ψ1, f1) → cV D L f1 A H1 → cI ks τ L ψ1 f1 → va_S A H0 H1 locs1 → W p l e R s m args below meth c H1 locs1 cells slots Q (F0 m (pc + 3) ls (.int r :: rest))) : W p l e R s m args below meth c H locs cells slots Q (F0 m pc ls st0) :=
  va_calli hr hS (fun _ _ h => h) (fun _ h => h) (fun r u t H1 locs1 ht hvm hw hB hz hk hS1 => kk r u.1 u.2 H1 locs1 hw (by rw [← ht]; exact hB.1) hB.2.1 hS1)
theorem cGoL {post : Int64 → Int32 × (Nat → va_E) → Prop} {a : Array Value} (hr : va_Run p l e R s m args below meth c H locs cells slots 0 0 (F0 m pc ls st0) rest (va_Ql post (cB D ks τ L A N) A a) A) (hS : va_S A H0 H locs)
    (kk : ∀ (r : Int64) (ψ1 : Int32) (f1 : Nat → va_E) (H1 : Heap) (locs1 : List Loc), post r (ψ1, f1) → cV D L f1 A H1 → cI ks τ L ψ1 f1 → va_S A H0 H1 locs1 → W p l e R s m args below meth c H1 locs1 cells slots Q (F0 m (pc + 3) ls (.long r :: rest))) : W p l e R s m args below meth c H locs cells slots Q (F0 m pc ls st0) :=
  va_calll hr hS (fun _ _ h => h) (fun _ h => h) (fun r u t H1 locs1 ht hvm hw hB hz hk hS1 => kk r u.1 u.2 H1 locs1 hw (by rw [← ht]; exact hB.1) hB.2.1 hS1)
theorem cGoQ {post : Option Nat → Int32 × (Nat → va_E) → Prop} {a : Array Value} (hr : va_Run p l e R s m args below meth c H locs cells slots 0 0 (F0 m pc ls st0) rest (va_Qq post (cB D ks τ L A N) A a) A) (hS : va_S A H0 H locs)
    (kk : ∀ (r : Option Nat) (ψ1 : Int32) (f1 : Nat → va_E) (H1 : Heap) (locs1 : List Loc), post r (ψ1, f1) → cV D L f1 A H1 → cI ks τ L ψ1 f1 → va_S A H0 H1 locs1 → W p l e R s m args below meth c H1 locs1 cells slots Q (F0 m (pc + 3) ls (va_rf r :: rest))) : W p l e R s m args below meth c H locs cells slots Q (F0 m pc ls st0) :=
  va_callq hr hS (fun _ _ h => h) (fun _ h => h) (fun r u t H1 locs1 ht hvm hw hB hz hk hS1 => kk r u.1 u.2 H1 locs1 hw (by rw [← ht]; exact hB.1) hB.2.1 hS1)
end CR
theorem gC_X8_56 : GoodIn tC (wsV RX8 56 RX6 yX6_remove (.code yX6_remove cX6_remove 4 none :: tC)) := gC_v (List.mem_of_getElem? (i := 31) (by decide +kernel)) (List.mem_of_getElem? (i := 32) (by decide +kernel)) (List.mem_of_getElem? (i := 33) (by decide +kernel)) (List.mem_of_getElem? (i := 10) (by decide +kernel)) (List.mem_of_getElem? (i := 22) (by decide +kernel))
theorem okC_X6_remove : cOkY yX6_remove RX6 1 := by unfold cOkY; decide +kernel
theorem gC_X8_66 : GoodIn tC (wsV RX8 66 RX8 yX8_goTo (.code yX8_goTo cX8_goTo 2 none :: tC)) := gC_v (List.mem_of_getElem? (i := 34) (by decide +kernel)) (List.mem_of_getElem? (i := 35) (by decide +kernel)) (List.mem_of_getElem? (i := 36) (by decide +kernel)) (List.mem_of_getElem? (i := 37) (by decide +kernel)) (List.mem_of_getElem? (i := 24) (by decide +kernel))
theorem okC_X8_goTo : cOkY yX8_goTo RX8 1 := by unfold cOkY; decide +kernel
theorem gC_X8_70 : GoodIn tC (wsV RX8 70 RX8 yX8_goOn (.code yX8_goOn cX8_goOn 1 none :: tC)) := gC_v (List.mem_of_getElem? (i := 41) (by decide +kernel)) (List.mem_of_getElem? (i := 42) (by decide +kernel)) (List.mem_of_getElem? (i := 43) (by decide +kernel)) (List.mem_of_getElem? (i := 37) (by decide +kernel)) (List.mem_of_getElem? (i := 28) (by decide +kernel))
theorem okC_X8_goOn : cOkY yX8_goOn RX8 0 := by unfold cOkY; decide +kernel
theorem gC_X8_73 : GoodIn tC (wsV RX8 73 RX6 yX6_add (.code yX6_add cX6_add 2 none :: tC)) := gC_v (List.mem_of_getElem? (i := 46) (by decide +kernel)) (List.mem_of_getElem? (i := 47) (by decide +kernel)) (List.mem_of_getElem? (i := 48) (by decide +kernel)) (List.mem_of_getElem? (i := 10) (by decide +kernel)) (List.mem_of_getElem? (i := 44) (by decide +kernel))
theorem okC_X6_add : cOkY yX6_add RX6 1 := by unfold cOkY; decide +kernel
theorem gC_X9_30 : GoodIn tC (wsV RX9 30 RX8 yX8_refusesToWait (.code yX8_refusesToWait cX8_refusesToWait 1 (some .boolean) :: tC)) := gC_v (List.mem_of_getElem? (i := 49) (by decide +kernel)) (List.mem_of_getElem? (i := 50) (by decide +kernel)) (List.mem_of_getElem? (i := 51) (by decide +kernel)) (List.mem_of_getElem? (i := 37) (by decide +kernel)) (List.mem_of_getElem? (i := 38) (by decide +kernel))
theorem okC_X8_refusesToWait : cOkY yX8_refusesToWait RX8 0 := by unfold cOkY; decide +kernel
theorem gC_X9_36 : GoodIn tC (wsV RX9 36 RX8 yX8_standIn (.code yX8_standIn cX8_standIn 3 none :: tC)) := gC_v (List.mem_of_getElem? (i := 52) (by decide +kernel)) (List.mem_of_getElem? (i := 53) (by decide +kernel)) (List.mem_of_getElem? (i := 54) (by decide +kernel)) (List.mem_of_getElem? (i := 37) (by decide +kernel)) (List.mem_of_getElem? (i := 45) (by decide +kernel))
theorem okC_X8_standIn : cOkY yX8_standIn RX8 2 := by unfold cOkY; decide +kernel
theorem gC_X8_38 : GoodIn tC (wsV RX8 38 RX8 yX8_codeAt (.code yX8_codeAt cX8_codeAt 3 (some .int) :: tC)) := gC_v (List.mem_of_getElem? (i := 63) (by decide +kernel)) (List.mem_of_getElem? (i := 64) (by decide +kernel)) (List.mem_of_getElem? (i := 65) (by decide +kernel)) (List.mem_of_getElem? (i := 37) (by decide +kernel)) (List.mem_of_getElem? (i := 59) (by decide +kernel))
theorem okC_X8_codeAt : cOkY yX8_codeAt RX8 1 := by unfold cOkY; decide +kernel
theorem gC_X1_65 : GoodIn tC (wsV RX1 65 RX6 yX6_first (.code yX6_first cX6_first 1 (some (.object "TurnKeeper$Strand")) :: tC)) := gC_v (List.mem_of_getElem? (i := 71) (by decide +kernel)) (List.mem_of_getElem? (i := 72) (by decide +kernel)) (List.mem_of_getElem? (i := 73) (by decide +kernel)) (List.mem_of_getElem? (i := 10) (by decide +kernel)) (List.mem_of_getElem? (i := 58) (by decide +kernel))
theorem okC_X6_first : cOkY yX6_first RX6 0 := by unfold cOkY; decide +kernel
theorem gC_X1_69 : GoodIn tC (wsV RX1 69 RX8 yX8_word (.code yX8_word cX8_word 2 (some (.object "TurnKeeper$Word")) :: tC)) := gC_v (List.mem_of_getElem? (i := 74) (by decide +kernel)) (List.mem_of_getElem? (i := 75) (by decide +kernel)) (List.mem_of_getElem? (i := 76) (by decide +kernel)) (List.mem_of_getElem? (i := 37) (by decide +kernel)) (List.mem_of_getElem? (i := 61) (by decide +kernel))
theorem okC_X8_word : cOkY yX8_word RX8 0 := by unfold cOkY; decide +kernel
theorem gC_X1_39 : GoodIn tC (wsV RX1 39 RX8 yX8_goOn (.code yX8_goOn cX8_goOn 1 none :: tC)) := gC_v (List.mem_of_getElem? (i := 77) (by decide +kernel)) (List.mem_of_getElem? (i := 42) (by decide +kernel)) (List.mem_of_getElem? (i := 43) (by decide +kernel)) (List.mem_of_getElem? (i := 37) (by decide +kernel)) (List.mem_of_getElem? (i := 28) (by decide +kernel))
theorem gC_X1_58 : GoodIn tC (wsV RX1 58 RX8 yX8_fail (.code yX8_fail cX8_fail 2 none :: tC)) := gC_v (List.mem_of_getElem? (i := 79) (by decide +kernel)) (List.mem_of_getElem? (i := 80) (by decide +kernel)) (List.mem_of_getElem? (i := 81) (by decide +kernel)) (List.mem_of_getElem? (i := 37) (by decide +kernel)) (List.mem_of_getElem? (i := 56) (by decide +kernel))
theorem okC_X8_fail : cOkY yX8_fail RX8 1 := by unfold cOkY; decide +kernel
theorem gC_X1_62 : GoodIn tC (wsV RX1 62 RX1 yX1_rowGoesOn (.code yX1_rowGoesOn cX1_rowGoesOn 3 none :: tC)) := gC_v (List.mem_of_getElem? (i := 82) (by decide +kernel)) (List.mem_of_getElem? (i := 83) (by decide +kernel)) (List.mem_of_getElem? (i := 84) (by decide +kernel)) (List.mem_of_getElem? (i := 85) (by decide +kernel)) (List.mem_of_getElem? (i := 78) (by decide +kernel))
theorem okC_X1_rowGoesOn : cOkY yX1_rowGoesOn RX1 0 := by unfold cOkY; decide +kernel
theorem gC_X1_49 : GoodIn tC (wsV RX1 49 RX1 yX1_leave (.code yX1_leave cX1_leave 2 none :: tC)) := gC_v (List.mem_of_getElem? (i := 99) (by decide +kernel)) (List.mem_of_getElem? (i := 100) (by decide +kernel)) (List.mem_of_getElem? (i := 101) (by decide +kernel)) (List.mem_of_getElem? (i := 85) (by decide +kernel)) (List.mem_of_getElem? (i := 86) (by decide +kernel))
theorem okC_X1_leave : cOkY yX1_leave RX1 1 := by unfold cOkY; decide +kernel
theorem gC_X1_55 : GoodIn tC (wsV RX1 55 RX1 yX1_giveBack (.code yX1_giveBack cX1_giveBack 2 none :: tC)) := gC_v (List.mem_of_getElem? (i := 102) (by decide +kernel)) (List.mem_of_getElem? (i := 103) (by decide +kernel)) (List.mem_of_getElem? (i := 104) (by decide +kernel)) (List.mem_of_getElem? (i := 85) (by decide +kernel)) (List.mem_of_getElem? (i := 87) (by decide +kernel))
theorem okC_X1_giveBack : cOkY yX1_giveBack RX1 1 := by unfold cOkY; decide +kernel
theorem gC_X2_60 : GoodIn tC (wsV RX2 60 RX6 yX6_first (.code yX6_first cX6_first 1 (some (.object "TurnKeeper$Strand")) :: tC)) := gC_v (List.mem_of_getElem? (i := 117) (by decide +kernel)) (List.mem_of_getElem? (i := 72) (by decide +kernel)) (List.mem_of_getElem? (i := 73) (by decide +kernel)) (List.mem_of_getElem? (i := 10) (by decide +kernel)) (List.mem_of_getElem? (i := 58) (by decide +kernel))
theorem gC_X2_31 : GoodIn tC (wsV RX2 31 RX8 yX8_goOnWith (.code yX8_goOnWith cX8_goOnWith 2 none :: tC)) := gC_v (List.mem_of_getElem? (i := 118) (by decide +kernel)) (List.mem_of_getElem? (i := 119) (by decide +kernel)) (List.mem_of_getElem? (i := 120) (by decide +kernel)) (List.mem_of_getElem? (i := 37) (by decide +kernel)) (List.mem_of_getElem? (i := 113) (by decide +kernel))
theorem okC_X8_goOnWith : cOkY yX8_goOnWith RX8 1 := by unfold cOkY; decide +kernel
theorem gC_X2_40 : GoodIn tC (wsV RX2 40 RX8 yX8_goOn (.code yX8_goOn cX8_goOn 1 none :: tC)) := gC_v (List.mem_of_getElem? (i := 125) (by decide +kernel)) (List.mem_of_getElem? (i := 42) (by decide +kernel)) (List.mem_of_getElem? (i := 43) (by decide +kernel)) (List.mem_of_getElem? (i := 37) (by decide +kernel)) (List.mem_of_getElem? (i := 28) (by decide +kernel))
theorem gC_X2_44 : GoodIn tC (wsV RX2 44 RX8 yX8_operand (.code yX8_operand cX8_operand 2 (some .int) :: tC)) := gC_v (List.mem_of_getElem? (i := 126) (by decide +kernel)) (List.mem_of_getElem? (i := 127) (by decide +kernel)) (List.mem_of_getElem? (i := 128) (by decide +kernel)) (List.mem_of_getElem? (i := 37) (by decide +kernel)) (List.mem_of_getElem? (i := 114) (by decide +kernel))
theorem okC_X8_operand : cOkY yX8_operand RX8 1 := by unfold cOkY; decide +kernel
theorem gC_X2_48 : GoodIn tC (wsV RX2 48 RX2 yX2_isGiven (.code yX2_isGiven cX2_isGiven 4 (some .boolean) :: tC)) := gC_v (List.mem_of_getElem? (i := 129) (by decide +kernel)) (List.mem_of_getElem? (i := 130) (by decide +kernel)) (List.mem_of_getElem? (i := 131) (by decide +kernel)) (List.mem_of_getElem? (i := 132) (by decide +kernel)) (List.mem_of_getElem? (i := 121) (by decide +kernel))
theorem okC_X2_isGiven : cOkY yX2_isGiven RX2 1 := by unfold cOkY; decide +kernel
theorem gC_X9_40 : GoodIn tC (wsV RX9 40 RX6 yX6_first (.code yX6_first cX6_first 1 (some (.object "TurnKeeper$Strand")) :: tC)) := gC_v (List.mem_of_getElem? (i := 142) (by decide +kernel)) (List.mem_of_getElem? (i := 72) (by decide +kernel)) (List.mem_of_getElem? (i := 73) (by decide +kernel)) (List.mem_of_getElem? (i := 10) (by decide +kernel)) (List.mem_of_getElem? (i := 58) (by decide +kernel))
theorem gC_X9_44 : GoodIn tC (wsV RX9 44 RX8 yX8_goOn (.code yX8_goOn cX8_goOn 1 none :: tC)) := gC_v (List.mem_of_getElem? (i := 143) (by decide +kernel)) (List.mem_of_getElem? (i := 42) (by decide +kernel)) (List.mem_of_getElem? (i := 43) (by decide +kernel)) (List.mem_of_getElem? (i := 37) (by decide +kernel)) (List.mem_of_getElem? (i := 28) (by decide +kernel))
theorem gC_X3_27 : GoodIn tC (wsV RX3 27 RX8 yX8_goOn (.code yX8_goOn cX8_goOn 1 none :: tC)) := gC_v (List.mem_of_getElem? (i := 151) (by decide +kernel)) (List.mem_of_getElem? (i := 42) (by decide +kernel)) (List.mem_of_getElem? (i := 43) (by decide +kernel)) (List.mem_of_getElem? (i := 37) (by decide +kernel)) (List.mem_of_getElem? (i := 28) (by decide +kernel))
theorem gC_X4_41 : GoodIn tC (wsV RX4 41 RX4 yX4_isGrabbed (.code yX4_isGrabbed cX4_isGrabbed 2 (some .boolean) :: tC)) := gC_v (List.mem_of_getElem? (i := 174) (by decide +kernel)) (List.mem_of_getElem? (i := 175) (by decide +kernel)) (List.mem_of_getElem? (i := 176) (by decide +kernel)) (List.mem_of_getElem? (i := 177) (by decide +kernel)) (List.mem_of_getElem? (i := 169) (by decide +kernel))
theorem okC_X4_isGrabbed : cOkY yX4_isGrabbed RX4 1 := by unfold cOkY; decide +kernel
theorem gC_X4_60 : GoodIn tC (wsV RX4 60 RX8 yX8_goOn (.code yX8_goOn cX8_goOn 1 none :: tC)) := gC_v (List.mem_of_getElem? (i := 178) (by decide +kernel)) (List.mem_of_getElem? (i := 42) (by decide +kernel)) (List.mem_of_getElem? (i := 43) (by decide +kernel)) (List.mem_of_getElem? (i := 37) (by decide +kernel)) (List.mem_of_getElem? (i := 28) (by decide +kernel))
theorem gC_X4_88 : GoodIn tC (wsV RX4 88 RX8 yX8_standIn (.code yX8_standIn cX8_standIn 3 none :: tC)) := gC_v (List.mem_of_getElem? (i := 179) (by decide +kernel)) (List.mem_of_getElem? (i := 53) (by decide +kernel)) (List.mem_of_getElem? (i := 54) (by decide +kernel)) (List.mem_of_getElem? (i := 37) (by decide +kernel)) (List.mem_of_getElem? (i := 45) (by decide +kernel))
theorem gC_X4_95 : GoodIn tC (wsV RX4 95 RX6 yX6_first (.code yX6_first cX6_first 1 (some (.object "TurnKeeper$Strand")) :: tC)) := gC_v (List.mem_of_getElem? (i := 186) (by decide +kernel)) (List.mem_of_getElem? (i := 72) (by decide +kernel)) (List.mem_of_getElem? (i := 73) (by decide +kernel)) (List.mem_of_getElem? (i := 10) (by decide +kernel)) (List.mem_of_getElem? (i := 58) (by decide +kernel))
theorem gC_X4_99 : GoodIn tC (wsV RX4 99 RX4 yX4_have (.code yX4_have cX4_have 2 none :: tC)) := gC_v (List.mem_of_getElem? (i := 187) (by decide +kernel)) (List.mem_of_getElem? (i := 188) (by decide +kernel)) (List.mem_of_getElem? (i := 189) (by decide +kernel)) (List.mem_of_getElem? (i := 177) (by decide +kernel)) (List.mem_of_getElem? (i := 184) (by decide +kernel))
theorem okC_X4_have : cOkY yX4_have RX4 1 := by unfold cOkY; decide +kernel
theorem gC_X4_115 : GoodIn tC (wsV RX4 115 RX6 yX6_remove (.code yX6_remove cX6_remove 4 none :: tC)) := gC_v (List.mem_of_getElem? (i := 192) (by decide +kernel)) (List.mem_of_getElem? (i := 32) (by decide +kernel)) (List.mem_of_getElem? (i := 33) (by decide +kernel)) (List.mem_of_getElem? (i := 10) (by decide +kernel)) (List.mem_of_getElem? (i := 22) (by decide +kernel))
theorem gC_X4_111 : GoodIn tC (wsV RX4 111 RX4 yX4_comeToFirst (.code yX4_comeToFirst cX4_comeToFirst 3 none :: tC)) := gC_v (List.mem_of_getElem? (i := 193) (by decide +kernel)) (List.mem_of_getElem? (i := 194) (by decide +kernel)) (List.mem_of_getElem? (i := 195) (by decide +kernel)) (List.mem_of_getElem? (i := 177) (by decide +kernel)) (List.mem_of_getElem? (i := 191) (by decide +kernel))
theorem okC_X4_comeToFirst : cOkY yX4_comeToFirst RX4 2 := by unfold cOkY; decide +kernel
theorem gC_X4_34 : GoodIn tC (wsV RX4 34 RX4 yX4_grabOrStandIn (.code yX4_grabOrStandIn cX4_grabOrStandIn 2 none :: tC)) := gC_v (List.mem_of_getElem? (i := 203) (by decide +kernel)) (List.mem_of_getElem? (i := 204) (by decide +kernel)) (List.mem_of_getElem? (i := 205) (by decide +kernel)) (List.mem_of_getElem? (i := 177) (by decide +kernel)) (List.mem_of_getElem? (i := 180) (by decide +kernel))
theorem okC_X4_grabOrStandIn : cOkY yX4_grabOrStandIn RX4 1 := by unfold cOkY; decide +kernel
theorem gC_X4_45 : GoodIn tC (wsV RX4 45 RX8 yX8_goOnWith (.code yX8_goOnWith cX8_goOnWith 2 none :: tC)) := gC_v (List.mem_of_getElem? (i := 206) (by decide +kernel)) (List.mem_of_getElem? (i := 119) (by decide +kernel)) (List.mem_of_getElem? (i := 120) (by decide +kernel)) (List.mem_of_getElem? (i := 37) (by decide +kernel)) (List.mem_of_getElem? (i := 113) (by decide +kernel))
theorem gC_X4_54 : GoodIn tC (wsV RX4 54 RX8 yX8_fail (.code yX8_fail cX8_fail 2 none :: tC)) := gC_v (List.mem_of_getElem? (i := 207) (by decide +kernel)) (List.mem_of_getElem? (i := 80) (by decide +kernel)) (List.mem_of_getElem? (i := 81) (by decide +kernel)) (List.mem_of_getElem? (i := 37) (by decide +kernel)) (List.mem_of_getElem? (i := 56) (by decide +kernel))
theorem gC_X4_66 : GoodIn tC (wsV RX4 66 RX4 yX4_free (.code yX4_free cX4_free 2 none :: tC)) := gC_v (List.mem_of_getElem? (i := 208) (by decide +kernel)) (List.mem_of_getElem? (i := 209) (by decide +kernel)) (List.mem_of_getElem? (i := 210) (by decide +kernel)) (List.mem_of_getElem? (i := 177) (by decide +kernel)) (List.mem_of_getElem? (i := 190) (by decide +kernel))
theorem okC_X4_free : cOkY yX4_free RX4 0 := by unfold cOkY; decide +kernel
theorem gC_X4_78 : GoodIn tC (wsV RX4 78 RX4 yX4_callUp (.code yX4_callUp cX4_callUp 4 none :: tC)) := gC_v (List.mem_of_getElem? (i := 211) (by decide +kernel)) (List.mem_of_getElem? (i := 212) (by decide +kernel)) (List.mem_of_getElem? (i := 213) (by decide +kernel)) (List.mem_of_getElem? (i := 177) (by decide +kernel)) (List.mem_of_getElem? (i := 196) (by decide +kernel))
theorem okC_X4_callUp : cOkY yX4_callUp RX4 1 := by unfold cOkY; decide +kernel
theorem gC_X4_81 : GoodIn tC (wsV RX4 81 RX8 yX8_refusesToWait (.code yX8_refusesToWait cX8_refusesToWait 1 (some .boolean) :: tC)) := gC_v (List.mem_of_getElem? (i := 214) (by decide +kernel)) (List.mem_of_getElem? (i := 50) (by decide +kernel)) (List.mem_of_getElem? (i := 51) (by decide +kernel)) (List.mem_of_getElem? (i := 37) (by decide +kernel)) (List.mem_of_getElem? (i := 38) (by decide +kernel))
theorem gC_X5_58 : GoodIn tC (wsV RX5 58 RX6 yX6_first (.code yX6_first cX6_first 1 (some (.object "TurnKeeper$Strand")) :: tC)) := gC_v (List.mem_of_getElem? (i := 232) (by decide +kernel)) (List.mem_of_getElem? (i := 72) (by decide +kernel)) (List.mem_of_getElem? (i := 73) (by decide +kernel)) (List.mem_of_getElem? (i := 10) (by decide +kernel)) (List.mem_of_getElem? (i := 58) (by decide +kernel))
theorem gC_X5_44 : GoodIn tC (wsV RX5 44 RX8 yX8_goOnWith (.code yX8_goOnWith cX8_goOnWith 2 none :: tC)) := gC_v (List.mem_of_getElem? (i := 233) (by decide +kernel)) (List.mem_of_getElem? (i := 119) (by decide +kernel)) (List.mem_of_getElem? (i := 120) (by decide +kernel)) (List.mem_of_getElem? (i := 37) (by decide +kernel)) (List.mem_of_getElem? (i := 113) (by decide +kernel))
theorem gC_X5_64 : GoodIn tC (wsV RX5 64 RX5 yX5_append (.code yX5_append cX5_append 3 none :: tC)) := gC_v (List.mem_of_getElem? (i := 234) (by decide +kernel)) (List.mem_of_getElem? (i := 235) (by decide +kernel)) (List.mem_of_getElem? (i := 236) (by decide +kernel)) (List.mem_of_getElem? (i := 237) (by decide +kernel)) (List.mem_of_getElem? (i := 227) (by decide +kernel))
theorem okC_X5_append : cOkY yX5_append RX5 1 := by unfold cOkY; decide +kernel
theorem gC_X5_36 : GoodIn tC (wsV RX5 36 RX8 yX8_goOn (.code yX8_goOn cX8_goOn 1 none :: tC)) := gC_v (List.mem_of_getElem? (i := 240) (by decide +kernel)) (List.mem_of_getElem? (i := 42) (by decide +kernel)) (List.mem_of_getElem? (i := 43) (by decide +kernel)) (List.mem_of_getElem? (i := 37) (by decide +kernel)) (List.mem_of_getElem? (i := 28) (by decide +kernel))
theorem gC_X5_32 : GoodIn tC (wsV RX5 32 RX5 yX5_isAccepted (.code yX5_isAccepted cX5_isAccepted 3 (some .boolean) :: tC)) := gC_v (List.mem_of_getElem? (i := 244) (by decide +kernel)) (List.mem_of_getElem? (i := 245) (by decide +kernel)) (List.mem_of_getElem? (i := 246) (by decide +kernel)) (List.mem_of_getElem? (i := 237) (by decide +kernel)) (List.mem_of_getElem? (i := 238) (by decide +kernel))
theorem okC_X5_isAccepted : cOkY yX5_isAccepted RX5 1 := by unfold cOkY; decide +kernel
theorem gC_X5_51 : GoodIn tC (wsV RX5 51 RX5 yX5_takenOut (.code yX5_takenOut cX5_takenOut 3 (some .int) :: tC)) := gC_v (List.mem_of_getElem? (i := 250) (by decide +kernel)) (List.mem_of_getElem? (i := 251) (by decide +kernel)) (List.mem_of_getElem? (i := 252) (by decide +kernel)) (List.mem_of_getElem? (i := 237) (by decide +kernel)) (List.mem_of_getElem? (i := 241) (by decide +kernel))
theorem okC_X5_takenOut : cOkY yX5_takenOut RX5 0 := by unfold cOkY; decide +kernel
theorem gC_X7_57 : GoodIn tC (wsV RX7 57 RX6 yX6_first (.code yX6_first cX6_first 1 (some (.object "TurnKeeper$Strand")) :: tC)) := gC_v (List.mem_of_getElem? (i := 262) (by decide +kernel)) (List.mem_of_getElem? (i := 72) (by decide +kernel)) (List.mem_of_getElem? (i := 73) (by decide +kernel)) (List.mem_of_getElem? (i := 10) (by decide +kernel)) (List.mem_of_getElem? (i := 58) (by decide +kernel))
theorem gC_X7_36 : GoodIn tC (wsV RX7 36 RX8 yX8_operand (.code yX8_operand cX8_operand 2 (some .int) :: tC)) := gC_v (List.mem_of_getElem? (i := 263) (by decide +kernel)) (List.mem_of_getElem? (i := 127) (by decide +kernel)) (List.mem_of_getElem? (i := 128) (by decide +kernel)) (List.mem_of_getElem? (i := 37) (by decide +kernel)) (List.mem_of_getElem? (i := 114) (by decide +kernel))
theorem gC_X7_42 : GoodIn tC (wsV RX7 42 RX8 yX8_goOn (.code yX8_goOn cX8_goOn 1 none :: tC)) := gC_v (List.mem_of_getElem? (i := 264) (by decide +kernel)) (List.mem_of_getElem? (i := 42) (by decide +kernel)) (List.mem_of_getElem? (i := 43) (by decide +kernel)) (List.mem_of_getElem? (i := 37) (by decide +kernel)) (List.mem_of_getElem? (i := 28) (by decide +kernel))
theorem gC_X7_50 : GoodIn tC (wsV RX7 50 RX7 yX7_handOut (.code yX7_handOut cX7_handOut 3 none :: tC)) := gC_v (List.mem_of_getElem? (i := 272) (by decide +kernel)) (List.mem_of_getElem? (i := 273) (by decide +kernel)) (List.mem_of_getElem? (i := 274) (by decide +kernel)) (List.mem_of_getElem? (i := 275) (by decide +kernel)) (List.mem_of_getElem? (i := 265) (by decide +kernel))
theorem okC_X7_handOut : cOkY yX7_handOut RX7 0 := by unfold cOkY; decide +kernel
theorem gC_X7_53 : GoodIn tC (wsV RX7 53 RX8 yX8_goOnWith (.code yX8_goOnWith cX8_goOnWith 2 none :: tC)) := gC_v (List.mem_of_getElem? (i := 276) (by decide +kernel)) (List.mem_of_getElem? (i := 119) (by decide +kernel)) (List.mem_of_getElem? (i := 120) (by decide +kernel)) (List.mem_of_getElem? (i := 37) (by decide +kernel)) (List.mem_of_getElem? (i := 113) (by decide +kernel))
theorem gC_X10_39 : GoodIn tC (wsV RX10 39 RX10 yX10_here (.code yX10_here cX10_here 1 (some .int) :: tC)) := gC_v (List.mem_of_getElem? (i := 300) (by decide +kernel)) (List.mem_of_getElem? (i := 301) (by decide +kernel)) (List.mem_of_getElem? (i := 302) (by decide +kernel)) (List.mem_of_getElem? (i := 303) (by decide +kernel)) (List.mem_of_getElem? (i := 297) (by decide +kernel))
theorem okC_X10_here : cOkY yX10_here RX10 0 := by unfold cOkY; decide +kernel
theorem gC_X10_64 : GoodIn tC (wsV RX10 64 RJ0 yJ0_length_8abf5 (.code yJ0_length_8abf5 cJ0_length_8abf5 1 (some .int) :: tC)) := gC_v (List.mem_of_getElem? (i := 347) (by decide +kernel)) (List.mem_of_getElem? (i := 348) (by decide +kernel)) (List.mem_of_getElem? (i := 349) (by decide +kernel)) (List.mem_of_getElem? (i := 312) (by decide +kernel)) (List.mem_of_getElem? (i := 307) (by decide +kernel))
theorem okC_J0_length_8abf5 : cOkY yJ0_length_8abf5 RJ0 0 := by unfold cOkY; decide +kernel
theorem gC_X10_68 : GoodIn tC (wsV RX10 68 RJ0 yJ0_charAt_5068e (.code yJ0_charAt_5068e cJ0_charAt_5068e 2 (some .char) :: tC)) := gC_v (List.mem_of_getElem? (i := 350) (by decide +kernel)) (List.mem_of_getElem? (i := 351) (by decide +kernel)) (List.mem_of_getElem? (i := 352) (by decide +kernel)) (List.mem_of_getElem? (i := 312) (by decide +kernel)) (List.mem_of_getElem? (i := 346) (by decide +kernel))
theorem okC_J0_charAt_5068e : cOkY yJ0_charAt_5068e RJ0 1 := by unfold cOkY; decide +kernel
theorem gC_X10_83 : GoodIn tC (wsV RX10 83 RX10 yX10_isText (.code yX10_isText cX10_isText 4 (some .boolean) :: tC)) := gC_v (List.mem_of_getElem? (i := 355) (by decide +kernel)) (List.mem_of_getElem? (i := 356) (by decide +kernel)) (List.mem_of_getElem? (i := 357) (by decide +kernel)) (List.mem_of_getElem? (i := 303) (by decide +kernel)) (List.mem_of_getElem? (i := 353) (by decide +kernel))
theorem okC_X10_isText : cOkY yX10_isText RX10 2 := by unfold cOkY; decide +kernel
theorem gC_X10_43 : GoodIn tC (wsV RX10 43 RX10 yX10_broken (.code yX10_broken cX10_broken 2 (some .boolean) :: tC)) := gC_v (List.mem_of_getElem? (i := 363) (by decide +kernel)) (List.mem_of_getElem? (i := 364) (by decide +kernel)) (List.mem_of_getElem? (i := 365) (by decide +kernel)) (List.mem_of_getElem? (i := 303) (by decide +kernel)) (List.mem_of_getElem? (i := 359) (by decide +kernel))
theorem okC_X10_broken : cOkY yX10_broken RX10 1 := by unfold cOkY; decide +kernel
theorem gC_X10_54 : GoodIn tC (wsV RX10 54 RX10 yX10_store (.code yX10_store cX10_store 3 none :: tC)) := gC_v (List.mem_of_getElem? (i := 368) (by decide +kernel)) (List.mem_of_getElem? (i := 369) (by decide +kernel)) (List.mem_of_getElem? (i := 370) (by decide +kernel)) (List.mem_of_getElem? (i := 303) (by decide +kernel)) (List.mem_of_getElem? (i := 360) (by decide +kernel))
theorem okC_X10_store : cOkY yX10_store RX10 2 := by unfold cOkY; decide +kernel
theorem gC_X10_46 : GoodIn tC (wsV RX10 46 RX10 yX10_wordAt (.code yX10_wordAt cX10_wordAt 3 (some .int) :: tC)) := gC_v (List.mem_of_getElem? (i := 372) (by decide +kernel)) (List.mem_of_getElem? (i := 373) (by decide +kernel)) (List.mem_of_getElem? (i := 374) (by decide +kernel)) (List.mem_of_getElem? (i := 303) (by decide +kernel)) (List.mem_of_getElem? (i := 358) (by decide +kernel))
theorem okC_X10_wordAt : cOkY yX10_wordAt RX10 1 := by unfold cOkY; decide +kernel
theorem gC_X10_29 : GoodIn tC (wsV RX10 29 RX10 yX10_skipBlanks (.code yX10_skipBlanks cX10_skipBlanks 1 none :: tC)) := gC_v (List.mem_of_getElem? (i := 375) (by decide +kernel)) (List.mem_of_getElem? (i := 376) (by decide +kernel)) (List.mem_of_getElem? (i := 377) (by decide +kernel)) (List.mem_of_getElem? (i := 303) (by decide +kernel)) (List.mem_of_getElem? (i := 299) (by decide +kernel))
theorem okC_X10_skipBlanks : cOkY yX10_skipBlanks RX10 0 := by unfold cOkY; decide +kernel
theorem gC_X10_72 : GoodIn tC (wsV RX10 72 RX10 yX10_readNumber (.code yX10_readNumber cX10_readNumber 7 (some .boolean) :: tC)) := gC_v (List.mem_of_getElem? (i := 378) (by decide +kernel)) (List.mem_of_getElem? (i := 379) (by decide +kernel)) (List.mem_of_getElem? (i := 380) (by decide +kernel)) (List.mem_of_getElem? (i := 303) (by decide +kernel)) (List.mem_of_getElem? (i := 362) (by decide +kernel))
theorem okC_X10_readNumber : cOkY yX10_readNumber RX10 2 := by unfold cOkY; decide +kernel
theorem gC_X10_32 : GoodIn tC (wsV RX10 32 RX10 yX10_readInstruction (.code yX10_readInstruction cX10_readInstruction 6 (some .boolean) :: tC)) := gC_v (List.mem_of_getElem? (i := 383) (by decide +kernel)) (List.mem_of_getElem? (i := 384) (by decide +kernel)) (List.mem_of_getElem? (i := 385) (by decide +kernel)) (List.mem_of_getElem? (i := 303) (by decide +kernel)) (List.mem_of_getElem? (i := 381) (by decide +kernel))
theorem okC_X10_readInstruction : cOkY yX10_readInstruction RX10 1 := by unfold cOkY; decide +kernel
theorem gC_X12_45 : GoodIn tC (wsV RX12 45 RX10 yX10_append (.code yX10_append cX10_append 3 none :: tC)) := gC_v (List.mem_of_getElem? (i := 405) (by decide +kernel)) (List.mem_of_getElem? (i := 406) (by decide +kernel)) (List.mem_of_getElem? (i := 407) (by decide +kernel)) (List.mem_of_getElem? (i := 303) (by decide +kernel)) (List.mem_of_getElem? (i := 295) (by decide +kernel))
theorem okC_X10_append : cOkY yX10_append RX10 1 := by unfold cOkY; decide +kernel
theorem gC_X12_59 : GoodIn tC (wsV RX12 59 RX12 yX12_leastFree (.code yX12_leastFree cX12_leastFree 2 (some .int) :: tC)) := gC_v (List.mem_of_getElem? (i := 444) (by decide +kernel)) (List.mem_of_getElem? (i := 445) (by decide +kernel)) (List.mem_of_getElem? (i := 446) (by decide +kernel)) (List.mem_of_getElem? (i := 443) (by decide +kernel)) (List.mem_of_getElem? (i := 412) (by decide +kernel))
theorem okC_X12_leastFree : cOkY yX12_leastFree RX12 0 := by unfold cOkY; decide +kernel
theorem gC_X12_83 : GoodIn tC (wsV RX12 83 RX12 yX12_howManySyncs (.code yX12_howManySyncs cX12_howManySyncs 6 (some .int) :: tC)) := gC_v (List.mem_of_getElem? (i := 464) (by decide +kernel)) (List.mem_of_getElem? (i := 465) (by decide +kernel)) (List.mem_of_getElem? (i := 466) (by decide +kernel)) (List.mem_of_getElem? (i := 443) (by decide +kernel)) (List.mem_of_getElem? (i := 450) (by decide +kernel))
theorem okC_X12_howManySyncs : cOkY yX12_howManySyncs RX12 0 := by unfold cOkY; decide +kernel
theorem gC_X12_86 : GoodIn tC (wsV RX12 86 RX10 yX10_read (.code yX10_read cX10_read 2 (some .boolean) :: tC)) := gC_v (List.mem_of_getElem? (i := 472) (by decide +kernel)) (List.mem_of_getElem? (i := 473) (by decide +kernel)) (List.mem_of_getElem? (i := 474) (by decide +kernel)) (List.mem_of_getElem? (i := 303) (by decide +kernel)) (List.mem_of_getElem? (i := 386) (by decide +kernel))
theorem okC_X10_read : cOkY yX10_read RX10 0 := by unfold cOkY; decide +kernel
theorem gC_X12_94 : GoodIn tC (wsV RX12 94 RX8 yX8_isVacant (.code yX8_isVacant cX8_isVacant 1 (some .boolean) :: tC)) := gC_v (List.mem_of_getElem? (i := 475) (by decide +kernel)) (List.mem_of_getElem? (i := 476) (by decide +kernel)) (List.mem_of_getElem? (i := 477) (by decide +kernel)) (List.mem_of_getElem? (i := 37) (by decide +kernel)) (List.mem_of_getElem? (i := 282) (by decide +kernel))
theorem okC_X8_isVacant : cOkY yX8_isVacant RX8 0 := by unfold cOkY; decide +kernel
theorem gC_X12_104 : GoodIn tC (wsV RX12 104 RX8 yX8_start (.code yX8_start cX8_start 4 none :: tC)) := gC_v (List.mem_of_getElem? (i := 478) (by decide +kernel)) (List.mem_of_getElem? (i := 479) (by decide +kernel)) (List.mem_of_getElem? (i := 480) (by decide +kernel)) (List.mem_of_getElem? (i := 37) (by decide +kernel)) (List.mem_of_getElem? (i := 283) (by decide +kernel))
theorem okC_X8_start : cOkY yX8_start RX8 2 := by unfold cOkY; decide +kernel
theorem gC_X12_136 : GoodIn tC (wsV RX12 136 RX8 yX8_goOn (.code yX8_goOn cX8_goOn 1 none :: tC)) := gC_v (List.mem_of_getElem? (i := 486) (by decide +kernel)) (List.mem_of_getElem? (i := 42) (by decide +kernel)) (List.mem_of_getElem? (i := 43) (by decide +kernel)) (List.mem_of_getElem? (i := 37) (by decide +kernel)) (List.mem_of_getElem? (i := 28) (by decide +kernel))
theorem gC_X12_277 : GoodIn tC (wsV RX12 277 RX8 yX8_refusesToWait (.code yX8_refusesToWait cX8_refusesToWait 1 (some .boolean) :: tC)) := gC_v (List.mem_of_getElem? (i := 487) (by decide +kernel)) (List.mem_of_getElem? (i := 50) (by decide +kernel)) (List.mem_of_getElem? (i := 51) (by decide +kernel)) (List.mem_of_getElem? (i := 37) (by decide +kernel)) (List.mem_of_getElem? (i := 38) (by decide +kernel))
theorem gC_X12_253 : GoodIn tC (wsV RX12 253 RX8 yX8_operand (.code yX8_operand cX8_operand 2 (some .int) :: tC)) := gC_v (List.mem_of_getElem? (i := 492) (by decide +kernel)) (List.mem_of_getElem? (i := 127) (by decide +kernel)) (List.mem_of_getElem? (i := 128) (by decide +kernel)) (List.mem_of_getElem? (i := 37) (by decide +kernel)) (List.mem_of_getElem? (i := 114) (by decide +kernel))
theorem gC_X12_155 : GoodIn tC (wsV RX12 155 RX8 yX8_goOnWith (.code yX8_goOnWith cX8_goOnWith 2 none :: tC)) := gC_v (List.mem_of_getElem? (i := 494) (by decide +kernel)) (List.mem_of_getElem? (i := 119) (by decide +kernel)) (List.mem_of_getElem? (i := 120) (by decide +kernel)) (List.mem_of_getElem? (i := 37) (by decide +kernel)) (List.mem_of_getElem? (i := 113) (by decide +kernel))
theorem gC_X12_270 : GoodIn tC (wsV RX12 270 RX8 yX8_goTo (.code yX8_goTo cX8_goTo 2 none :: tC)) := gC_v (List.mem_of_getElem? (i := 495) (by decide +kernel)) (List.mem_of_getElem? (i := 35) (by decide +kernel)) (List.mem_of_getElem? (i := 36) (by decide +kernel)) (List.mem_of_getElem? (i := 37) (by decide +kernel)) (List.mem_of_getElem? (i := 24) (by decide +kernel))
theorem gC_X12_273 : GoodIn tC (wsV RX12 273 RX12 yX12_fallAsleep (.code yX12_fallAsleep cX12_fallAsleep 3 none :: tC)) := gC_v (List.mem_of_getElem? (i := 496) (by decide +kernel)) (List.mem_of_getElem? (i := 497) (by decide +kernel)) (List.mem_of_getElem? (i := 498) (by decide +kernel)) (List.mem_of_getElem? (i := 443) (by decide +kernel)) (List.mem_of_getElem? (i := 488) (by decide +kernel))
theorem okC_X12_fallAsleep : cOkY yX12_fallAsleep RX12 2 := by unfold cOkY; decide +kernel
theorem gC_X12_239 : GoodIn tC (wsV RX12 239 RX4 yX4_tryAgain (.code yX4_tryAgain cX4_tryAgain 2 none :: tC)) := gC_v (List.mem_of_getElem? (i := 507) (by decide +kernel)) (List.mem_of_getElem? (i := 508) (by decide +kernel)) (List.mem_of_getElem? (i := 509) (by decide +kernel)) (List.mem_of_getElem? (i := 177) (by decide +kernel)) (List.mem_of_getElem? (i := 216) (by decide +kernel))
theorem okC_X4_tryAgain : cOkY yX4_tryAgain RX4 1 := by unfold cOkY; decide +kernel
theorem gC_X12_242 : GoodIn tC (wsV RX12 242 RX8 yX8_word (.code yX8_word cX8_word 2 (some (.object "TurnKeeper$Word")) :: tC)) := gC_v (List.mem_of_getElem? (i := 510) (by decide +kernel)) (List.mem_of_getElem? (i := 75) (by decide +kernel)) (List.mem_of_getElem? (i := 76) (by decide +kernel)) (List.mem_of_getElem? (i := 37) (by decide +kernel)) (List.mem_of_getElem? (i := 61) (by decide +kernel))
theorem gC_X12_249 : GoodIn tC (wsV RX12 249 RX12 yX12_doAlone (.code yX12_doAlone cX12_doAlone 4 none :: tC)) := gC_v (List.mem_of_getElem? (i := 511) (by decide +kernel)) (List.mem_of_getElem? (i := 512) (by decide +kernel)) (List.mem_of_getElem? (i := 513) (by decide +kernel)) (List.mem_of_getElem? (i := 443) (by decide +kernel)) (List.mem_of_getElem? (i := 499) (by decide +kernel))
theorem okC_X12_doAlone : cOkY yX12_doAlone RX12 2 := by unfold cOkY; decide +kernel
theorem gC_X12_176 : GoodIn tC (wsV RX12 176 RX12 yX12_syncAt (.code yX12_syncAt cX12_syncAt 2 (some (.object "TurnKeeper$Sync")) :: tC)) := gC_v (List.mem_of_getElem? (i := 514) (by decide +kernel)) (List.mem_of_getElem? (i := 515) (by decide +kernel)) (List.mem_of_getElem? (i := 516) (by decide +kernel)) (List.mem_of_getElem? (i := 443) (by decide +kernel)) (List.mem_of_getElem? (i := 500) (by decide +kernel))
theorem okC_X12_syncAt : cOkY yX12_syncAt RX12 1 := by unfold cOkY; decide +kernel
theorem gC_X12_256 : GoodIn tC (wsV RX12 256 RX8 yX8_fail (.code yX8_fail cX8_fail 2 none :: tC)) := gC_v (List.mem_of_getElem? (i := 517) (by decide +kernel)) (List.mem_of_getElem? (i := 80) (by decide +kernel)) (List.mem_of_getElem? (i := 81) (by decide +kernel)) (List.mem_of_getElem? (i := 37) (by decide +kernel)) (List.mem_of_getElem? (i := 56) (by decide +kernel))
theorem gC_X12_108 : GoodIn tC (wsV RX12 108 RX12 yX12_strandAt (.code yX12_strandAt cX12_strandAt 2 (some (.object "TurnKeeper$Strand")) :: tC)) := gC_v (List.mem_of_getElem? (i := 533) (by decide +kernel)) (List.mem_of_getElem? (i := 534) (by decide +kernel)) (List.mem_of_getElem? (i := 535) (by decide +kernel)) (List.mem_of_getElem? (i := 443) (by decide +kernel)) (List.mem_of_getElem? (i := 482) (by decide +kernel))
theorem okC_X12_strandAt : cOkY yX12_strandAt RX12 1 := by unfold cOkY; decide +kernel
theorem gC_X12_115 : GoodIn tC (wsV RX12 115 RX12 yX12_takeTurn (.code yX12_takeTurn cX12_takeTurn 4 none :: tC)) := gC_v (List.mem_of_getElem? (i := 536) (by decide +kernel)) (List.mem_of_getElem? (i := 537) (by decide +kernel)) (List.mem_of_getElem? (i := 538) (by decide +kernel)) (List.mem_of_getElem? (i := 443) (by decide +kernel)) (List.mem_of_getElem? (i := 532) (by decide +kernel))
theorem okC_X12_takeTurn : cOkY yX12_takeTurn RX12 1 := by unfold cOkY; decide +kernel
theorem gC_X12_121 : GoodIn tC (wsV RX12 121 RX12 yX12_howManyReady (.code yX12_howManyReady cX12_howManyReady 6 (some .int) :: tC)) := gC_v (List.mem_of_getElem? (i := 543) (by decide +kernel)) (List.mem_of_getElem? (i := 544) (by decide +kernel)) (List.mem_of_getElem? (i := 545) (by decide +kernel)) (List.mem_of_getElem? (i := 443) (by decide +kernel)) (List.mem_of_getElem? (i := 540) (by decide +kernel))
theorem okC_X12_howManyReady : cOkY yX12_howManyReady RX12 0 := by unfold cOkY; decide +kernel
theorem gC_X12_125 : GoodIn tC (wsV RX12 125 RX12 yX12_readyFrom (.code yX12_readyFrom cX12_readyFrom 6 (some (.object "TurnKeeper$Strand")) :: tC)) := gC_v (List.mem_of_getElem? (i := 546) (by decide +kernel)) (List.mem_of_getElem? (i := 547) (by decide +kernel)) (List.mem_of_getElem? (i := 548) (by decide +kernel)) (List.mem_of_getElem? (i := 443) (by decide +kernel)) (List.mem_of_getElem? (i := 541) (by decide +kernel))
theorem okC_X12_readyFrom : cOkY yX12_readyFrom RX12 2 := by unfold cOkY; decide +kernel
theorem gC_X12_152 : GoodIn tC (wsV RX12 152 RX4 yX4_interruptWait (.code yX4_interruptWait cX4_interruptWait 2 none :: tC)) := gC_v (List.mem_of_getElem? (i := 553) (by decide +kernel)) (List.mem_of_getElem? (i := 554) (by decide +kernel)) (List.mem_of_getElem? (i := 555) (by decide +kernel)) (List.mem_of_getElem? (i := 177) (by decide +kernel)) (List.mem_of_getElem? (i := 218) (by decide +kernel))
theorem okC_X4_interruptWait : cOkY yX4_interruptWait RX4 1 := by unfold cOkY; decide +kernel
theorem gC_X12_172 : GoodIn tC (wsV RX12 172 RX12 yX12_blockerOf (.code yX12_blockerOf cX12_blockerOf 5 (some .int) :: tC)) := gC_v (List.mem_of_getElem? (i := 565) (by decide +kernel)) (List.mem_of_getElem? (i := 566) (by decide +kernel)) (List.mem_of_getElem? (i := 567) (by decide +kernel)) (List.mem_of_getElem? (i := 443) (by decide +kernel)) (List.mem_of_getElem? (i := 560) (by decide +kernel))
theorem okC_X12_blockerOf : cOkY yX12_blockerOf RX12 1 := by unfold cOkY; decide +kernel
end
section
/-! the class: the tape's cell -/
def tAt (f : Nat → va_E) (a : Nat) : Int32 := match f a with
  | Sum.inr o => (match (o.2 : List Value)[5]? with
    | some (Value.int x) => x
    | _ => 0)
  | _ => 0
theorem tAt_e {f : Nat → va_E} {a cd by9 : Nat} {sz ln pl at9 : Int32} (h : f a = .inr (8, [.ref cd, .int sz, .int ln, .int pl, .ref by9, .int at9])) : tAt f a = at9 := by simp [tAt, h]
theorem mk8 {ks : kS} {τ : Nat → Nat} {L : List Nat} {ψ sz pl at9 : Int32} {cd by9 : Nat} (h1 : ty τ L cd 12) (h2 : ty τ L by9 11) (h3 : 0 ≤ ψ ∧ ψ ≤ 1600) (h4 : 0 ≤ at9) (h5 : at9 ≤ 1601) : cOk ks τ L ψ (.inr (8, [.ref cd, .int sz, .int ψ, .int pl, .ref by9, .int at9])) 8 := by
  show ∃ _, _
  exact ⟨cd, sz, pl, by9, at9, rfl, h1, h2, h3, h4, h5⟩
theorem cOk_psi {ks : kS} {τ : Nat → Nat} {L : List Nat} {ψ ψ1 : Int32} {e : va_E} {k : Nat} (h : cOk ks τ L ψ e k) (hk : k ≠ 8) : cOk ks τ L ψ1 e k := by
  unfold cOk at h ⊢
  rw [if_neg hk] at h ⊢
  exact h
theorem cI_len {ks : kS} {τ : Nat → Nat} {L : List Nat} {ψ ψ1 : Int32} {f f1 : Nat → va_E} {a : Nat} {e : va_E} (h : cI ks τ L ψ f) (hu : ∀ b, b ∈ L → τ b = 8 → b = a) (hk : τ a = 8) (e1 : f1 = va_up f a e) (he : cOk ks τ L ψ1 e 8) : cI ks τ L ψ1 f1 := by
  intro b hb
  rw [e1]
  by_cases q : b = a
  · subst q; rw [va_up_self, hk]; exact he
  · rw [va_up_ne _ _ q]; exact cOk_psi (h b hb) (fun z => q (hu b hb z))
end
section
set_option maxHeartbeats 200000 in
set_option maxRecDepth 100000 in
theorem c_X6_first (l : Launch) (D : va_G) (ks : kS) (τ : Nat → Nat) (L : List Nat) (A : Nat → Prop) (N : State → Prop) (hN : cNk A N) (ψ : Int32) (f : Nat → va_E) (o0 : Nat) (t_o0 : ty τ L o0 5) : Met l yX6_first (Cond.code yX6_first cX6_first 1 (some (.object "TurnKeeper$Strand")) :: tC) ({ frames := 0, cells := 0, slots := 0, locals := 0 }) (va_Pc [.ref o0] (cB D ks τ L A N (ψ, f))) (va_Qq (fun r9 x9 => x9.1 = ψ ∧ tyO τ L r9 7) (cB D ks τ L A N) A) 0 0 A := by
  refine cMet (own := RX6) (by decide) rfl (Nat.le_of_ble_eq_true rfl) ?_
  intro p e s m below meth c ls C9 hml hr hlk V I hNs hl
  have hx := C9.1
  have hb := C9.2.1
  have hown := C9.2.2.1
  have hts := C9.2.2.2.1
  have hS : va_S A s.heap s.heap [] := va_S.rf
  have hl : lv_has ls 1 [(0, .ref o0)] := hl
  refine lv_aload_n hx hb dX6_first_0 rfl (lv_at hl 0 rfl) ?_
  obtain ⟨v1_0, v1_1, hf1, hn1, t1_1⟩ := op5 I t_o0
  refine cG C9 V t_o0.1 hf1 rfl tC_lay5 0 (by decide) tCf_X6_17 (Or.inl rfl) rfl dX6_first_1 ?_
  refine lv_if_le (tgt := 16) hx hb dX6_first_4 (by decide) (fun c2 => ?_) (fun c2 => ?_)
  · refine lv_null hx hb dX6_first_16 ?_
    exact cRetR (v := none) C9 hr hlk hN hNs V I hS (⟨rfl, tyO_n⟩) dX6_first_17
  · refine lv_aload_n hx hb dX6_first_7 rfl (lv_at hl 0 rfl) ?_
    refine cG C9 V t_o0.1 hf1 rfl tC_lay5 1 (by decide) tCf_X6_11 (Or.inl rfl) rfl dX6_first_8 ?_
    refine lv_iconst (v := 0) hx hb dX6_first_11 (by decide) ?_
    obtain ⟨g3, hf3, hg3⟩ := op13 I t1_1
    refine cLr (t0 := 2) C9 V t1_1.1 hf3 rfl (cvin (N := 8) rfl (by clear V hS hl C9 hts hown hx hb hml hr hlk; decide) (by clear V hS hl C9 hts hown hx hb hml hr hlk; decide)) dX6_first_12 ?_
    obtain ⟨r4, er4⟩ : ∃ z, z = g3 (Int32.toNatClampNeg 0) := ⟨_, rfl⟩
    rw [← er4]
    have tr4 : tyO τ L r4 7 := by rw [er4]; exact hg3 _
    rcases r4 with _ | y5
    · refine W.eq (g2 := F0 m 13 ls [.null]) rfl ?_
      refine lv_goto (tgt := 17) hx hb dX6_first_13 (by decide) ?_
      exact cRetR (v := none) C9 hr hlk hN hNs V I hS (⟨rfl, tyO_n⟩) dX6_first_17
    · have hy5 := tr4 y5 rfl
      refine W.eq (g2 := F0 m 13 ls [.ref y5]) rfl ?_
      refine lv_goto (tgt := 17) hx hb dX6_first_13 (by decide) ?_
      exact cRetR (v := (some y5)) C9 hr hlk hN hNs V I hS (⟨rfl, tyO_s hy5⟩) dX6_first_17
set_option maxHeartbeats 200000 in
set_option maxRecDepth 100000 in
theorem c_X8_fail (l : Launch) (D : va_G) (ks : kS) (τ : Nat → Nat) (L : List Nat) (A : Nat → Prop) (N : State → Prop) (hN : cNk A N) (ψ : Int32) (f : Nat → va_E) (o0 : Nat) (i1 : Int32) (t_o0 : ty τ L o0 7) : Met l yX8_fail (Cond.code yX8_fail cX8_fail 2 none :: tC) ({ frames := 0, cells := 0, slots := 0, locals := 0 }) (va_Pc [.ref o0, .int i1] (cB D ks τ L A N (ψ, f))) (va_Qv (fun x9 => x9.1 = ψ) (cB D ks τ L A N) A) 0 0 A := by
  refine cMet (own := RX8) (by decide) rfl (Nat.le_of_ble_eq_true rfl) ?_
  intro p e s m below meth c ls C9 hml hr hlk V I hNs hl
  have hx := C9.1
  have hb := C9.2.1
  have hown := C9.2.2.1
  have hts := C9.2.2.2.1
  have hS : va_S A s.heap s.heap [] := va_S.rf
  have hl : lv_has ls 2 [(0, .ref o0), (1, .int i1)] := hl
  refine lv_aload_n hx hb dX8_fail_0 rfl (lv_at hl 0 rfl) ?_
  refine lv_iconst (v := 5) hx hb dX8_fail_1 (by decide) ?_
  obtain ⟨v1_0, v1_1, v1_2, v1_3, v1_4, v1_5, v1_6, v1_7, v1_8, v1_9, v1_10, v1_11, v1_12, hf1, t1_7, t1_8, t1_11⟩ := op7 I t_o0
  refine cP (v := .int 5) (ty := .int) C9 V hS t_o0.1 hf1 rfl tC_lay7 tyX8 tyX8_ok nmX8 1 (by decide) tCf_X8_19 rfl rfl (by decide +kernel) rfl rfl (Nat.le_of_ble_eq_true rfl) dX8_fail_2 (fun f2 H locs ef2 V hS => ?_)
  have hf3 : f2 o0 = .inr (7, [.int v1_0, .int 5, .int v1_2, .int v1_3, .int v1_4, .int v1_5, .long v1_6, va_rf v1_7, va_rf v1_8, .int v1_9, .int v1_10, .ref v1_11, .int v1_12]) := up_s ef2
  have I := cI_up I t_o0.2 ef2 (mk7 t1_7 t1_8 t1_11)
  refine lv_aload_n hx hb dX8_fail_5 rfl (lv_at hl 0 rfl) ?_
  refine lv_iload_n hx hb dX8_fail_6 rfl (lv_at hl 1 rfl) ?_
  refine cP (v := .int i1) (ty := .int) C9 V hS t_o0.1 hf3 rfl tC_lay7 tyX8 tyX8_ok nmX8 4 (by decide) tCf_X8_31 rfl rfl (by decide +kernel) rfl rfl (Nat.le_of_ble_eq_true rfl) dX8_fail_7 (fun f4 H locs ef4 V hS => ?_)
  have hf5 : f4 o0 = .inr (7, [.int v1_0, .int 5, .int v1_2, .int v1_3, .int i1, .int v1_5, .long v1_6, va_rf v1_7, va_rf v1_8, .int v1_9, .int v1_10, .ref v1_11, .int v1_12]) := up_s ef4
  have I := cI_up I t_o0.2 ef4 (mk7 t1_7 t1_8 t1_11)
  exact cRetV C9 hr hlk hN hNs V I hS (rfl) dX8_fail_10
set_option maxHeartbeats 200000 in
set_option maxRecDepth 100000 in
theorem c_X8_goTo (l : Launch) (D : va_G) (ks : kS) (τ : Nat → Nat) (L : List Nat) (A : Nat → Prop) (N : State → Prop) (hN : cNk A N) (ψ : Int32) (f : Nat → va_E) (o0 : Nat) (i1 : Int32) (t_o0 : ty τ L o0 7) : Met l yX8_goTo (Cond.code yX8_goTo cX8_goTo 2 none :: tC) ({ frames := 0, cells := 0, slots := 0, locals := 0 }) (va_Pc [.ref o0, .int i1] (cB D ks τ L A N (ψ, f))) (va_Qv (fun x9 => x9.1 = ψ) (cB D ks τ L A N) A) 0 0 A := by
  refine cMet (own := RX8) (by decide) rfl (Nat.le_of_ble_eq_true rfl) ?_
  intro p e s m below meth c ls C9 hml hr hlk V I hNs hl
  have hx := C9.1
  have hb := C9.2.1
  have hown := C9.2.2.1
  have hts := C9.2.2.2.1
  have hS : va_S A s.heap s.heap [] := va_S.rf
  have hl : lv_has ls 2 [(0, .ref o0), (1, .int i1)] := hl
  refine lv_aload_n hx hb dX8_goTo_0 rfl (lv_at hl 0 rfl) ?_
  refine lv_iload_n hx hb dX8_goTo_1 rfl (lv_at hl 1 rfl) ?_
  obtain ⟨v1_0, v1_1, v1_2, v1_3, v1_4, v1_5, v1_6, v1_7, v1_8, v1_9, v1_10, v1_11, v1_12, hf1, t1_7, t1_8, t1_11⟩ := op7 I t_o0
  refine cP (v := .int i1) (ty := .int) C9 V hS t_o0.1 hf1 rfl tC_lay7 tyX8 tyX8_ok nmX8 3 (by decide) tCf_X8_28 rfl rfl (by decide +kernel) rfl rfl (Nat.le_of_ble_eq_true rfl) dX8_goTo_2 (fun f2 H locs ef2 V hS => ?_)
  have hf3 : f2 o0 = .inr (7, [.int v1_0, .int v1_1, .int v1_2, .int i1, .int v1_4, .int v1_5, .long v1_6, va_rf v1_7, va_rf v1_8, .int v1_9, .int v1_10, .ref v1_11, .int v1_12]) := up_s ef2
  have I := cI_up I t_o0.2 ef2 (mk7 t1_7 t1_8 t1_11)
  refine lv_aload_n hx hb dX8_goTo_5 rfl (lv_at hl 0 rfl) ?_
  refine lv_iload_n hx hb dX8_goTo_6 rfl (lv_at hl 1 rfl) ?_
  refine lv_aload_n hx hb dX8_goTo_7 rfl (lv_at hl 0 rfl) ?_
  refine cG C9 V t_o0.1 hf3 rfl tC_lay7 12 (by decide) tCf_X8_22 (Or.inl rfl) rfl dX8_goTo_8 ?_
  refine lv_icmp_ge (tgt := 18) hx hb dX8_goTo_11 (by decide) (fun c4 => ?_) (fun c4 => ?_)
  · refine lv_iconst (v := 4) hx hb dX8_goTo_18 (by decide) ?_
    refine cP (v := .int 4) (ty := .int) C9 V hS t_o0.1 hf3 rfl tC_lay7 tyX8 tyX8_ok nmX8 1 (by decide) tCf_X8_19 rfl rfl (by decide +kernel) rfl rfl (Nat.le_of_ble_eq_true rfl) dX8_goTo_19 (fun f5 H locs ef5 V hS => ?_)
    have hf6 : f5 o0 = .inr (7, [.int v1_0, .int 4, .int v1_2, .int i1, .int v1_4, .int v1_5, .long v1_6, va_rf v1_7, va_rf v1_8, .int v1_9, .int v1_10, .ref v1_11, .int v1_12]) := up_s ef5
    have I := cI_up I t_o0.2 ef5 (mk7 t1_7 t1_8 t1_11)
    exact cRetV C9 hr hlk hN hNs V I hS (rfl) dX8_goTo_22
  · refine lv_iconst (v := 1) hx hb dX8_goTo_14 (by decide) ?_
    refine lv_goto (tgt := 19) hx hb dX8_goTo_15 (by decide) ?_
    refine cP (v := .int 1) (ty := .int) C9 V hS t_o0.1 hf3 rfl tC_lay7 tyX8 tyX8_ok nmX8 1 (by decide) tCf_X8_19 rfl rfl (by decide +kernel) rfl rfl (Nat.le_of_ble_eq_true rfl) dX8_goTo_19 (fun f7 H locs ef7 V hS => ?_)
    have hf8 : f7 o0 = .inr (7, [.int v1_0, .int 1, .int v1_2, .int i1, .int v1_4, .int v1_5, .long v1_6, va_rf v1_7, va_rf v1_8, .int v1_9, .int v1_10, .ref v1_11, .int v1_12]) := up_s ef7
    have I := cI_up I t_o0.2 ef7 (mk7 t1_7 t1_8 t1_11)
    exact cRetV C9 hr hlk hN hNs V I hS (rfl) dX8_goTo_22
set_option maxHeartbeats 200000 in
set_option maxRecDepth 100000 in
theorem c_X8_isVacant (l : Launch) (D : va_G) (ks : kS) (τ : Nat → Nat) (L : List Nat) (A : Nat → Prop) (N : State → Prop) (hN : cNk A N) (ψ : Int32) (f : Nat → va_E) (o0 : Nat) (t_o0 : ty τ L o0 7) : Met l yX8_isVacant (Cond.code yX8_isVacant cX8_isVacant 1 (some .boolean) :: tC) ({ frames := 0, cells := 0, slots := 0, locals := 0 }) (va_Pc [.ref o0] (cB D ks τ L A N (ψ, f))) (va_Qi (fun r9 x9 => x9.1 = ψ) (cB D ks τ L A N) A) 0 0 A := by
  refine cMet (own := RX8) (by decide) rfl (Nat.le_of_ble_eq_true rfl) ?_
  intro p e s m below meth c ls C9 hml hr hlk V I hNs hl
  have hx := C9.1
  have hb := C9.2.1
  have hown := C9.2.2.1
  have hts := C9.2.2.2.1
  have hS : va_S A s.heap s.heap [] := va_S.rf
  have hl : lv_has ls 1 [(0, .ref o0)] := hl
  refine lv_aload_n hx hb dX8_isVacant_0 rfl (lv_at hl 0 rfl) ?_
  obtain ⟨v1_0, v1_1, v1_2, v1_3, v1_4, v1_5, v1_6, v1_7, v1_8, v1_9, v1_10, v1_11, v1_12, hf1, t1_7, t1_8, t1_11⟩ := op7 I t_o0
  refine cG C9 V t_o0.1 hf1 rfl tC_lay7 1 (by decide) tCf_X8_19 (Or.inl rfl) rfl dX8_isVacant_1 ?_
  refine lv_if_eq (tgt := 23) hx hb dX8_isVacant_4 (by decide) (fun c2 => ?_) (fun c2 => ?_)
  · refine lv_iconst (v := 1) hx hb dX8_isVacant_23 (by decide) ?_
    refine lv_goto (tgt := 28) hx hb dX8_isVacant_24 (by decide) ?_
    exact cRetZ C9 hr hlk hN hNs V I hS (by clear V hS hl C9 hts hown hx hb hml hr hlk; first | rfl | decide | (subst_vars; rfl)) (rfl) dX8_isVacant_28
  · refine lv_aload_n hx hb dX8_isVacant_7 rfl (lv_at hl 0 rfl) ?_
    refine cG C9 V t_o0.1 hf1 rfl tC_lay7 1 (by decide) tCf_X8_19 (Or.inl rfl) rfl dX8_isVacant_8 ?_
    refine lv_iconst (v := 4) hx hb dX8_isVacant_11 (by decide) ?_
    refine lv_icmp_eq (tgt := 23) hx hb dX8_isVacant_12 (by decide) (fun c3 => ?_) (fun c3 => ?_)
    · refine lv_iconst (v := 1) hx hb dX8_isVacant_23 (by decide) ?_
      refine lv_goto (tgt := 28) hx hb dX8_isVacant_24 (by decide) ?_
      exact cRetZ C9 hr hlk hN hNs V I hS (by clear V hS hl C9 hts hown hx hb hml hr hlk; first | rfl | decide | (subst_vars; rfl)) (rfl) dX8_isVacant_28
    · refine lv_aload_n hx hb dX8_isVacant_15 rfl (lv_at hl 0 rfl) ?_
      refine cG C9 V t_o0.1 hf1 rfl tC_lay7 1 (by decide) tCf_X8_19 (Or.inl rfl) rfl dX8_isVacant_16 ?_
      refine lv_iconst (v := 5) hx hb dX8_isVacant_19 (by decide) ?_
      refine lv_icmp_ne (tgt := 27) hx hb dX8_isVacant_20 (by decide) (fun c4 => ?_) (fun c4 => ?_)
      · refine lv_iconst (v := 0) hx hb dX8_isVacant_27 (by decide) ?_
        exact cRetZ C9 hr hlk hN hNs V I hS (by clear V hS hl C9 hts hown hx hb hml hr hlk; first | rfl | decide | (subst_vars; rfl)) (rfl) dX8_isVacant_28
      · refine lv_iconst (v := 1) hx hb dX8_isVacant_23 (by decide) ?_
        refine lv_goto (tgt := 28) hx hb dX8_isVacant_24 (by decide) ?_
        exact cRetZ C9 hr hlk hN hNs V I hS (by clear V hS hl C9 hts hown hx hb hml hr hlk; first | rfl | decide | (subst_vars; rfl)) (rfl) dX8_isVacant_28
end
section
set_option maxHeartbeats 200000 in
set_option maxRecDepth 100000 in
theorem c_X6_add (l : Launch) (D : va_G) (ks : kS) (τ : Nat → Nat) (L : List Nat) (A : Nat → Prop) (N : State → Prop) (hN : cNk A N) (ψ : Int32) (f : Nat → va_E) (o0 : Nat) (o1 : Nat) (t_o0 : ty τ L o0 5) (t_o1 : ty τ L o1 7) : Met l yX6_add (Cond.code yX6_add cX6_add 2 none :: tC) ({ frames := 0, cells := 0, slots := 0, locals := 0 }) (va_Pc [.ref o0, .ref o1] (cB D ks τ L A N (ψ, f))) (va_Qv (fun x9 => x9.1 = ψ) (cB D ks τ L A N) A) 0 0 A := by
  refine cMet (own := RX6) (by decide) rfl (Nat.le_of_ble_eq_true rfl) ?_
  intro p e s m below meth c ls C9 hml hr hlk V I hNs hl
  have hx := C9.1
  have hb := C9.2.1
  have hown := C9.2.2.1
  have hts := C9.2.2.2.1
  have hS : va_S A s.heap s.heap [] := va_S.rf
  have hl : lv_has ls 2 [(0, .ref o0), (1, .ref o1)] := hl
  refine lv_aload_n hx hb dX6_add_0 rfl (lv_at hl 0 rfl) ?_
  obtain ⟨v1_0, v1_1, hf1, hn1, t1_1⟩ := op5 I t_o0
  refine cG C9 V t_o0.1 hf1 rfl tC_lay5 0 (by decide) tCf_X6_17 (Or.inl rfl) rfl dX6_add_1 ?_
  refine lv_aload_n hx hb dX6_add_4 rfl (lv_at hl 0 rfl) ?_
  refine cG C9 V t_o0.1 hf1 rfl tC_lay5 1 (by decide) tCf_X6_11 (Or.inl rfl) rfl dX6_add_5 ?_
  obtain ⟨g2, hf2, hg2⟩ := op13 I t1_1
  refine cAl (t0 := 2) (v := 8) C9 V t1_1.1 hf2 rfl (by first | rfl | decide) dX6_add_8 ?_
  refine lv_icmp_ge (tgt := 32) hx hb dX6_add_9 (by decide) (fun c3 => ?_) (fun c3 => ?_)
  · exact cRetV C9 hr hlk hN hNs V I hS (rfl) dX6_add_32
  · refine lv_aload_n hx hb dX6_add_12 rfl (lv_at hl 0 rfl) ?_
    refine cG C9 V t_o0.1 hf1 rfl tC_lay5 1 (by decide) tCf_X6_11 (Or.inl rfl) rfl dX6_add_13 ?_
    refine lv_aload_n hx hb dX6_add_16 rfl (lv_at hl 0 rfl) ?_
    refine cG C9 V t_o0.1 hf1 rfl tC_lay5 0 (by decide) tCf_X6_17 (Or.inl rfl) rfl dX6_add_17 ?_
    refine lv_aload_n hx hb dX6_add_20 rfl (lv_at hl 1 rfl) ?_
    obtain ⟨v5_0, v5_1, v5_2, v5_3, v5_4, v5_5, v5_6, v5_7, v5_8, v5_9, v5_10, v5_11, v5_12, hf5, t5_7, t5_8, t5_11⟩ := op7 I t_o1
    refine cSr C9 V hS t1_1.1 hf2 t_o1.1 hf5 (cvin (N := 8) rfl (hn1.1) (ci_lt c3)) dX6_add_21 (fun f4 H locs ef4 V hS => ?_)
    have hgg6 := tyO_up (i := Int32.toNatClampNeg v1_0) hg2 (tyO_s t_o1)
    obtain ⟨g6, eg6⟩ : ∃ z, z = va_up g2 (Int32.toNatClampNeg v1_0) (some o1) := ⟨_, rfl⟩
    rw [← eg6] at ef4 hgg6
    have hf7 := up_s ef4
    have I := cI_up I t1_1.2 ef4 (mk13 hgg6)
    have hf8 := up_n ef4 t1_1.2 t_o0.2 (by first | decide | omega) hf1
    have hf9 := up_n ef4 t1_1.2 t_o1.2 (by first | decide | omega) hf5
    refine lv_aload_n hx hb dX6_add_22 rfl (lv_at hl 0 rfl) ?_
    refine lv_dup hx hb dX6_add_23 rfl ?_
    refine cG C9 V t_o0.1 hf8 rfl tC_lay5 0 (by decide) tCf_X6_17 (Or.inl rfl) rfl dX6_add_24 ?_
    refine lv_iconst (v := 1) hx hb dX6_add_27 (by decide) ?_
    refine lv_iadd hx hb dX6_add_28 ?_
    refine lv_topi (fun x10 ex10 => ?_)
    refine cP (v := .int x10) (ty := .int) C9 V hS t_o0.1 hf8 rfl tC_lay5 tyX6 tyX6_ok nmX6 0 (by decide) tCf_X6_17 rfl rfl (by decide +kernel) rfl rfl (Nat.le_of_ble_eq_true rfl) dX6_add_29 (fun f11 H locs ef11 V hS => ?_)
    have hf12 : f11 o0 = .inr (5, [.int x10, .ref v1_1]) := up_s ef11
    have hn13 := ca_up ex10 hn1.1 (ci_lt c3)
    have I := cI_up I t_o0.2 ef11 (mk5 hn13 t1_1)
    have hf14 := up_n ef11 t_o0.2 t1_1.2 (by first | decide | omega) hf7
    have hf15 := up_n ef11 t_o0.2 t_o1.2 (by first | decide | omega) hf9
    exact cRetV C9 hr hlk hN hNs V I hS (rfl) dX6_add_32
theorem rm_0 {n i : Int32} (h : 0 ≤ n ∧ n ≤ i ∧ i ≤ 8) : 0 ≤ i := by grind
theorem rm_1 {n i : Int32} (h : 0 ≤ n ∧ n ≤ i ∧ i ≤ 8) (hi : i < 8) : n < 8 := by grind
theorem rm_8 {n i : Int32} (h : 0 ≤ n ∧ n ≤ i ∧ i ≤ 8) : 0 ≤ n ∧ n ≤ 8 := by grind
theorem rm_s {n i j : Int32} (h : 0 ≤ n ∧ n ≤ i ∧ i ≤ 8) (e : j = i + 1) (hi : i < 8) : 0 ≤ n ∧ n ≤ j ∧ j ≤ 8 := by grind
theorem rm_k {n i j k : Int32} (h : 0 ≤ n ∧ n ≤ i ∧ i ≤ 8) (e1 : k = n + 1) (e : j = i + 1) (hi : i < 8) : 0 ≤ k ∧ k ≤ j ∧ j ≤ 8 := by grind

set_option maxHeartbeats 200000 in
set_option maxRecDepth 100000 in
theorem c_X6_remove (l : Launch) (D : va_G) (ks : kS) (τ : Nat → Nat) (L : List Nat) (A : Nat → Prop) (N : State → Prop) (hN : cNk A N) (ψ : Int32) (f : Nat → va_E) (o0 : Nat) (o1 : Nat) (t_o0 : ty τ L o0 5) (t_o1 : ty τ L o1 7) : Met l yX6_remove (Cond.code yX6_remove cX6_remove 4 none :: tC) ({ frames := 0, cells := 0, slots := 0, locals := 0 }) (va_Pc [.ref o0, .ref o1] (cB D ks τ L A N (ψ, f))) (va_Qv (fun x9 => x9.1 = ψ) (cB D ks τ L A N) A) 0 0 A := by
  refine cMet (own := RX6) (by decide) rfl (Nat.le_of_ble_eq_true rfl) ?_
  intro p e s m below meth c ls C9 hml hr hlk V I hNs hl
  have hx := C9.1
  have hb := C9.2.1
  have hown := C9.2.2.1
  have hts := C9.2.2.2.1
  have hS : va_S A s.heap s.heap [] := va_S.rf
  have hl : lv_has ls 4 [(0, .ref o0), (1, .ref o1)] := hl
  refine lv_iconst (v := 0) hx hb dX6_remove_0 (by decide) ?_
  refine lv_topi (fun x1 ex1 => ?_)
  refine lv_istore_n (lv' := [(2, .int x1), (0, .ref o0), (1, .ref o1)]) hx hb dX6_remove_1 rfl hl (by decide) rfl (fun ls hl => ?_)
  refine lv_iconst (v := 0) hx hb dX6_remove_2 (by decide) ?_
  refine lv_topi (fun x2 ex2 => ?_)
  refine lv_istore_n (lv' := [(3, .int x2), (2, .int x1), (0, .ref o0), (1, .ref o1)]) hx hb dX6_remove_3 rfl hl (by decide) rfl (fun ls hl => ?_)
  have loop4 : ∀ (N9 : Nat) (w4_2 : Int32) (w4_3 : Int32) (F4 : Nat → va_E) (H : Heap) (locs : List Loc) (ls : Array Slot), cI ks τ L ψ F4 → (0 ≤ w4_2 ∧ w4_2 ≤ w4_3 ∧ w4_3 ≤ 8) → ((8 - w4_3).toInt.toNat) < N9 → cV D L F4 A H → va_S A s.heap H locs → lv_has ls 4 [(0, .ref o0), (1, .ref o1), (2, .int w4_2), (3, .int w4_3)] → W p l e ({ frames := 0, cells := 0, slots := 0, locals := 0 } : Room) s m ([.ref o0, .ref o1] : List Value).toArray below meth c H locs 0 0 (MQ below (va_Qv (fun x9 => x9.1 = ψ) (cB D ks τ L A N) A) ([.ref o0, .ref o1] : List Value).toArray s 0 0 A) (F0 m 4 ls []) := by
    intro N9
    induction N9 with
    | zero => intro w4_2 w4_3 F4 H locs ls I hi4 hm4; exact absurd hm4 (Nat.not_lt_zero _)
    | succ N9 ih4 =>
      intro w4_2 w4_3 F4 H locs ls I hi4 hm4 V hS hl
      refine lv_iload_n hx hb dX6_remove_4 rfl (lv_at hl 3 rfl) ?_
      refine lv_aload_n hx hb dX6_remove_5 rfl (lv_at hl 0 rfl) ?_
      obtain ⟨v3_0, v3_1, hf3, hn3, t3_1⟩ := op5 I t_o0
      refine cG C9 V t_o0.1 hf3 rfl tC_lay5 0 (by decide) tCf_X6_17 (Or.inl rfl) rfl dX6_remove_6 ?_
      refine lv_icmp_ge (tgt := 52) hx hb dX6_remove_9 (by decide) (fun c4 => ?_) (fun c4 => ?_)
      · refine lv_aload_n hx hb dX6_remove_52 rfl (lv_at hl 0 rfl) ?_
        refine lv_iload_n hx hb dX6_remove_53 rfl (lv_at hl 2 rfl) ?_
        refine cP (v := .int w4_2) (ty := .int) C9 V hS t_o0.1 hf3 rfl tC_lay5 tyX6 tyX6_ok nmX6 0 (by decide) tCf_X6_17 rfl rfl (by decide +kernel) rfl rfl (Nat.le_of_ble_eq_true rfl) dX6_remove_54 (fun f5 H locs ef5 V hS => ?_)
        have hf6 : f5 o0 = .inr (5, [.int w4_2, .ref v3_1]) := up_s ef5
        have hn7 := rm_8 hi4
        have I := cI_up I t_o0.2 ef5 (mk5 hn7 t3_1)
        exact cRetV C9 hr hlk hN hNs V I hS (rfl) dX6_remove_57
      · refine lv_iload_n hx hb dX6_remove_12 rfl (lv_at hl 3 rfl) ?_
        refine lv_aload_n hx hb dX6_remove_13 rfl (lv_at hl 0 rfl) ?_
        refine cG C9 V t_o0.1 hf3 rfl tC_lay5 1 (by decide) tCf_X6_11 (Or.inl rfl) rfl dX6_remove_14 ?_
        obtain ⟨g8, hf8, hg8⟩ := op13 I t3_1
        refine cAl (t0 := 2) (v := 8) C9 V t3_1.1 hf8 rfl (by first | rfl | decide) dX6_remove_17 ?_
        refine lv_icmp_ge (tgt := 52) hx hb dX6_remove_18 (by decide) (fun c9 => ?_) (fun c9 => ?_)
        · refine lv_aload_n hx hb dX6_remove_52 rfl (lv_at hl 0 rfl) ?_
          refine lv_iload_n hx hb dX6_remove_53 rfl (lv_at hl 2 rfl) ?_
          refine cP (v := .int w4_2) (ty := .int) C9 V hS t_o0.1 hf3 rfl tC_lay5 tyX6 tyX6_ok nmX6 0 (by decide) tCf_X6_17 rfl rfl (by decide +kernel) rfl rfl (Nat.le_of_ble_eq_true rfl) dX6_remove_54 (fun f10 H locs ef10 V hS => ?_)
          have hf11 : f10 o0 = .inr (5, [.int w4_2, .ref v3_1]) := up_s ef10
          have hn12 := rm_8 hi4
          have I := cI_up I t_o0.2 ef10 (mk5 hn12 t3_1)
          have hf13 := up_n ef10 t_o0.2 t3_1.2 (by first | decide | omega) hf8
          exact cRetV C9 hr hlk hN hNs V I hS (rfl) dX6_remove_57
        · refine lv_aload_n hx hb dX6_remove_21 rfl (lv_at hl 0 rfl) ?_
          refine cG C9 V t_o0.1 hf3 rfl tC_lay5 1 (by decide) tCf_X6_11 (Or.inl rfl) rfl dX6_remove_22 ?_
          refine lv_iload_n hx hb dX6_remove_25 rfl (lv_at hl 3 rfl) ?_
          refine cLr (t0 := 2) C9 V t3_1.1 hf8 rfl (cvin (N := 8) rfl (rm_0 hi4) (ci_lt c9)) dX6_remove_26 ?_
          obtain ⟨r14, er14⟩ : ∃ z, z = g8 (Int32.toNatClampNeg w4_3) := ⟨_, rfl⟩
          rw [← er14]
          have tr14 : tyO τ L r14 7 := by rw [er14]; exact hg8 _
          rcases r14 with _ | y15
          · refine W.eq (g2 := F0 m 27 ls [.null]) rfl ?_
            refine lv_aload_n hx hb dX6_remove_27 rfl (lv_at hl 1 rfl) ?_
            refine lv_acmp_eq (rx := none) (ry := (some o1)) (tgt := 46) hx hb dX6_remove_28 (by decide) (fun c16 => ?_) (fun c16 => ?_)
            · obtain ⟨x17, ex17⟩ : ∃ y : Int32, y = w4_3 + (1) := ⟨_, rfl⟩
              refine lv_iinc (v := x17) (lv' := [(3, .int x17), (0, .ref o0), (1, .ref o1), (2, .int w4_2)]) hx hb dX6_remove_46 hl (k := 3) rfl (by rw [ex17]; rfl) (by decide) rfl (fun ls hl => ?_)
              refine lv_goto (tgt := 4) hx hb dX6_remove_49 (by decide) ?_
              exact ih4 w4_2 x17 F4 _ _ _ I (by clear V hS hl C9 hts hown hx hb hml hr hlk; first | exact rm_k hi4 nope9 ex17 (ci_lt c9) | exact rm_s hi4 ex17 (ci_lt c9)) (cmsd hm4 (ca_dec ex17 (rm_0 hi4) (ci_lt c9)).1 (ca_dec ex17 (rm_0 hi4) (ci_lt c9)).2) V hS (lv_sub hl [1, 2, 3, 0] rfl)
            · refine lv_aload_n hx hb dX6_remove_31 rfl (lv_at hl 0 rfl) ?_
              refine cG C9 V t_o0.1 hf3 rfl tC_lay5 1 (by decide) tCf_X6_11 (Or.inl rfl) rfl dX6_remove_32 ?_
              refine lv_iload_n hx hb dX6_remove_35 rfl (lv_at hl 2 rfl) ?_
              refine lv_aload_n hx hb dX6_remove_36 rfl (lv_at hl 0 rfl) ?_
              refine cG C9 V t_o0.1 hf3 rfl tC_lay5 1 (by decide) tCf_X6_11 (Or.inl rfl) rfl dX6_remove_37 ?_
              refine lv_iload_n hx hb dX6_remove_40 rfl (lv_at hl 3 rfl) ?_
              refine cLr (t0 := 2) C9 V t3_1.1 hf8 rfl (cvin (N := 8) rfl (rm_0 hi4) (ci_lt c9)) dX6_remove_41 ?_
              obtain ⟨r18, er18⟩ : ∃ z, z = g8 (Int32.toNatClampNeg w4_3) := ⟨_, rfl⟩
              rw [← er18]
              have tr18 : tyO τ L r18 7 := by rw [er18]; exact hg8 _
              rcases r18 with _ | y19
              · refine W.eq (g2 := F0 m 42 ls [.null, .int w4_2, .ref v3_1]) rfl ?_
                refine cSn (t0 := 2) C9 V hS t3_1.1 hf8 rfl (cvin (N := 8) rfl (hi4.1) (rm_1 hi4 (ci_lt c9))) dX6_remove_42 (fun f20 H locs ef20 V hS => ?_)
                have hgg21 := tyO_up (i := Int32.toNatClampNeg w4_2) (v := none) hg8 tyO_n
                obtain ⟨g21, eg21⟩ : ∃ z, z = va_up g8 (Int32.toNatClampNeg w4_2) none := ⟨_, rfl⟩
                rw [← eg21] at ef20 hgg21
                have hf22 := up_s ef20
                have I := cI_up I t3_1.2 ef20 (mk13 hgg21)
                have hf23 := up_n ef20 t3_1.2 t_o0.2 (by first | decide | omega) hf3
                obtain ⟨x24, ex24⟩ : ∃ y : Int32, y = w4_2 + (1) := ⟨_, rfl⟩
                refine lv_iinc (v := x24) (lv' := [(2, .int x24), (0, .ref o0), (1, .ref o1), (3, .int w4_3)]) hx hb dX6_remove_43 hl (k := 2) rfl (by rw [ex24]; rfl) (by decide) rfl (fun ls hl => ?_)
                obtain ⟨x25, ex25⟩ : ∃ y : Int32, y = w4_3 + (1) := ⟨_, rfl⟩
                refine lv_iinc (v := x25) (lv' := [(3, .int x25), (2, .int x24), (0, .ref o0), (1, .ref o1)]) hx hb dX6_remove_46 hl (k := 3) rfl (by rw [ex25]; rfl) (by decide) rfl (fun ls hl => ?_)
                refine lv_goto (tgt := 4) hx hb dX6_remove_49 (by decide) ?_
                exact ih4 x24 x25 f20 _ _ _ I (by clear V hS hl C9 hts hown hx hb hml hr hlk; first | exact rm_k hi4 ex24 ex25 (ci_lt c9) | exact rm_s hi4 ex25 (ci_lt c9)) (cmsd hm4 (ca_dec ex25 (rm_0 hi4) (ci_lt c9)).1 (ca_dec ex25 (rm_0 hi4) (ci_lt c9)).2) V hS (lv_sub hl [2, 3, 1, 0] rfl)
              · have hy19 := tr18 y19 rfl
                refine W.eq (g2 := F0 m 42 ls [.ref y19, .int w4_2, .ref v3_1]) rfl ?_
                obtain ⟨v27_0, v27_1, v27_2, v27_3, v27_4, v27_5, v27_6, v27_7, v27_8, v27_9, v27_10, v27_11, v27_12, hf27, t27_7, t27_8, t27_11⟩ := op7 I hy19
                refine cSr C9 V hS t3_1.1 hf8 hy19.1 hf27 (cvin (N := 8) rfl (hi4.1) (rm_1 hi4 (ci_lt c9))) dX6_remove_42 (fun f26 H locs ef26 V hS => ?_)
                have hgg28 := tyO_up (i := Int32.toNatClampNeg w4_2) hg8 (tyO_s hy19)
                obtain ⟨g28, eg28⟩ : ∃ z, z = va_up g8 (Int32.toNatClampNeg w4_2) (some y19) := ⟨_, rfl⟩
                rw [← eg28] at ef26 hgg28
                have hf29 := up_s ef26
                have I := cI_up I t3_1.2 ef26 (mk13 hgg28)
                have hf30 := up_n ef26 t3_1.2 t_o0.2 (by first | decide | omega) hf3
                have hf31 := up_n ef26 t3_1.2 hy19.2 (by first | decide | omega) hf27
                obtain ⟨x32, ex32⟩ : ∃ y : Int32, y = w4_2 + (1) := ⟨_, rfl⟩
                refine lv_iinc (v := x32) (lv' := [(2, .int x32), (0, .ref o0), (1, .ref o1), (3, .int w4_3)]) hx hb dX6_remove_43 hl (k := 2) rfl (by rw [ex32]; rfl) (by decide) rfl (fun ls hl => ?_)
                obtain ⟨x33, ex33⟩ : ∃ y : Int32, y = w4_3 + (1) := ⟨_, rfl⟩
                refine lv_iinc (v := x33) (lv' := [(3, .int x33), (2, .int x32), (0, .ref o0), (1, .ref o1)]) hx hb dX6_remove_46 hl (k := 3) rfl (by rw [ex33]; rfl) (by decide) rfl (fun ls hl => ?_)
                refine lv_goto (tgt := 4) hx hb dX6_remove_49 (by decide) ?_
                exact ih4 x32 x33 f26 _ _ _ I (by clear V hS hl C9 hts hown hx hb hml hr hlk; first | exact rm_k hi4 ex32 ex33 (ci_lt c9) | exact rm_s hi4 ex33 (ci_lt c9)) (cmsd hm4 (ca_dec ex33 (rm_0 hi4) (ci_lt c9)).1 (ca_dec ex33 (rm_0 hi4) (ci_lt c9)).2) V hS (lv_sub hl [2, 3, 1, 0] rfl)
          · have hy15 := tr14 y15 rfl
            refine W.eq (g2 := F0 m 27 ls [.ref y15]) rfl ?_
            refine lv_aload_n hx hb dX6_remove_27 rfl (lv_at hl 1 rfl) ?_
            refine lv_acmp_eq (rx := (some y15)) (ry := (some o1)) (tgt := 46) hx hb dX6_remove_28 (by decide) (fun c34 => ?_) (fun c34 => ?_)
            · obtain ⟨x35, ex35⟩ : ∃ y : Int32, y = w4_3 + (1) := ⟨_, rfl⟩
              refine lv_iinc (v := x35) (lv' := [(3, .int x35), (0, .ref o0), (1, .ref o1), (2, .int w4_2)]) hx hb dX6_remove_46 hl (k := 3) rfl (by rw [ex35]; rfl) (by decide) rfl (fun ls hl => ?_)
              refine lv_goto (tgt := 4) hx hb dX6_remove_49 (by decide) ?_
              exact ih4 w4_2 x35 F4 _ _ _ I (by clear V hS hl C9 hts hown hx hb hml hr hlk; first | exact rm_k hi4 nope9 ex35 (ci_lt c9) | exact rm_s hi4 ex35 (ci_lt c9)) (cmsd hm4 (ca_dec ex35 (rm_0 hi4) (ci_lt c9)).1 (ca_dec ex35 (rm_0 hi4) (ci_lt c9)).2) V hS (lv_sub hl [1, 2, 3, 0] rfl)
            · refine lv_aload_n hx hb dX6_remove_31 rfl (lv_at hl 0 rfl) ?_
              refine cG C9 V t_o0.1 hf3 rfl tC_lay5 1 (by decide) tCf_X6_11 (Or.inl rfl) rfl dX6_remove_32 ?_
              refine lv_iload_n hx hb dX6_remove_35 rfl (lv_at hl 2 rfl) ?_
              refine lv_aload_n hx hb dX6_remove_36 rfl (lv_at hl 0 rfl) ?_
              refine cG C9 V t_o0.1 hf3 rfl tC_lay5 1 (by decide) tCf_X6_11 (Or.inl rfl) rfl dX6_remove_37 ?_
              refine lv_iload_n hx hb dX6_remove_40 rfl (lv_at hl 3 rfl) ?_
              refine cLr (t0 := 2) C9 V t3_1.1 hf8 rfl (cvin (N := 8) rfl (rm_0 hi4) (ci_lt c9)) dX6_remove_41 ?_
              obtain ⟨r36, er36⟩ : ∃ z, z = g8 (Int32.toNatClampNeg w4_3) := ⟨_, rfl⟩
              rw [← er36]
              have tr36 : tyO τ L r36 7 := by rw [er36]; exact hg8 _
              rcases r36 with _ | y37
              · refine W.eq (g2 := F0 m 42 ls [.null, .int w4_2, .ref v3_1]) rfl ?_
                refine cSn (t0 := 2) C9 V hS t3_1.1 hf8 rfl (cvin (N := 8) rfl (hi4.1) (rm_1 hi4 (ci_lt c9))) dX6_remove_42 (fun f38 H locs ef38 V hS => ?_)
                have hgg39 := tyO_up (i := Int32.toNatClampNeg w4_2) (v := none) hg8 tyO_n
                obtain ⟨g39, eg39⟩ : ∃ z, z = va_up g8 (Int32.toNatClampNeg w4_2) none := ⟨_, rfl⟩
                rw [← eg39] at ef38 hgg39
                have hf40 := up_s ef38
                have I := cI_up I t3_1.2 ef38 (mk13 hgg39)
                have hf41 := up_n ef38 t3_1.2 t_o0.2 (by first | decide | omega) hf3
                obtain ⟨x42, ex42⟩ : ∃ y : Int32, y = w4_2 + (1) := ⟨_, rfl⟩
                refine lv_iinc (v := x42) (lv' := [(2, .int x42), (0, .ref o0), (1, .ref o1), (3, .int w4_3)]) hx hb dX6_remove_43 hl (k := 2) rfl (by rw [ex42]; rfl) (by decide) rfl (fun ls hl => ?_)
                obtain ⟨x43, ex43⟩ : ∃ y : Int32, y = w4_3 + (1) := ⟨_, rfl⟩
                refine lv_iinc (v := x43) (lv' := [(3, .int x43), (2, .int x42), (0, .ref o0), (1, .ref o1)]) hx hb dX6_remove_46 hl (k := 3) rfl (by rw [ex43]; rfl) (by decide) rfl (fun ls hl => ?_)
                refine lv_goto (tgt := 4) hx hb dX6_remove_49 (by decide) ?_
                exact ih4 x42 x43 f38 _ _ _ I (by clear V hS hl C9 hts hown hx hb hml hr hlk; first | exact rm_k hi4 ex42 ex43 (ci_lt c9) | exact rm_s hi4 ex43 (ci_lt c9)) (cmsd hm4 (ca_dec ex43 (rm_0 hi4) (ci_lt c9)).1 (ca_dec ex43 (rm_0 hi4) (ci_lt c9)).2) V hS (lv_sub hl [2, 3, 1, 0] rfl)
              · have hy37 := tr36 y37 rfl
                refine W.eq (g2 := F0 m 42 ls [.ref y37, .int w4_2, .ref v3_1]) rfl ?_
                obtain ⟨v45_0, v45_1, v45_2, v45_3, v45_4, v45_5, v45_6, v45_7, v45_8, v45_9, v45_10, v45_11, v45_12, hf45, t45_7, t45_8, t45_11⟩ := op7 I hy37
                refine cSr C9 V hS t3_1.1 hf8 hy37.1 hf45 (cvin (N := 8) rfl (hi4.1) (rm_1 hi4 (ci_lt c9))) dX6_remove_42 (fun f44 H locs ef44 V hS => ?_)
                have hgg46 := tyO_up (i := Int32.toNatClampNeg w4_2) hg8 (tyO_s hy37)
                obtain ⟨g46, eg46⟩ : ∃ z, z = va_up g8 (Int32.toNatClampNeg w4_2) (some y37) := ⟨_, rfl⟩
                rw [← eg46] at ef44 hgg46
                have hf47 := up_s ef44
                have I := cI_up I t3_1.2 ef44 (mk13 hgg46)
                have hf48 := up_n ef44 t3_1.2 t_o0.2 (by first | decide | omega) hf3
                have hf49 := up_n ef44 t3_1.2 hy37.2 (by first | decide | omega) hf45
                obtain ⟨x50, ex50⟩ : ∃ y : Int32, y = w4_2 + (1) := ⟨_, rfl⟩
                refine lv_iinc (v := x50) (lv' := [(2, .int x50), (0, .ref o0), (1, .ref o1), (3, .int w4_3)]) hx hb dX6_remove_43 hl (k := 2) rfl (by rw [ex50]; rfl) (by decide) rfl (fun ls hl => ?_)
                obtain ⟨x51, ex51⟩ : ∃ y : Int32, y = w4_3 + (1) := ⟨_, rfl⟩
                refine lv_iinc (v := x51) (lv' := [(3, .int x51), (2, .int x50), (0, .ref o0), (1, .ref o1)]) hx hb dX6_remove_46 hl (k := 3) rfl (by rw [ex51]; rfl) (by decide) rfl (fun ls hl => ?_)
                refine lv_goto (tgt := 4) hx hb dX6_remove_49 (by decide) ?_
                exact ih4 x50 x51 f44 _ _ _ I (by clear V hS hl C9 hts hown hx hb hml hr hlk; first | exact rm_k hi4 ex50 ex51 (ci_lt c9) | exact rm_s hi4 ex51 (ci_lt c9)) (cmsd hm4 (ca_dec ex51 (rm_0 hi4) (ci_lt c9)).1 (ca_dec ex51 (rm_0 hi4) (ci_lt c9)).2) V hS (lv_sub hl [2, 3, 1, 0] rfl)
  exact loop4 _ x1 x2 f _ _ _ I (by clear V hS hl C9 hts hown hx hb hml hr hlk; subst_vars; decide) (Nat.lt_succ_self _) V hS (lv_sub hl [2, 3, 1, 0] rfl)
set_option maxHeartbeats 200000 in
set_option maxRecDepth 100000 in
theorem c_X8_codeAt (l : Launch) (D : va_G) (ks : kS) (τ : Nat → Nat) (L : List Nat) (A : Nat → Prop) (N : State → Prop) (hN : cNk A N) (ψ : Int32) (f : Nat → va_E) (o0 : Nat) (i1 : Int32) (t_o0 : ty τ L o0 7) : Met l yX8_codeAt (Cond.code yX8_codeAt cX8_codeAt 3 (some .int) :: tC) ({ frames := 0, cells := 0, slots := 0, locals := 0 }) (va_Pc [.ref o0, .int i1] (cB D ks τ L A N (ψ, f))) (va_Qi (fun r9 x9 => x9.1 = ψ) (cB D ks τ L A N) A) 0 0 A := by
  refine cMet (own := RX8) (by decide) rfl (Nat.le_of_ble_eq_true rfl) ?_
  intro p e s m below meth c ls C9 hml hr hlk V I hNs hl
  have hx := C9.1
  have hb := C9.2.1
  have hown := C9.2.2.1
  have hts := C9.2.2.2.1
  have hS : va_S A s.heap s.heap [] := va_S.rf
  have hl : lv_has ls 3 [(0, .ref o0), (1, .int i1)] := hl
  refine lv_aload_n hx hb dX8_codeAt_0 rfl (lv_at hl 0 rfl) ?_
  obtain ⟨v1_0, v1_1, v1_2, v1_3, v1_4, v1_5, v1_6, v1_7, v1_8, v1_9, v1_10, v1_11, v1_12, hf1, t1_7, t1_8, t1_11⟩ := op7 I t_o0
  refine cG C9 V t_o0.1 hf1 rfl tC_lay7 3 (by decide) tCf_X8_28 (Or.inl rfl) rfl dX8_codeAt_1 ?_
  refine lv_iconst (v := 4) hx hb dX8_codeAt_4 (by decide) ?_
  refine lv_imul hx hb dX8_codeAt_5 ?_
  refine lv_iload_n hx hb dX8_codeAt_6 rfl (lv_at hl 1 rfl) ?_
  refine lv_iadd hx hb dX8_codeAt_7 ?_
  refine lv_topi (fun x2 ex2 => ?_)
  refine lv_istore_n (lv' := [(2, .int x2), (0, .ref o0), (1, .int i1)]) hx hb dX8_codeAt_8 rfl hl (by decide) rfl (fun ls hl => ?_)
  refine lv_iload_n hx hb dX8_codeAt_9 rfl (lv_at hl 0 rfl) ?_
  refine lv_if_lt (tgt := 31) hx hb dX8_codeAt_10 (by decide) (fun c3 => ?_) (fun c3 => ?_)
  · refine lv_iconst (v := 0) hx hb dX8_codeAt_31 (by decide) ?_
    exact cRetI C9 hr hlk hN hNs V I hS (rfl) dX8_codeAt_32
  · refine lv_iload_n hx hb dX8_codeAt_13 rfl (lv_at hl 0 rfl) ?_
    refine lv_aload_n hx hb dX8_codeAt_14 rfl (lv_at hl 1 rfl) ?_
    refine cG C9 V t_o0.1 hf1 rfl tC_lay7 11 (by decide) tCf_X8_9 (Or.inl rfl) rfl dX8_codeAt_15 ?_
    obtain ⟨g4, hf4⟩ := op12 I t1_11
    refine cAl (t0 := 1) (v := 240) C9 V t1_11.1 hf4 rfl (by first | rfl | decide) dX8_codeAt_18 ?_
    refine lv_icmp_ge (tgt := 31) hx hb dX8_codeAt_19 (by decide) (fun c5 => ?_) (fun c5 => ?_)
    · refine lv_iconst (v := 0) hx hb dX8_codeAt_31 (by decide) ?_
      exact cRetI C9 hr hlk hN hNs V I hS (rfl) dX8_codeAt_32
    · refine lv_aload_n hx hb dX8_codeAt_22 rfl (lv_at hl 1 rfl) ?_
      refine cG C9 V t_o0.1 hf1 rfl tC_lay7 11 (by decide) tCf_X8_9 (Or.inl rfl) rfl dX8_codeAt_23 ?_
      refine lv_iload_n hx hb dX8_codeAt_26 rfl (lv_at hl 0 rfl) ?_
      refine cLi C9 V t1_11.1 hf4 (cvin (N := 240) rfl (ci_le c3) (ci_lt c5)) dX8_codeAt_27 ?_
      refine lv_topi (fun x6 ex6 => ?_)
      refine lv_goto (tgt := 32) hx hb dX8_codeAt_28 (by decide) ?_
      exact cRetI C9 hr hlk hN hNs V I hS (rfl) dX8_codeAt_32
set_option maxHeartbeats 200000 in
set_option maxRecDepth 100000 in
theorem c_X8_operand (l : Launch) (D : va_G) (ks : kS) (τ : Nat → Nat) (L : List Nat) (A : Nat → Prop) (N : State → Prop) (hN : cNk A N) (ψ : Int32) (f : Nat → va_E) (o0 : Nat) (i1 : Int32) (t_o0 : ty τ L o0 7) : Met l yX8_operand (Cond.code yX8_operand cX8_operand 2 (some .int) :: tC) ({ frames := 1, cells := 0, slots := 0, locals := 22 }) (va_Pc [.ref o0, .int i1] (cB D ks τ L A N (ψ, f))) (va_Qi (fun r9 x9 => x9.1 = ψ) (cB D ks τ L A N) A) 0 0 A := by
  refine cMet (own := RX8) (by decide) rfl (Nat.le_of_ble_eq_true rfl) ?_
  intro p e s m below meth c ls C9 hml hr hlk V I hNs hl
  have hx := C9.1
  have hb := C9.2.1
  have hown := C9.2.2.1
  have hts := C9.2.2.2.1
  have hS : va_S A s.heap s.heap [] := va_S.rf
  have hl : lv_has ls 2 [(0, .ref o0), (1, .int i1)] := hl
  refine lv_aload_n hx hb dX8_operand_0 rfl (lv_at hl 0 rfl) ?_
  refine lv_iconst (v := 1) hx hb dX8_operand_1 (by decide) ?_
  refine lv_iload_n hx hb dX8_operand_2 rfl (lv_at hl 1 rfl) ?_
  refine lv_iadd hx hb dX8_operand_3 ?_
  obtain ⟨v1_0, v1_1, v1_2, v1_3, v1_4, v1_5, v1_6, v1_7, v1_8, v1_9, v1_10, v1_11, v1_12, hf1, t1_7, t1_8, t1_11⟩ := op7 I t_o0
  refine cGoI (cRunV (As := [.int (1 + i1)]) (rest := []) C9 hml hN hNs V I hS t_o0.1 hf1 rfl (c_X8_codeAt l D ks τ L A N hN ψ f o0 (1 + i1) t_o0 ) gC_X8_38 okC_X8_codeAt ⟨rfl, rfl, Nat.le_of_ble_eq_true rfl, Nat.le_of_ble_eq_true rfl⟩ hl.1 rfl (Nat.le_of_ble_eq_true rfl) dX8_operand_4 ⟨Nat.zero_le _, Nat.zero_le _⟩) hS (fun r4 p3 f2 H locs hqf2 V I hS => ?_)
  have I : cI ks τ L ψ f2 := by rw [show p3 = ψ from hqf2] at I; exact I
  exact cRetI C9 hr hlk hN hNs V I hS (rfl) dX8_operand_7
end
section
set_option maxHeartbeats 200000 in
set_option maxRecDepth 100000 in
theorem c_X8_goOn (l : Launch) (D : va_G) (ks : kS) (τ : Nat → Nat) (L : List Nat) (A : Nat → Prop) (N : State → Prop) (hN : cNk A N) (ψ : Int32) (f : Nat → va_E) (o0 : Nat) (t_o0 : ty τ L o0 7) : Met l yX8_goOn (Cond.code yX8_goOn cX8_goOn 1 none :: tC) ({ frames := 1, cells := 0, slots := 0, locals := 23 }) (va_Pc [.ref o0] (cB D ks τ L A N (ψ, f))) (va_Qv (fun x9 => x9.1 = ψ) (cB D ks τ L A N) A) 0 0 A := by
  refine cMet (own := RX8) (by decide) rfl (Nat.le_of_ble_eq_true rfl) ?_
  intro p e s m below meth c ls C9 hml hr hlk V I hNs hl
  have hx := C9.1
  have hb := C9.2.1
  have hown := C9.2.2.1
  have hts := C9.2.2.2.1
  have hS : va_S A s.heap s.heap [] := va_S.rf
  have hl : lv_has ls 1 [(0, .ref o0)] := hl
  refine lv_aload_n hx hb dX8_goOn_0 rfl (lv_at hl 0 rfl) ?_
  obtain ⟨v1_0, v1_1, v1_2, v1_3, v1_4, v1_5, v1_6, v1_7, v1_8, v1_9, v1_10, v1_11, v1_12, hf1, t1_7, t1_8, t1_11⟩ := op7 I t_o0
  refine cG C9 V t_o0.1 hf1 rfl tC_lay7 8 (by decide) tCf_X8_52 (Or.inl rfl) rfl dX8_goOn_1 ?_
  rcases v1_8 with _ | y2
  · refine W.eq (g2 := F0 m 4 ls [.null]) rfl ?_
    refine lv_ifnullN (tgt := 15) hx hb dX8_goOn_4 (by decide) ?_
    refine lv_aload_n hx hb dX8_goOn_15 rfl (lv_at hl 0 rfl) ?_
    refine lv_null hx hb dX8_goOn_16 ?_
    refine cP (v := va_rf none) (ty := .object "TurnKeeper$Row") C9 V hS t_o0.1 hf1 rfl tC_lay7 tyX8 tyX8_ok nmX8 8 (by decide) tCf_X8_52 rfl rfl (by decide +kernel) rfl rfl (Nat.le_of_ble_eq_true rfl) dX8_goOn_17 (fun f3 H locs ef3 V hS => ?_)
    have hf4 : f3 o0 = .inr (7, [.int v1_0, .int v1_1, .int v1_2, .int v1_3, .int v1_4, .int v1_5, .long v1_6, va_rf v1_7, va_rf none, .int v1_9, .int v1_10, .ref v1_11, .int v1_12]) := up_s ef3
    have I := cI_up I t_o0.2 ef3 (mk7 t1_7 tyO_n t1_11)
    refine lv_aload_n hx hb dX8_goOn_20 rfl (lv_at hl 0 rfl) ?_
    refine lv_null hx hb dX8_goOn_21 ?_
    refine cP (v := va_rf none) (ty := .object "TurnKeeper$Sync") C9 V hS t_o0.1 hf4 rfl tC_lay7 tyX8 tyX8_ok nmX8 7 (by decide) tCf_X8_62 rfl rfl (by decide +kernel) rfl rfl (Nat.le_of_ble_eq_true rfl) dX8_goOn_22 (fun f5 H locs ef5 V hS => ?_)
    have hf6 : f5 o0 = .inr (7, [.int v1_0, .int v1_1, .int v1_2, .int v1_3, .int v1_4, .int v1_5, .long v1_6, va_rf none, va_rf none, .int v1_9, .int v1_10, .ref v1_11, .int v1_12]) := up_s ef5
    have I := cI_up I t_o0.2 ef5 (mk7 tySO_n tyO_n t1_11)
    refine lv_aload_n hx hb dX8_goOn_25 rfl (lv_at hl 0 rfl) ?_
    refine lv_aload_n hx hb dX8_goOn_26 rfl (lv_at hl 0 rfl) ?_
    refine cG C9 V t_o0.1 hf6 rfl tC_lay7 3 (by decide) tCf_X8_28 (Or.inl rfl) rfl dX8_goOn_27 ?_
    refine lv_iconst (v := 1) hx hb dX8_goOn_30 (by decide) ?_
    refine lv_iadd hx hb dX8_goOn_31 ?_
    refine cGoV (cRunV (As := [.int (v1_3 + 1)]) (rest := []) C9 hml hN hNs V I hS t_o0.1 hf6 rfl (c_X8_goTo l D ks τ L A N hN ψ f5 o0 (v1_3 + 1) t_o0 ) gC_X8_66 okC_X8_goTo ⟨rfl, rfl, Nat.le_of_ble_eq_true rfl, Nat.le_of_ble_eq_true rfl⟩ hl.1 rfl (Nat.le_of_ble_eq_true rfl) dX8_goOn_32 ⟨Nat.zero_le _, Nat.zero_le _⟩) hS (fun p8 f7 H locs hqf7 V I hS => ?_)
    have I : cI ks τ L ψ f7 := by rw [show p8 = ψ from hqf7] at I; exact I
    exact cRetV C9 hr hlk hN hNs V I hS (rfl) dX8_goOn_35
  · have hy2 := t1_8 y2 rfl
    refine W.eq (g2 := F0 m 4 ls [.ref y2]) rfl ?_
    refine lv_ifnull hx hb dX8_goOn_4 ?_
    refine lv_aload_n hx hb dX8_goOn_7 rfl (lv_at hl 0 rfl) ?_
    refine cG C9 V t_o0.1 hf1 rfl tC_lay7 8 (by decide) tCf_X8_52 (Or.inl rfl) rfl dX8_goOn_8 ?_
    refine W.eq (g2 := F0 m 11 ls [.ref y2]) rfl ?_
    refine lv_aload_n hx hb dX8_goOn_11 rfl (lv_at hl 0 rfl) ?_
    obtain ⟨v10_0, v10_1, hf10, hn10, t10_1⟩ := op5 I hy2
    refine cGoV (cRunV (As := [.ref o0]) (rest := []) C9 hml hN hNs V I hS hy2.1 hf10 rfl (c_X6_remove l D ks τ L A N hN ψ f y2 o0 hy2 t_o0 ) gC_X8_56 okC_X6_remove ⟨rfl, rfl, Nat.le_of_ble_eq_true rfl, Nat.le_of_ble_eq_true rfl⟩ hl.1 rfl (Nat.le_of_ble_eq_true rfl) dX8_goOn_12 ⟨Nat.zero_le _, Nat.zero_le _⟩) hS (fun p12 f11 H locs hqf11 V I hS => ?_)
    have I : cI ks τ L ψ f11 := by rw [show p12 = ψ from hqf11] at I; exact I
    refine lv_aload_n hx hb dX8_goOn_15 rfl (lv_at hl 0 rfl) ?_
    refine lv_null hx hb dX8_goOn_16 ?_
    obtain ⟨v14_0, v14_1, v14_2, v14_3, v14_4, v14_5, v14_6, v14_7, v14_8, v14_9, v14_10, v14_11, v14_12, hf14, t14_7, t14_8, t14_11⟩ := op7 I t_o0
    refine cP (v := va_rf none) (ty := .object "TurnKeeper$Row") C9 V hS t_o0.1 hf14 rfl tC_lay7 tyX8 tyX8_ok nmX8 8 (by decide) tCf_X8_52 rfl rfl (by decide +kernel) rfl rfl (Nat.le_of_ble_eq_true rfl) dX8_goOn_17 (fun f15 H locs ef15 V hS => ?_)
    have hf16 : f15 o0 = .inr (7, [.int v14_0, .int v14_1, .int v14_2, .int v14_3, .int v14_4, .int v14_5, .long v14_6, va_rf v14_7, va_rf none, .int v14_9, .int v14_10, .ref v14_11, .int v14_12]) := up_s ef15
    have I := cI_up I t_o0.2 ef15 (mk7 t14_7 tyO_n t14_11)
    refine lv_aload_n hx hb dX8_goOn_20 rfl (lv_at hl 0 rfl) ?_
    refine lv_null hx hb dX8_goOn_21 ?_
    refine cP (v := va_rf none) (ty := .object "TurnKeeper$Sync") C9 V hS t_o0.1 hf16 rfl tC_lay7 tyX8 tyX8_ok nmX8 7 (by decide) tCf_X8_62 rfl rfl (by decide +kernel) rfl rfl (Nat.le_of_ble_eq_true rfl) dX8_goOn_22 (fun f17 H locs ef17 V hS => ?_)
    have hf18 : f17 o0 = .inr (7, [.int v14_0, .int v14_1, .int v14_2, .int v14_3, .int v14_4, .int v14_5, .long v14_6, va_rf none, va_rf none, .int v14_9, .int v14_10, .ref v14_11, .int v14_12]) := up_s ef17
    have I := cI_up I t_o0.2 ef17 (mk7 tySO_n tyO_n t14_11)
    refine lv_aload_n hx hb dX8_goOn_25 rfl (lv_at hl 0 rfl) ?_
    refine lv_aload_n hx hb dX8_goOn_26 rfl (lv_at hl 0 rfl) ?_
    refine cG C9 V t_o0.1 hf18 rfl tC_lay7 3 (by decide) tCf_X8_28 (Or.inl rfl) rfl dX8_goOn_27 ?_
    refine lv_iconst (v := 1) hx hb dX8_goOn_30 (by decide) ?_
    refine lv_iadd hx hb dX8_goOn_31 ?_
    refine cGoV (cRunV (As := [.int (v14_3 + 1)]) (rest := []) C9 hml hN hNs V I hS t_o0.1 hf18 rfl (c_X8_goTo l D ks τ L A N hN ψ f17 o0 (v14_3 + 1) t_o0 ) gC_X8_66 okC_X8_goTo ⟨rfl, rfl, Nat.le_of_ble_eq_true rfl, Nat.le_of_ble_eq_true rfl⟩ hl.1 rfl (Nat.le_of_ble_eq_true rfl) dX8_goOn_32 ⟨Nat.zero_le _, Nat.zero_le _⟩) hS (fun p20 f19 H locs hqf19 V I hS => ?_)
    have I : cI ks τ L ψ f19 := by rw [show p20 = ψ from hqf19] at I; exact I
    exact cRetV C9 hr hlk hN hNs V I hS (rfl) dX8_goOn_35
set_option maxHeartbeats 200000 in
set_option maxRecDepth 100000 in
theorem c_X8_goOnWith (l : Launch) (D : va_G) (ks : kS) (τ : Nat → Nat) (L : List Nat) (A : Nat → Prop) (N : State → Prop) (hN : cNk A N) (ψ : Int32) (f : Nat → va_E) (o0 : Nat) (i1 : Int32) (t_o0 : ty τ L o0 7) : Met l yX8_goOnWith (Cond.code yX8_goOnWith cX8_goOnWith 2 none :: tC) ({ frames := 2, cells := 0, slots := 0, locals := 43 }) (va_Pc [.ref o0, .int i1] (cB D ks τ L A N (ψ, f))) (va_Qv (fun x9 => x9.1 = ψ) (cB D ks τ L A N) A) 0 0 A := by
  refine cMet (own := RX8) (by decide) rfl (Nat.le_of_ble_eq_true rfl) ?_
  intro p e s m below meth c ls C9 hml hr hlk V I hNs hl
  have hx := C9.1
  have hb := C9.2.1
  have hown := C9.2.2.1
  have hts := C9.2.2.2.1
  have hS : va_S A s.heap s.heap [] := va_S.rf
  have hl : lv_has ls 2 [(0, .ref o0), (1, .int i1)] := hl
  refine lv_aload_n hx hb dX8_goOnWith_0 rfl (lv_at hl 0 rfl) ?_
  refine lv_iload_n hx hb dX8_goOnWith_1 rfl (lv_at hl 1 rfl) ?_
  obtain ⟨v1_0, v1_1, v1_2, v1_3, v1_4, v1_5, v1_6, v1_7, v1_8, v1_9, v1_10, v1_11, v1_12, hf1, t1_7, t1_8, t1_11⟩ := op7 I t_o0
  refine cP (v := .int i1) (ty := .int) C9 V hS t_o0.1 hf1 rfl tC_lay7 tyX8 tyX8_ok nmX8 2 (by decide) tCf_X8_25 rfl rfl (by decide +kernel) rfl rfl (Nat.le_of_ble_eq_true rfl) dX8_goOnWith_2 (fun f2 H locs ef2 V hS => ?_)
  have hf3 : f2 o0 = .inr (7, [.int v1_0, .int v1_1, .int i1, .int v1_3, .int v1_4, .int v1_5, .long v1_6, va_rf v1_7, va_rf v1_8, .int v1_9, .int v1_10, .ref v1_11, .int v1_12]) := up_s ef2
  have I := cI_up I t_o0.2 ef2 (mk7 t1_7 t1_8 t1_11)
  refine lv_aload_n hx hb dX8_goOnWith_5 rfl (lv_at hl 0 rfl) ?_
  refine cGoV (cRunV (As := []) (rest := []) C9 hml hN hNs V I hS t_o0.1 hf3 rfl (c_X8_goOn l D ks τ L A N hN ψ f2 o0 t_o0 ) gC_X8_70 okC_X8_goOn ⟨rfl, rfl, Nat.le_of_ble_eq_true rfl, Nat.le_of_ble_eq_true rfl⟩ hl.1 rfl (Nat.le_of_ble_eq_true rfl) dX8_goOnWith_6 ⟨Nat.zero_le _, Nat.zero_le _⟩) hS (fun p5 f4 H locs hqf4 V I hS => ?_)
  have I : cI ks τ L ψ f4 := by rw [show p5 = ψ from hqf4] at I; exact I
  exact cRetV C9 hr hlk hN hNs V I hS (rfl) dX8_goOnWith_9
set_option maxHeartbeats 200000 in
set_option maxRecDepth 100000 in
theorem c_X8_refusesToWait (l : Launch) (D : va_G) (ks : kS) (τ : Nat → Nat) (L : List Nat) (A : Nat → Prop) (N : State → Prop) (hN : cNk A N) (ψ : Int32) (f : Nat → va_E) (o0 : Nat) (t_o0 : ty τ L o0 7) : Met l yX8_refusesToWait (Cond.code yX8_refusesToWait cX8_refusesToWait 1 (some .boolean) :: tC) ({ frames := 2, cells := 0, slots := 0, locals := 43 }) (va_Pc [.ref o0] (cB D ks τ L A N (ψ, f))) (va_Qi (fun r9 x9 => x9.1 = ψ) (cB D ks τ L A N) A) 0 0 A := by
  refine cMet (own := RX8) (by decide) rfl (Nat.le_of_ble_eq_true rfl) ?_
  intro p e s m below meth c ls C9 hml hr hlk V I hNs hl
  have hx := C9.1
  have hb := C9.2.1
  have hown := C9.2.2.1
  have hts := C9.2.2.2.1
  have hS : va_S A s.heap s.heap [] := va_S.rf
  have hl : lv_has ls 1 [(0, .ref o0)] := hl
  refine lv_aload_n hx hb dX8_refusesToWait_0 rfl (lv_at hl 0 rfl) ?_
  obtain ⟨v1_0, v1_1, v1_2, v1_3, v1_4, v1_5, v1_6, v1_7, v1_8, v1_9, v1_10, v1_11, v1_12, hf1, t1_7, t1_8, t1_11⟩ := op7 I t_o0
  refine cG C9 V t_o0.1 hf1 rfl tC_lay7 5 (by decide) tCf_X8_34 (Or.inl rfl) rfl dX8_refusesToWait_1 ?_
  refine lv_if_ne (tgt := 9) hx hb dX8_refusesToWait_4 (by decide) (fun c2 => ?_) (fun c2 => ?_)
  · refine lv_aload_n hx hb dX8_refusesToWait_9 rfl (lv_at hl 0 rfl) ?_
    refine lv_iconst (v := 0) hx hb dX8_refusesToWait_10 (by decide) ?_
    refine cP (v := .int 0) (ty := .boolean) C9 V hS t_o0.1 hf1 rfl tC_lay7 tyX8 tyX8_ok nmX8 5 (by decide) tCf_X8_34 rfl rfl (by decide +kernel) rfl rfl (Nat.le_of_ble_eq_true rfl) dX8_refusesToWait_11 (fun f3 H locs ef3 V hS => ?_)
    have hf4 : f3 o0 = .inr (7, [.int v1_0, .int v1_1, .int v1_2, .int v1_3, .int v1_4, .int 0, .long v1_6, va_rf v1_7, va_rf v1_8, .int v1_9, .int v1_10, .ref v1_11, .int v1_12]) := up_s ef3
    have I := cI_up I t_o0.2 ef3 (mk7 t1_7 t1_8 t1_11)
    refine lv_aload_n hx hb dX8_refusesToWait_14 rfl (lv_at hl 0 rfl) ?_
    refine lv_bipush (v := (-2)) hx hb dX8_refusesToWait_15 (by decide) ?_
    refine lv_topi (fun x5 ex5 => ?_)
    refine cP (v := .int x5) (ty := .int) C9 V hS t_o0.1 hf4 rfl tC_lay7 tyX8 tyX8_ok nmX8 2 (by decide) tCf_X8_25 rfl rfl (by decide +kernel) rfl rfl (Nat.le_of_ble_eq_true rfl) dX8_refusesToWait_17 (fun f6 H locs ef6 V hS => ?_)
    have hf7 : f6 o0 = .inr (7, [.int v1_0, .int v1_1, .int x5, .int v1_3, .int v1_4, .int 0, .long v1_6, va_rf v1_7, va_rf v1_8, .int v1_9, .int v1_10, .ref v1_11, .int v1_12]) := up_s ef6
    have I := cI_up I t_o0.2 ef6 (mk7 t1_7 t1_8 t1_11)
    refine lv_aload_n hx hb dX8_refusesToWait_20 rfl (lv_at hl 0 rfl) ?_
    refine cGoV (cRunV (As := []) (rest := []) C9 hml hN hNs V I hS t_o0.1 hf7 rfl (c_X8_goOn l D ks τ L A N hN ψ f6 o0 t_o0 ) gC_X8_70 okC_X8_goOn ⟨rfl, rfl, Nat.le_of_ble_eq_true rfl, Nat.le_of_ble_eq_true rfl⟩ hl.1 rfl (Nat.le_of_ble_eq_true rfl) dX8_refusesToWait_21 ⟨Nat.zero_le _, Nat.zero_le _⟩) hS (fun p9 f8 H locs hqf8 V I hS => ?_)
    have I : cI ks τ L ψ f8 := by rw [show p9 = ψ from hqf8] at I; exact I
    refine lv_iconst (v := 1) hx hb dX8_refusesToWait_24 (by decide) ?_
    exact cRetZ C9 hr hlk hN hNs V I hS (by clear V hS hl C9 hts hown hx hb hml hr hlk; first | rfl | decide | (subst_vars; rfl)) (rfl) dX8_refusesToWait_25
  · refine lv_iconst (v := 0) hx hb dX8_refusesToWait_7 (by decide) ?_
    exact cRetZ C9 hr hlk hN hNs V I hS (by clear V hS hl C9 hts hown hx hb hml hr hlk; first | rfl | decide | (subst_vars; rfl)) (rfl) dX8_refusesToWait_8
set_option maxHeartbeats 200000 in
set_option maxRecDepth 100000 in
theorem c_X8_start (l : Launch) (D : va_G) (ks : kS) (τ : Nat → Nat) (L : List Nat) (A : Nat → Prop) (N : State → Prop) (hN : cNk A N) (ψ : Int32) (f : Nat → va_E) (o0 : Nat) (o1 : Nat) (i1 : Int32) (t_o0 : ty τ L o0 7) (t_o1 : ty τ L o1 12) : Met l yX8_start (Cond.code yX8_start cX8_start 4 none :: tC) ({ frames := 0, cells := 0, slots := 0, locals := 0 }) (va_Pc [.ref o0, .ref o1, .int i1] (cB D ks τ L A N (ψ, f))) (va_Qv (fun x9 => x9.1 = ψ) (cB D ks τ L A N) A) 0 0 A := by
  refine cMet (own := RX8) (by decide) rfl (Nat.le_of_ble_eq_true rfl) ?_
  intro p e s m below meth c ls C9 hml hr hlk V I hNs hl
  have hx := C9.1
  have hb := C9.2.1
  have hown := C9.2.2.1
  have hts := C9.2.2.2.1
  have hS : va_S A s.heap s.heap [] := va_S.rf
  have hl : lv_has ls 4 [(0, .ref o0), (1, .ref o1), (2, .int i1)] := hl
  refine lv_iconst (v := 0) hx hb dX8_start_0 (by decide) ?_
  refine lv_topi (fun x1 ex1 => ?_)
  refine lv_istore_n (lv' := [(3, .int x1), (0, .ref o0), (1, .ref o1), (2, .int i1)]) hx hb dX8_start_1 rfl hl (by decide) rfl (fun ls hl => ?_)
  have loop2 : ∀ (N9 : Nat) (w2_3 : Int32) (F2 : Nat → va_E) (H : Heap) (locs : List Loc) (ls : Array Slot), cI ks τ L ψ F2 → (0 ≤ w2_3 ∧ w2_3 ≤ 240) → ((240 - w2_3).toInt.toNat) < N9 → cV D L F2 A H → va_S A s.heap H locs → lv_has ls 4 [(0, .ref o0), (1, .ref o1), (2, .int i1), (3, .int w2_3)] → W p l e ({ frames := 0, cells := 0, slots := 0, locals := 0 } : Room) s m ([.ref o0, .ref o1, .int i1] : List Value).toArray below meth c H locs 0 0 (MQ below (va_Qv (fun x9 => x9.1 = ψ) (cB D ks τ L A N) A) ([.ref o0, .ref o1, .int i1] : List Value).toArray s 0 0 A) (F0 m 2 ls []) := by
    intro N9
    induction N9 with
    | zero => intro w2_3 F2 H locs ls I hi2 hm2; exact absurd hm2 (Nat.not_lt_zero _)
    | succ N9 ih2 =>
      intro w2_3 F2 H locs ls I hi2 hm2 V hS hl
      refine lv_iload_n hx hb dX8_start_2 rfl (lv_at hl 3 rfl) ?_
      refine lv_aload_n hx hb dX8_start_3 rfl (lv_at hl 0 rfl) ?_
      obtain ⟨v2_0, v2_1, v2_2, v2_3, v2_4, v2_5, v2_6, v2_7, v2_8, v2_9, v2_10, v2_11, v2_12, hf2, t2_7, t2_8, t2_11⟩ := op7 I t_o0
      refine cG C9 V t_o0.1 hf2 rfl tC_lay7 11 (by decide) tCf_X8_9 (Or.inl rfl) rfl dX8_start_4 ?_
      obtain ⟨g3, hf3⟩ := op12 I t2_11
      refine cAl (t0 := 1) (v := 240) C9 V t2_11.1 hf3 rfl (by first | rfl | decide) dX8_start_7 ?_
      refine lv_icmp_ge (tgt := 32) hx hb dX8_start_8 (by decide) (fun c4 => ?_) (fun c4 => ?_)
      · refine lv_aload_n hx hb dX8_start_32 rfl (lv_at hl 0 rfl) ?_
        refine lv_iload_n hx hb dX8_start_33 rfl (lv_at hl 2 rfl) ?_
        refine cP (v := .int i1) (ty := .int) C9 V hS t_o0.1 hf2 rfl tC_lay7 tyX8 tyX8_ok nmX8 12 (by decide) tCf_X8_22 rfl rfl (by decide +kernel) rfl rfl (Nat.le_of_ble_eq_true rfl) dX8_start_34 (fun f5 H locs ef5 V hS => ?_)
        have hf6 : f5 o0 = .inr (7, [.int v2_0, .int v2_1, .int v2_2, .int v2_3, .int v2_4, .int v2_5, .long v2_6, va_rf v2_7, va_rf v2_8, .int v2_9, .int v2_10, .ref v2_11, .int i1]) := up_s ef5
        have I := cI_up I t_o0.2 ef5 (mk7 t2_7 t2_8 t2_11)
        have hf7 := up_n ef5 t_o0.2 t2_11.2 (by first | decide | omega) hf3
        refine lv_aload_n hx hb dX8_start_37 rfl (lv_at hl 0 rfl) ?_
        refine lv_iconst (v := 1) hx hb dX8_start_38 (by decide) ?_
        refine cP (v := .int 1) (ty := .int) C9 V hS t_o0.1 hf6 rfl tC_lay7 tyX8 tyX8_ok nmX8 1 (by decide) tCf_X8_19 rfl rfl (by decide +kernel) rfl rfl (Nat.le_of_ble_eq_true rfl) dX8_start_39 (fun f8 H locs ef8 V hS => ?_)
        have hf9 : f8 o0 = .inr (7, [.int v2_0, .int 1, .int v2_2, .int v2_3, .int v2_4, .int v2_5, .long v2_6, va_rf v2_7, va_rf v2_8, .int v2_9, .int v2_10, .ref v2_11, .int i1]) := up_s ef8
        have I := cI_up I t_o0.2 ef8 (mk7 t2_7 t2_8 t2_11)
        have hf10 := up_n ef8 t_o0.2 t2_11.2 (by first | decide | omega) hf7
        refine lv_aload_n hx hb dX8_start_42 rfl (lv_at hl 0 rfl) ?_
        refine lv_iconst (v := 0) hx hb dX8_start_43 (by decide) ?_
        refine cP (v := .int 0) (ty := .int) C9 V hS t_o0.1 hf9 rfl tC_lay7 tyX8 tyX8_ok nmX8 2 (by decide) tCf_X8_25 rfl rfl (by decide +kernel) rfl rfl (Nat.le_of_ble_eq_true rfl) dX8_start_44 (fun f11 H locs ef11 V hS => ?_)
        have hf12 : f11 o0 = .inr (7, [.int v2_0, .int 1, .int 0, .int v2_3, .int v2_4, .int v2_5, .long v2_6, va_rf v2_7, va_rf v2_8, .int v2_9, .int v2_10, .ref v2_11, .int i1]) := up_s ef11
        have I := cI_up I t_o0.2 ef11 (mk7 t2_7 t2_8 t2_11)
        have hf13 := up_n ef11 t_o0.2 t2_11.2 (by first | decide | omega) hf10
        refine lv_aload_n hx hb dX8_start_47 rfl (lv_at hl 0 rfl) ?_
        refine lv_iconst (v := 0) hx hb dX8_start_48 (by decide) ?_
        refine cP (v := .int 0) (ty := .int) C9 V hS t_o0.1 hf12 rfl tC_lay7 tyX8 tyX8_ok nmX8 3 (by decide) tCf_X8_28 rfl rfl (by decide +kernel) rfl rfl (Nat.le_of_ble_eq_true rfl) dX8_start_49 (fun f14 H locs ef14 V hS => ?_)
        have hf15 : f14 o0 = .inr (7, [.int v2_0, .int 1, .int 0, .int 0, .int v2_4, .int v2_5, .long v2_6, va_rf v2_7, va_rf v2_8, .int v2_9, .int v2_10, .ref v2_11, .int i1]) := up_s ef14
        have I := cI_up I t_o0.2 ef14 (mk7 t2_7 t2_8 t2_11)
        have hf16 := up_n ef14 t_o0.2 t2_11.2 (by first | decide | omega) hf13
        refine lv_aload_n hx hb dX8_start_52 rfl (lv_at hl 0 rfl) ?_
        refine lv_iconst (v := 0) hx hb dX8_start_53 (by decide) ?_
        refine cP (v := .int 0) (ty := .int) C9 V hS t_o0.1 hf15 rfl tC_lay7 tyX8 tyX8_ok nmX8 4 (by decide) tCf_X8_31 rfl rfl (by decide +kernel) rfl rfl (Nat.le_of_ble_eq_true rfl) dX8_start_54 (fun f17 H locs ef17 V hS => ?_)
        have hf18 : f17 o0 = .inr (7, [.int v2_0, .int 1, .int 0, .int 0, .int 0, .int v2_5, .long v2_6, va_rf v2_7, va_rf v2_8, .int v2_9, .int v2_10, .ref v2_11, .int i1]) := up_s ef17
        have I := cI_up I t_o0.2 ef17 (mk7 t2_7 t2_8 t2_11)
        have hf19 := up_n ef17 t_o0.2 t2_11.2 (by first | decide | omega) hf16
        refine lv_aload_n hx hb dX8_start_57 rfl (lv_at hl 0 rfl) ?_
        refine lv_iconst (v := 0) hx hb dX8_start_58 (by decide) ?_
        refine cP (v := .int 0) (ty := .boolean) C9 V hS t_o0.1 hf18 rfl tC_lay7 tyX8 tyX8_ok nmX8 5 (by decide) tCf_X8_34 rfl rfl (by decide +kernel) rfl rfl (Nat.le_of_ble_eq_true rfl) dX8_start_59 (fun f20 H locs ef20 V hS => ?_)
        have hf21 : f20 o0 = .inr (7, [.int v2_0, .int 1, .int 0, .int 0, .int 0, .int 0, .long v2_6, va_rf v2_7, va_rf v2_8, .int v2_9, .int v2_10, .ref v2_11, .int i1]) := up_s ef20
        have I := cI_up I t_o0.2 ef20 (mk7 t2_7 t2_8 t2_11)
        have hf22 := up_n ef20 t_o0.2 t2_11.2 (by first | decide | omega) hf19
        exact cRetV C9 hr hlk hN hNs V I hS (rfl) dX8_start_62
      · refine lv_iload_n hx hb dX8_start_11 rfl (lv_at hl 3 rfl) ?_
        refine lv_aload_n hx hb dX8_start_12 rfl (lv_at hl 1 rfl) ?_
        obtain ⟨g23, hf23⟩ := op12 I t_o1
        refine cAl (t0 := 1) (v := 240) C9 V t_o1.1 hf23 rfl (by first | rfl | decide) dX8_start_13 ?_
        refine lv_icmp_ge (tgt := 32) hx hb dX8_start_14 (by decide) (fun c24 => ?_) (fun c24 => ?_)
        · refine lv_aload_n hx hb dX8_start_32 rfl (lv_at hl 0 rfl) ?_
          refine lv_iload_n hx hb dX8_start_33 rfl (lv_at hl 2 rfl) ?_
          refine cP (v := .int i1) (ty := .int) C9 V hS t_o0.1 hf2 rfl tC_lay7 tyX8 tyX8_ok nmX8 12 (by decide) tCf_X8_22 rfl rfl (by decide +kernel) rfl rfl (Nat.le_of_ble_eq_true rfl) dX8_start_34 (fun f25 H locs ef25 V hS => ?_)
          have hf26 : f25 o0 = .inr (7, [.int v2_0, .int v2_1, .int v2_2, .int v2_3, .int v2_4, .int v2_5, .long v2_6, va_rf v2_7, va_rf v2_8, .int v2_9, .int v2_10, .ref v2_11, .int i1]) := up_s ef25
          have I := cI_up I t_o0.2 ef25 (mk7 t2_7 t2_8 t2_11)
          have hf27 := up_n ef25 t_o0.2 t2_11.2 (by first | decide | omega) hf3
          have hf28 := up_n ef25 t_o0.2 t_o1.2 (by first | decide | omega) hf23
          refine lv_aload_n hx hb dX8_start_37 rfl (lv_at hl 0 rfl) ?_
          refine lv_iconst (v := 1) hx hb dX8_start_38 (by decide) ?_
          refine cP (v := .int 1) (ty := .int) C9 V hS t_o0.1 hf26 rfl tC_lay7 tyX8 tyX8_ok nmX8 1 (by decide) tCf_X8_19 rfl rfl (by decide +kernel) rfl rfl (Nat.le_of_ble_eq_true rfl) dX8_start_39 (fun f29 H locs ef29 V hS => ?_)
          have hf30 : f29 o0 = .inr (7, [.int v2_0, .int 1, .int v2_2, .int v2_3, .int v2_4, .int v2_5, .long v2_6, va_rf v2_7, va_rf v2_8, .int v2_9, .int v2_10, .ref v2_11, .int i1]) := up_s ef29
          have I := cI_up I t_o0.2 ef29 (mk7 t2_7 t2_8 t2_11)
          have hf31 := up_n ef29 t_o0.2 t2_11.2 (by first | decide | omega) hf27
          have hf32 := up_n ef29 t_o0.2 t_o1.2 (by first | decide | omega) hf28
          refine lv_aload_n hx hb dX8_start_42 rfl (lv_at hl 0 rfl) ?_
          refine lv_iconst (v := 0) hx hb dX8_start_43 (by decide) ?_
          refine cP (v := .int 0) (ty := .int) C9 V hS t_o0.1 hf30 rfl tC_lay7 tyX8 tyX8_ok nmX8 2 (by decide) tCf_X8_25 rfl rfl (by decide +kernel) rfl rfl (Nat.le_of_ble_eq_true rfl) dX8_start_44 (fun f33 H locs ef33 V hS => ?_)
          have hf34 : f33 o0 = .inr (7, [.int v2_0, .int 1, .int 0, .int v2_3, .int v2_4, .int v2_5, .long v2_6, va_rf v2_7, va_rf v2_8, .int v2_9, .int v2_10, .ref v2_11, .int i1]) := up_s ef33
          have I := cI_up I t_o0.2 ef33 (mk7 t2_7 t2_8 t2_11)
          have hf35 := up_n ef33 t_o0.2 t2_11.2 (by first | decide | omega) hf31
          have hf36 := up_n ef33 t_o0.2 t_o1.2 (by first | decide | omega) hf32
          refine lv_aload_n hx hb dX8_start_47 rfl (lv_at hl 0 rfl) ?_
          refine lv_iconst (v := 0) hx hb dX8_start_48 (by decide) ?_
          refine cP (v := .int 0) (ty := .int) C9 V hS t_o0.1 hf34 rfl tC_lay7 tyX8 tyX8_ok nmX8 3 (by decide) tCf_X8_28 rfl rfl (by decide +kernel) rfl rfl (Nat.le_of_ble_eq_true rfl) dX8_start_49 (fun f37 H locs ef37 V hS => ?_)
          have hf38 : f37 o0 = .inr (7, [.int v2_0, .int 1, .int 0, .int 0, .int v2_4, .int v2_5, .long v2_6, va_rf v2_7, va_rf v2_8, .int v2_9, .int v2_10, .ref v2_11, .int i1]) := up_s ef37
          have I := cI_up I t_o0.2 ef37 (mk7 t2_7 t2_8 t2_11)
          have hf39 := up_n ef37 t_o0.2 t2_11.2 (by first | decide | omega) hf35
          have hf40 := up_n ef37 t_o0.2 t_o1.2 (by first | decide | omega) hf36
          refine lv_aload_n hx hb dX8_start_52 rfl (lv_at hl 0 rfl) ?_
          refine lv_iconst (v := 0) hx hb dX8_start_53 (by decide) ?_
          refine cP (v := .int 0) (ty := .int) C9 V hS t_o0.1 hf38 rfl tC_lay7 tyX8 tyX8_ok nmX8 4 (by decide) tCf_X8_31 rfl rfl (by decide +kernel) rfl rfl (Nat.le_of_ble_eq_true rfl) dX8_start_54 (fun f41 H locs ef41 V hS => ?_)
          have hf42 : f41 o0 = .inr (7, [.int v2_0, .int 1, .int 0, .int 0, .int 0, .int v2_5, .long v2_6, va_rf v2_7, va_rf v2_8, .int v2_9, .int v2_10, .ref v2_11, .int i1]) := up_s ef41
          have I := cI_up I t_o0.2 ef41 (mk7 t2_7 t2_8 t2_11)
          have hf43 := up_n ef41 t_o0.2 t2_11.2 (by first | decide | omega) hf39
          have hf44 := up_n ef41 t_o0.2 t_o1.2 (by first | decide | omega) hf40
          refine lv_aload_n hx hb dX8_start_57 rfl (lv_at hl 0 rfl) ?_
          refine lv_iconst (v := 0) hx hb dX8_start_58 (by decide) ?_
          refine cP (v := .int 0) (ty := .boolean) C9 V hS t_o0.1 hf42 rfl tC_lay7 tyX8 tyX8_ok nmX8 5 (by decide) tCf_X8_34 rfl rfl (by decide +kernel) rfl rfl (Nat.le_of_ble_eq_true rfl) dX8_start_59 (fun f45 H locs ef45 V hS => ?_)
          have hf46 : f45 o0 = .inr (7, [.int v2_0, .int 1, .int 0, .int 0, .int 0, .int 0, .long v2_6, va_rf v2_7, va_rf v2_8, .int v2_9, .int v2_10, .ref v2_11, .int i1]) := up_s ef45
          have I := cI_up I t_o0.2 ef45 (mk7 t2_7 t2_8 t2_11)
          have hf47 := up_n ef45 t_o0.2 t2_11.2 (by first | decide | omega) hf43
          have hf48 := up_n ef45 t_o0.2 t_o1.2 (by first | decide | omega) hf44
          exact cRetV C9 hr hlk hN hNs V I hS (rfl) dX8_start_62
        · refine lv_aload_n hx hb dX8_start_17 rfl (lv_at hl 0 rfl) ?_
          refine cG C9 V t_o0.1 hf2 rfl tC_lay7 11 (by decide) tCf_X8_9 (Or.inl rfl) rfl dX8_start_18 ?_
          refine lv_iload_n hx hb dX8_start_21 rfl (lv_at hl 3 rfl) ?_
          refine lv_aload_n hx hb dX8_start_22 rfl (lv_at hl 1 rfl) ?_
          refine lv_iload_n hx hb dX8_start_23 rfl (lv_at hl 3 rfl) ?_
          refine cLi C9 V t_o1.1 hf23 (cvin (N := 240) rfl (hi2.1) (ci_lt c4)) dX8_start_24 ?_
          refine lv_topi (fun x49 ex49 => ?_)
          refine cSi C9 V hS t2_11.1 hf3 (cvin (N := 240) rfl (hi2.1) (ci_lt c4)) dX8_start_25 (fun f50 H locs ef50 V hS => ?_)
          obtain ⟨g51, eg51⟩ : ∃ z, z = upd g3 (Int32.toNatClampNeg w2_3) (x49) := ⟨_, rfl⟩
          rw [← eg51] at ef50
          have hf52 := up_s ef50
          have I := cI_up I t2_11.2 ef50 (mk12)
          have hf53 := up_n ef50 t2_11.2 t_o0.2 (by first | decide | omega) hf2
          obtain ⟨x54, ex54⟩ : ∃ y : Int32, y = w2_3 + (1) := ⟨_, rfl⟩
          refine lv_iinc (v := x54) (lv' := [(3, .int x54), (0, .ref o0), (1, .ref o1), (2, .int i1)]) hx hb dX8_start_26 hl (k := 3) rfl (by rw [ex54]; rfl) (by decide) rfl (fun ls hl => ?_)
          refine lv_goto (tgt := 2) hx hb dX8_start_29 (by decide) ?_
          exact ih2 x54 f50 _ _ _ I (ca_up ex54 hi2.1 (ci_lt c4)) (cmsd hm2 (ca_dec ex54 hi2.1 (ci_lt c4)).1 (ca_dec ex54 hi2.1 (ci_lt c4)).2) V hS (lv_sub hl [1, 2, 3, 0] rfl)
  exact loop2 _ x1 f _ _ _ I (by clear V hS hl C9 hts hown hx hb hml hr hlk; subst_vars; decide) (Nat.lt_succ_self _) V hS (lv_sub hl [1, 2, 3, 0] rfl)
end
section
set_option maxHeartbeats 200000 in
set_option maxRecDepth 100000 in
theorem c_X8_standIn (l : Launch) (D : va_G) (ks : kS) (τ : Nat → Nat) (L : List Nat) (A : Nat → Prop) (N : State → Prop) (hN : cNk A N) (ψ : Int32) (f : Nat → va_E) (o0 : Nat) (o1 : Nat) (o2 : Nat) (t_o0 : ty τ L o0 7) (t_o1 : ty τ L o1 5) (t_o2 : tyS τ L o2) : Met l yX8_standIn (Cond.code yX8_standIn cX8_standIn 3 none :: tC) ({ frames := 1, cells := 0, slots := 0, locals := 21 }) (va_Pc [.ref o0, .ref o1, .ref o2] (cB D ks τ L A N (ψ, f))) (va_Qv (fun x9 => x9.1 = ψ) (cB D ks τ L A N) A) 0 0 A := by
  refine cMet (own := RX8) (by decide) rfl (Nat.le_of_ble_eq_true rfl) ?_
  intro p e s m below meth c ls C9 hml hr hlk V I hNs hl
  have hx := C9.1
  have hb := C9.2.1
  have hown := C9.2.2.1
  have hts := C9.2.2.2.1
  have hS : va_S A s.heap s.heap [] := va_S.rf
  have hl : lv_has ls 3 [(0, .ref o0), (1, .ref o1), (2, .ref o2)] := hl
  refine lv_aload_n hx hb dX8_standIn_0 rfl (lv_at hl 1 rfl) ?_
  refine lv_aload_n hx hb dX8_standIn_1 rfl (lv_at hl 0 rfl) ?_
  obtain ⟨v1_0, v1_1, hf1, hn1, t1_1⟩ := op5 I t_o1
  refine cGoV (cRunV (As := [.ref o0]) (rest := []) C9 hml hN hNs V I hS t_o1.1 hf1 rfl (c_X6_add l D ks τ L A N hN ψ f o1 o0 t_o1 t_o0 ) gC_X8_73 okC_X6_add ⟨rfl, rfl, Nat.le_of_ble_eq_true rfl, Nat.le_of_ble_eq_true rfl⟩ hl.1 rfl (Nat.le_of_ble_eq_true rfl) dX8_standIn_2 ⟨Nat.zero_le _, Nat.zero_le _⟩) hS (fun p3 f2 H locs hqf2 V I hS => ?_)
  have I : cI ks τ L ψ f2 := by rw [show p3 = ψ from hqf2] at I; exact I
  refine lv_aload_n hx hb dX8_standIn_5 rfl (lv_at hl 0 rfl) ?_
  refine lv_aload_n hx hb dX8_standIn_6 rfl (lv_at hl 1 rfl) ?_
  obtain ⟨v5_0, v5_1, v5_2, v5_3, v5_4, v5_5, v5_6, v5_7, v5_8, v5_9, v5_10, v5_11, v5_12, hf5, t5_7, t5_8, t5_11⟩ := op7 I t_o0
  refine cP (v := va_rf (some o1)) (ty := .object "TurnKeeper$Row") C9 V hS t_o0.1 hf5 rfl tC_lay7 tyX8 tyX8_ok nmX8 8 (by decide) tCf_X8_52 rfl rfl (by decide +kernel) rfl rfl (Nat.le_of_ble_eq_true rfl) dX8_standIn_7 (fun f6 H locs ef6 V hS => ?_)
  have hf7 : f6 o0 = .inr (7, [.int v5_0, .int v5_1, .int v5_2, .int v5_3, .int v5_4, .int v5_5, .long v5_6, va_rf v5_7, va_rf (some o1), .int v5_9, .int v5_10, .ref v5_11, .int v5_12]) := up_s ef6
  have I := cI_up I t_o0.2 ef6 (mk7 t5_7 (tyO_s t_o1) t5_11)
  refine lv_aload_n hx hb dX8_standIn_10 rfl (lv_at hl 0 rfl) ?_
  refine lv_aload_n hx hb dX8_standIn_11 rfl (lv_at hl 2 rfl) ?_
  refine cP (v := va_rf (some o2)) (ty := .object "TurnKeeper$Sync") C9 V hS t_o0.1 hf7 rfl tC_lay7 tyX8 tyX8_ok nmX8 7 (by decide) tCf_X8_62 rfl rfl (by decide +kernel) rfl rfl (Nat.le_of_ble_eq_true rfl) dX8_standIn_12 (fun f8 H locs ef8 V hS => ?_)
  have hf9 : f8 o0 = .inr (7, [.int v5_0, .int v5_1, .int v5_2, .int v5_3, .int v5_4, .int v5_5, .long v5_6, va_rf (some o2), va_rf (some o1), .int v5_9, .int v5_10, .ref v5_11, .int v5_12]) := up_s ef8
  have I := cI_up I t_o0.2 ef8 (mk7 (tySO_s t_o2) (tyO_s t_o1) t5_11)
  refine lv_aload_n hx hb dX8_standIn_15 rfl (lv_at hl 0 rfl) ?_
  refine lv_iconst (v := 2) hx hb dX8_standIn_16 (by decide) ?_
  refine cP (v := .int 2) (ty := .int) C9 V hS t_o0.1 hf9 rfl tC_lay7 tyX8 tyX8_ok nmX8 1 (by decide) tCf_X8_19 rfl rfl (by decide +kernel) rfl rfl (Nat.le_of_ble_eq_true rfl) dX8_standIn_17 (fun f10 H locs ef10 V hS => ?_)
  have hf11 : f10 o0 = .inr (7, [.int v5_0, .int 2, .int v5_2, .int v5_3, .int v5_4, .int v5_5, .long v5_6, va_rf (some o2), va_rf (some o1), .int v5_9, .int v5_10, .ref v5_11, .int v5_12]) := up_s ef10
  have I := cI_up I t_o0.2 ef10 (mk7 (tySO_s t_o2) (tyO_s t_o1) t5_11)
  exact cRetV C9 hr hlk hN hNs V I hS (rfl) dX8_standIn_20
end
section
set_option maxHeartbeats 200000 in
set_option maxRecDepth 100000 in
theorem c_X4_isGrabbed (l : Launch) (D : va_G) (ks : kS) (τ : Nat → Nat) (L : List Nat) (A : Nat → Prop) (N : State → Prop) (hN : cNk A N) (ψ : Int32) (f : Nat → va_E) (o0 : Nat) (o1 : Nat) (t_o0 : ty τ L o0 3) (t_o1 : ty τ L o1 7) : Met l yX4_isGrabbed (Cond.code yX4_isGrabbed cX4_isGrabbed 2 (some .boolean) :: tC) ({ frames := 0, cells := 0, slots := 0, locals := 0 }) (va_Pc [.ref o0, .ref o1] (cB D ks τ L A N (ψ, f))) (va_Qi (fun r9 x9 => x9.1 = ψ) (cB D ks τ L A N) A) 0 0 A := by
  refine cMet (own := RX4) (by decide) rfl (Nat.le_of_ble_eq_true rfl) ?_
  intro p e s m below meth c ls C9 hml hr hlk V I hNs hl
  have hx := C9.1
  have hb := C9.2.1
  have hown := C9.2.2.1
  have hts := C9.2.2.2.1
  have hS : va_S A s.heap s.heap [] := va_S.rf
  have hl : lv_has ls 2 [(0, .ref o0), (1, .ref o1)] := hl
  refine lv_aload_n hx hb dX4_isGrabbed_0 rfl (lv_at hl 0 rfl) ?_
  obtain ⟨v1_0, v1_1, v1_2, v1_3, v1_4, v1_5, v1_6, hf1, t1_2, t1_6⟩ := op3 I t_o0
  refine cG C9 V t_o0.1 hf1 rfl tC_lay3 3 (by decide) tCf_X4_9 (Or.inl rfl) rfl dX4_isGrabbed_1 ?_
  refine lv_iconst (v := (-1)) hx hb dX4_isGrabbed_4 (by decide) ?_
  refine lv_icmp_eq (tgt := 21) hx hb dX4_isGrabbed_5 (by decide) (fun c2 => ?_) (fun c2 => ?_)
  · refine lv_aload_n hx hb dX4_isGrabbed_21 rfl (lv_at hl 0 rfl) ?_
    refine lv_aload_n hx hb dX4_isGrabbed_22 rfl (lv_at hl 1 rfl) ?_
    obtain ⟨v3_0, v3_1, v3_2, v3_3, v3_4, v3_5, v3_6, v3_7, v3_8, v3_9, v3_10, v3_11, v3_12, hf3, t3_7, t3_8, t3_11⟩ := op7 I t_o1
    refine cG C9 V t_o1.1 hf3 rfl tC_lay7 0 (by decide) tCf_X4_51 (Or.inl rfl) rfl dX4_isGrabbed_23 ?_
    refine cP (v := .int v3_0) (ty := .int) C9 V hS t_o0.1 hf1 rfl tC_lay3 tyX4 tyX4_ok nmX4 3 (by decide) tCf_X4_9 rfl rfl (by decide +kernel) rfl rfl (Nat.le_of_ble_eq_true rfl) dX4_isGrabbed_26 (fun f4 H locs ef4 V hS => ?_)
    have hf5 : f4 o0 = .inr (3, [.int v1_0, .int v1_1, .ref v1_2, .int v3_0, .int v1_4, .int v1_5, .ref v1_6]) := up_s ef4
    have I := cI_up I t_o0.2 ef4 (mk3 t1_2 t1_6)
    have hf6 := up_n ef4 t_o0.2 t_o1.2 (by first | decide | omega) hf3
    refine lv_aload_n hx hb dX4_isGrabbed_29 rfl (lv_at hl 0 rfl) ?_
    refine lv_dup hx hb dX4_isGrabbed_30 rfl ?_
    refine cG C9 V t_o0.1 hf5 rfl tC_lay3 5 (by decide) tCf_X4_63 (Or.inl rfl) rfl dX4_isGrabbed_31 ?_
    refine lv_iconst (v := 1) hx hb dX4_isGrabbed_34 (by decide) ?_
    refine lv_iadd hx hb dX4_isGrabbed_35 ?_
    refine lv_topi (fun x7 ex7 => ?_)
    refine cP (v := .int x7) (ty := .int) C9 V hS t_o0.1 hf5 rfl tC_lay3 tyX4 tyX4_ok nmX4 5 (by decide) tCf_X4_63 rfl rfl (by decide +kernel) rfl rfl (Nat.le_of_ble_eq_true rfl) dX4_isGrabbed_36 (fun f8 H locs ef8 V hS => ?_)
    have hf9 : f8 o0 = .inr (3, [.int v1_0, .int v1_1, .ref v1_2, .int v3_0, .int v1_4, .int x7, .ref v1_6]) := up_s ef8
    have I := cI_up I t_o0.2 ef8 (mk3 t1_2 t1_6)
    have hf10 := up_n ef8 t_o0.2 t_o1.2 (by first | decide | omega) hf6
    refine lv_iconst (v := 1) hx hb dX4_isGrabbed_39 (by decide) ?_
    exact cRetZ C9 hr hlk hN hNs V I hS (by clear V hS hl C9 hts hown hx hb hml hr hlk; first | rfl | decide | (subst_vars; rfl)) (rfl) dX4_isGrabbed_40
  · refine lv_aload_n hx hb dX4_isGrabbed_8 rfl (lv_at hl 0 rfl) ?_
    refine cG C9 V t_o0.1 hf1 rfl tC_lay3 3 (by decide) tCf_X4_9 (Or.inl rfl) rfl dX4_isGrabbed_9 ?_
    refine lv_aload_n hx hb dX4_isGrabbed_12 rfl (lv_at hl 1 rfl) ?_
    obtain ⟨v11_0, v11_1, v11_2, v11_3, v11_4, v11_5, v11_6, v11_7, v11_8, v11_9, v11_10, v11_11, v11_12, hf11, t11_7, t11_8, t11_11⟩ := op7 I t_o1
    refine cG C9 V t_o1.1 hf11 rfl tC_lay7 0 (by decide) tCf_X4_51 (Or.inl rfl) rfl dX4_isGrabbed_13 ?_
    refine lv_icmp_eq (tgt := 21) hx hb dX4_isGrabbed_16 (by decide) (fun c12 => ?_) (fun c12 => ?_)
    · refine lv_aload_n hx hb dX4_isGrabbed_21 rfl (lv_at hl 0 rfl) ?_
      refine lv_aload_n hx hb dX4_isGrabbed_22 rfl (lv_at hl 1 rfl) ?_
      refine cG C9 V t_o1.1 hf11 rfl tC_lay7 0 (by decide) tCf_X4_51 (Or.inl rfl) rfl dX4_isGrabbed_23 ?_
      refine cP (v := .int v11_0) (ty := .int) C9 V hS t_o0.1 hf1 rfl tC_lay3 tyX4 tyX4_ok nmX4 3 (by decide) tCf_X4_9 rfl rfl (by decide +kernel) rfl rfl (Nat.le_of_ble_eq_true rfl) dX4_isGrabbed_26 (fun f13 H locs ef13 V hS => ?_)
      have hf14 : f13 o0 = .inr (3, [.int v1_0, .int v1_1, .ref v1_2, .int v11_0, .int v1_4, .int v1_5, .ref v1_6]) := up_s ef13
      have I := cI_up I t_o0.2 ef13 (mk3 t1_2 t1_6)
      have hf15 := up_n ef13 t_o0.2 t_o1.2 (by first | decide | omega) hf11
      refine lv_aload_n hx hb dX4_isGrabbed_29 rfl (lv_at hl 0 rfl) ?_
      refine lv_dup hx hb dX4_isGrabbed_30 rfl ?_
      refine cG C9 V t_o0.1 hf14 rfl tC_lay3 5 (by decide) tCf_X4_63 (Or.inl rfl) rfl dX4_isGrabbed_31 ?_
      refine lv_iconst (v := 1) hx hb dX4_isGrabbed_34 (by decide) ?_
      refine lv_iadd hx hb dX4_isGrabbed_35 ?_
      refine lv_topi (fun x16 ex16 => ?_)
      refine cP (v := .int x16) (ty := .int) C9 V hS t_o0.1 hf14 rfl tC_lay3 tyX4 tyX4_ok nmX4 5 (by decide) tCf_X4_63 rfl rfl (by decide +kernel) rfl rfl (Nat.le_of_ble_eq_true rfl) dX4_isGrabbed_36 (fun f17 H locs ef17 V hS => ?_)
      have hf18 : f17 o0 = .inr (3, [.int v1_0, .int v1_1, .ref v1_2, .int v11_0, .int v1_4, .int x16, .ref v1_6]) := up_s ef17
      have I := cI_up I t_o0.2 ef17 (mk3 t1_2 t1_6)
      have hf19 := up_n ef17 t_o0.2 t_o1.2 (by first | decide | omega) hf15
      refine lv_iconst (v := 1) hx hb dX4_isGrabbed_39 (by decide) ?_
      exact cRetZ C9 hr hlk hN hNs V I hS (by clear V hS hl C9 hts hown hx hb hml hr hlk; first | rfl | decide | (subst_vars; rfl)) (rfl) dX4_isGrabbed_40
    · refine lv_iconst (v := 0) hx hb dX4_isGrabbed_19 (by decide) ?_
      exact cRetZ C9 hr hlk hN hNs V I hS (by clear V hS hl C9 hts hown hx hb hml hr hlk; first | rfl | decide | (subst_vars; rfl)) (rfl) dX4_isGrabbed_20
set_option maxHeartbeats 200000 in
set_option maxRecDepth 100000 in
theorem c_X4_have (l : Launch) (D : va_G) (ks : kS) (τ : Nat → Nat) (L : List Nat) (A : Nat → Prop) (N : State → Prop) (hN : cNk A N) (ψ : Int32) (f : Nat → va_E) (o0 : Nat) (o1 : Nat) (t_o0 : ty τ L o0 3) (t_o1 : ty τ L o1 7) : Met l yX4_have (Cond.code yX4_have cX4_have 2 none :: tC) ({ frames := 2, cells := 0, slots := 0, locals := 43 }) (va_Pc [.ref o0, .ref o1] (cB D ks τ L A N (ψ, f))) (va_Qv (fun x9 => x9.1 = ψ) (cB D ks τ L A N) A) 0 0 A := by
  refine cMet (own := RX4) (by decide) rfl (Nat.le_of_ble_eq_true rfl) ?_
  intro p e s m below meth c ls C9 hml hr hlk V I hNs hl
  have hx := C9.1
  have hb := C9.2.1
  have hown := C9.2.2.1
  have hts := C9.2.2.2.1
  have hS : va_S A s.heap s.heap [] := va_S.rf
  have hl : lv_has ls 2 [(0, .ref o0), (1, .ref o1)] := hl
  refine lv_aload_n hx hb dX4_have_0 rfl (lv_at hl 0 rfl) ?_
  refine lv_aload_n hx hb dX4_have_1 rfl (lv_at hl 1 rfl) ?_
  obtain ⟨v1_0, v1_1, v1_2, v1_3, v1_4, v1_5, v1_6, v1_7, v1_8, v1_9, v1_10, v1_11, v1_12, hf1, t1_7, t1_8, t1_11⟩ := op7 I t_o1
  refine cG C9 V t_o1.1 hf1 rfl tC_lay7 0 (by decide) tCf_X4_51 (Or.inl rfl) rfl dX4_have_2 ?_
  obtain ⟨v2_0, v2_1, v2_2, v2_3, v2_4, v2_5, v2_6, hf2, t2_2, t2_6⟩ := op3 I t_o0
  refine cP (v := .int v1_0) (ty := .int) C9 V hS t_o0.1 hf2 rfl tC_lay3 tyX4 tyX4_ok nmX4 3 (by decide) tCf_X4_9 rfl rfl (by decide +kernel) rfl rfl (Nat.le_of_ble_eq_true rfl) dX4_have_5 (fun f3 H locs ef3 V hS => ?_)
  have hf4 : f3 o0 = .inr (3, [.int v2_0, .int v2_1, .ref v2_2, .int v1_0, .int v2_4, .int v2_5, .ref v2_6]) := up_s ef3
  have I := cI_up I t_o0.2 ef3 (mk3 t2_2 t2_6)
  have hf5 := up_n ef3 t_o0.2 t_o1.2 (by first | decide | omega) hf1
  refine lv_aload_n hx hb dX4_have_8 rfl (lv_at hl 0 rfl) ?_
  refine lv_iconst (v := 1) hx hb dX4_have_9 (by decide) ?_
  refine cP (v := .int 1) (ty := .int) C9 V hS t_o0.1 hf4 rfl tC_lay3 tyX4 tyX4_ok nmX4 5 (by decide) tCf_X4_63 rfl rfl (by decide +kernel) rfl rfl (Nat.le_of_ble_eq_true rfl) dX4_have_10 (fun f6 H locs ef6 V hS => ?_)
  have hf7 : f6 o0 = .inr (3, [.int v2_0, .int v2_1, .ref v2_2, .int v1_0, .int v2_4, .int 1, .ref v2_6]) := up_s ef6
  have I := cI_up I t_o0.2 ef6 (mk3 t2_2 t2_6)
  have hf8 := up_n ef6 t_o0.2 t_o1.2 (by first | decide | omega) hf5
  refine lv_aload_n hx hb dX4_have_13 rfl (lv_at hl 1 rfl) ?_
  refine cG C9 V t_o1.1 hf8 rfl tC_lay7 9 (by decide) tCf_X4_85 (Or.inl rfl) rfl dX4_have_14 ?_
  refine lv_if_le (tgt := 41) hx hb dX4_have_17 (by decide) (fun c9 => ?_) (fun c9 => ?_)
  · refine lv_aload_n hx hb dX4_have_41 rfl (lv_at hl 1 rfl) ?_
    refine cGoV (cRunV (As := []) (rest := []) C9 hml hN hNs V I hS t_o1.1 hf8 rfl (c_X8_goOn l D ks τ L A N hN ψ f6 o1 t_o1 ) gC_X4_60 okC_X8_goOn ⟨rfl, rfl, Nat.le_of_ble_eq_true rfl, Nat.le_of_ble_eq_true rfl⟩ hl.1 rfl (Nat.le_of_ble_eq_true rfl) dX4_have_42 ⟨Nat.zero_le _, Nat.zero_le _⟩) hS (fun p11 f10 H locs hqf10 V I hS => ?_)
    have I : cI ks τ L ψ f10 := by rw [show p11 = ψ from hqf10] at I; exact I
    exact cRetV C9 hr hlk hN hNs V I hS (rfl) dX4_have_45
  · refine lv_aload_n hx hb dX4_have_20 rfl (lv_at hl 0 rfl) ?_
    refine lv_aload_n hx hb dX4_have_21 rfl (lv_at hl 1 rfl) ?_
    refine cG C9 V t_o1.1 hf8 rfl tC_lay7 9 (by decide) tCf_X4_85 (Or.inl rfl) rfl dX4_have_22 ?_
    refine cP (v := .int v1_9) (ty := .int) C9 V hS t_o0.1 hf7 rfl tC_lay3 tyX4 tyX4_ok nmX4 5 (by decide) tCf_X4_63 rfl rfl (by decide +kernel) rfl rfl (Nat.le_of_ble_eq_true rfl) dX4_have_25 (fun f13 H locs ef13 V hS => ?_)
    have hf14 : f13 o0 = .inr (3, [.int v2_0, .int v2_1, .ref v2_2, .int v1_0, .int v2_4, .int v1_9, .ref v2_6]) := up_s ef13
    have I := cI_up I t_o0.2 ef13 (mk3 t2_2 t2_6)
    have hf15 := up_n ef13 t_o0.2 t_o1.2 (by first | decide | omega) hf8
    refine lv_aload_n hx hb dX4_have_28 rfl (lv_at hl 1 rfl) ?_
    refine lv_aload_n hx hb dX4_have_29 rfl (lv_at hl 1 rfl) ?_
    refine cG C9 V t_o1.1 hf15 rfl tC_lay7 10 (by decide) tCf_X4_105 (Or.inl rfl) rfl dX4_have_30 ?_
    refine cP (v := .int v1_10) (ty := .int) C9 V hS t_o1.1 hf15 rfl tC_lay7 tyX8 tyX8_ok nmX8 2 (by decide) tCf_X4_108 rfl rfl (by decide +kernel) rfl rfl (Nat.le_of_ble_eq_true rfl) dX4_have_33 (fun f16 H locs ef16 V hS => ?_)
    have hf17 : f16 o1 = .inr (7, [.int v1_0, .int v1_1, .int v1_10, .int v1_3, .int v1_4, .int v1_5, .long v1_6, va_rf v1_7, va_rf v1_8, .int v1_9, .int v1_10, .ref v1_11, .int v1_12]) := up_s ef16
    have I := cI_up I t_o1.2 ef16 (mk7 t1_7 t1_8 t1_11)
    have hf18 := up_n ef16 t_o1.2 t_o0.2 (by first | decide | omega) hf14
    refine lv_aload_n hx hb dX4_have_36 rfl (lv_at hl 1 rfl) ?_
    refine lv_iconst (v := 0) hx hb dX4_have_37 (by decide) ?_
    refine cP (v := .int 0) (ty := .int) C9 V hS t_o1.1 hf17 rfl tC_lay7 tyX8 tyX8_ok nmX8 9 (by decide) tCf_X4_85 rfl rfl (by decide +kernel) rfl rfl (Nat.le_of_ble_eq_true rfl) dX4_have_38 (fun f19 H locs ef19 V hS => ?_)
    have hf20 : f19 o1 = .inr (7, [.int v1_0, .int v1_1, .int v1_10, .int v1_3, .int v1_4, .int v1_5, .long v1_6, va_rf v1_7, va_rf v1_8, .int 0, .int v1_10, .ref v1_11, .int v1_12]) := up_s ef19
    have I := cI_up I t_o1.2 ef19 (mk7 t1_7 t1_8 t1_11)
    have hf21 := up_n ef19 t_o1.2 t_o0.2 (by first | decide | omega) hf18
    refine lv_aload_n hx hb dX4_have_41 rfl (lv_at hl 1 rfl) ?_
    refine cGoV (cRunV (As := []) (rest := []) C9 hml hN hNs V I hS t_o1.1 hf20 rfl (c_X8_goOn l D ks τ L A N hN ψ f19 o1 t_o1 ) gC_X4_60 okC_X8_goOn ⟨rfl, rfl, Nat.le_of_ble_eq_true rfl, Nat.le_of_ble_eq_true rfl⟩ hl.1 rfl (Nat.le_of_ble_eq_true rfl) dX4_have_42 ⟨Nat.zero_le _, Nat.zero_le _⟩) hS (fun p23 f22 H locs hqf22 V I hS => ?_)
    have I : cI ks τ L ψ f22 := by rw [show p23 = ψ from hqf22] at I; exact I
    exact cRetV C9 hr hlk hN hNs V I hS (rfl) dX4_have_45
set_option maxHeartbeats 200000 in
set_option maxRecDepth 100000 in
theorem c_X4_free (l : Launch) (D : va_G) (ks : kS) (τ : Nat → Nat) (L : List Nat) (A : Nat → Prop) (N : State → Prop) (hN : cNk A N) (ψ : Int32) (f : Nat → va_E) (o0 : Nat) (t_o0 : ty τ L o0 3) : Met l yX4_free (Cond.code yX4_free cX4_free 2 none :: tC) ({ frames := 3, cells := 0, slots := 0, locals := 64 }) (va_Pc [.ref o0] (cB D ks τ L A N (ψ, f))) (va_Qv (fun x9 => x9.1 = ψ) (cB D ks τ L A N) A) 0 0 A := by
  refine cMet (own := RX4) (by decide) rfl (Nat.le_of_ble_eq_true rfl) ?_
  intro p e s m below meth c ls C9 hml hr hlk V I hNs hl
  have hx := C9.1
  have hb := C9.2.1
  have hown := C9.2.2.1
  have hts := C9.2.2.2.1
  have hS : va_S A s.heap s.heap [] := va_S.rf
  have hl : lv_has ls 2 [(0, .ref o0)] := hl
  refine lv_aload_n hx hb dX4_free_0 rfl (lv_at hl 0 rfl) ?_
  refine lv_iconst (v := (-1)) hx hb dX4_free_1 (by decide) ?_
  obtain ⟨v1_0, v1_1, v1_2, v1_3, v1_4, v1_5, v1_6, hf1, t1_2, t1_6⟩ := op3 I t_o0
  refine lv_topi (fun x2 ex2 => ?_)
  refine cP (v := .int x2) (ty := .int) C9 V hS t_o0.1 hf1 rfl tC_lay3 tyX4 tyX4_ok nmX4 3 (by decide) tCf_X4_9 rfl rfl (by decide +kernel) rfl rfl (Nat.le_of_ble_eq_true rfl) dX4_free_2 (fun f3 H locs ef3 V hS => ?_)
  have hf4 : f3 o0 = .inr (3, [.int v1_0, .int v1_1, .ref v1_2, .int x2, .int v1_4, .int v1_5, .ref v1_6]) := up_s ef3
  have I := cI_up I t_o0.2 ef3 (mk3 t1_2 t1_6)
  refine lv_aload_n hx hb dX4_free_5 rfl (lv_at hl 0 rfl) ?_
  refine lv_iconst (v := 0) hx hb dX4_free_6 (by decide) ?_
  refine cP (v := .int 0) (ty := .int) C9 V hS t_o0.1 hf4 rfl tC_lay3 tyX4 tyX4_ok nmX4 5 (by decide) tCf_X4_63 rfl rfl (by decide +kernel) rfl rfl (Nat.le_of_ble_eq_true rfl) dX4_free_7 (fun f5 H locs ef5 V hS => ?_)
  have hf6 : f5 o0 = .inr (3, [.int v1_0, .int v1_1, .ref v1_2, .int x2, .int v1_4, .int 0, .ref v1_6]) := up_s ef5
  have I := cI_up I t_o0.2 ef5 (mk3 t1_2 t1_6)
  refine lv_aload_n hx hb dX4_free_10 rfl (lv_at hl 0 rfl) ?_
  refine cG C9 V t_o0.1 hf6 rfl tC_lay3 2 (by decide) tCf_X4_92 (Or.inr tCs_X4_row) rfl dX4_free_11 ?_
  obtain ⟨v7_0, v7_1, hf7, hn7, t7_1⟩ := op5 I t1_2
  refine cGoQ (cRunV (As := []) (rest := []) C9 hml hN hNs V I hS t1_2.1 hf7 rfl (c_X6_first l D ks τ L A N hN ψ f5 v1_2 t1_2 ) gC_X4_95 okC_X6_first ⟨rfl, rfl, Nat.le_of_ble_eq_true rfl, Nat.le_of_ble_eq_true rfl⟩ hl.1 rfl (Nat.le_of_ble_eq_true rfl) dX4_free_14 ⟨Nat.zero_le _, Nat.zero_le _⟩) hS (fun r10 p9 f8 H locs hqf8 V I hS => ?_)
  have I : cI ks τ L ψ f8 := by rw [show p9 = ψ from hqf8.1] at I; exact I
  rcases r10 with _ | y11
  · refine W.eq (g2 := F0 m 17 ls [.null]) rfl ?_
    refine lv_astore_nN (lv' := [(1, .null), (0, .ref o0)]) hx hb dX4_free_17 rfl hl (by decide) rfl (fun ls hl => ?_)
    refine lv_aload_nN hx hb dX4_free_18 rfl (lv_at hl 0 rfl) ?_
    refine lv_ifnonnullN hx hb dX4_free_19 ?_
    exact cRetV C9 hr hlk hN hNs V I hS (rfl) dX4_free_22
  · have hy11 := hqf8.2 y11 rfl
    refine W.eq (g2 := F0 m 17 ls [.ref y11]) rfl ?_
    refine lv_astore_n (lv' := [(1, .ref y11), (0, .ref o0)]) hx hb dX4_free_17 rfl hl (by decide) rfl (fun ls hl => ?_)
    refine lv_aload_n hx hb dX4_free_18 rfl (lv_at hl 0 rfl) ?_
    refine lv_ifnonnull (tgt := 23) hx hb dX4_free_19 (by decide) ?_
    refine lv_aload_n hx hb dX4_free_23 rfl (lv_at hl 1 rfl) ?_
    obtain ⟨v12_0, v12_1, v12_2, v12_3, v12_4, v12_5, v12_6, hf12, t12_2, t12_6⟩ := op3 I t_o0
    refine cG C9 V t_o0.1 hf12 rfl tC_lay3 4 (by decide) tCf_X4_24 (Or.inl rfl) rfl dX4_free_24 ?_
    refine lv_if_eq (tgt := 38) hx hb dX4_free_27 (by decide) (fun c13 => ?_) (fun c13 => ?_)
    · refine lv_aload_n hx hb dX4_free_38 rfl (lv_at hl 0 rfl) ?_
      refine lv_iconst (v := 1) hx hb dX4_free_39 (by decide) ?_
      obtain ⟨v14_0, v14_1, v14_2, v14_3, v14_4, v14_5, v14_6, v14_7, v14_8, v14_9, v14_10, v14_11, v14_12, hf14, t14_7, t14_8, t14_11⟩ := op7 I hy11
      refine cP (v := .int 1) (ty := .int) C9 V hS hy11.1 hf14 rfl tC_lay7 tyX8 tyX8_ok nmX8 1 (by decide) tCf_X4_102 rfl rfl (by decide +kernel) rfl rfl (Nat.le_of_ble_eq_true rfl) dX4_free_40 (fun f15 H locs ef15 V hS => ?_)
      have hf16 : f15 y11 = .inr (7, [.int v14_0, .int 1, .int v14_2, .int v14_3, .int v14_4, .int v14_5, .long v14_6, va_rf v14_7, va_rf v14_8, .int v14_9, .int v14_10, .ref v14_11, .int v14_12]) := up_s ef15
      have I := cI_up I hy11.2 ef15 (mk7 t14_7 t14_8 t14_11)
      have hf17 := up_n ef15 hy11.2 t_o0.2 (by first | decide | omega) hf12
      exact cRetV C9 hr hlk hN hNs V I hS (rfl) dX4_free_43
    · refine lv_aload_n hx hb dX4_free_30 rfl (lv_at hl 1 rfl) ?_
      refine lv_aload_n hx hb dX4_free_31 rfl (lv_at hl 0 rfl) ?_
      refine cGoV (cRunV (As := [.ref y11]) (rest := []) C9 hml hN hNs V I hS t_o0.1 hf12 rfl (c_X4_have l D ks τ L A N hN ψ f8 o0 y11 t_o0 hy11 ) gC_X4_99 okC_X4_have ⟨rfl, rfl, Nat.le_of_ble_eq_true rfl, Nat.le_of_ble_eq_true rfl⟩ hl.1 rfl (Nat.le_of_ble_eq_true rfl) dX4_free_32 ⟨Nat.zero_le _, Nat.zero_le _⟩) hS (fun p19 f18 H locs hqf18 V I hS => ?_)
      have I : cI ks τ L ψ f18 := by rw [show p19 = ψ from hqf18] at I; exact I
      refine lv_goto (tgt := 43) hx hb dX4_free_35 (by decide) ?_
      exact cRetV C9 hr hlk hN hNs V I hS (rfl) dX4_free_43
set_option maxHeartbeats 200000 in
set_option maxRecDepth 100000 in
theorem c_X4_grabOrStandIn (l : Launch) (D : va_G) (ks : kS) (τ : Nat → Nat) (L : List Nat) (A : Nat → Prop) (N : State → Prop) (hN : cNk A N) (ψ : Int32) (f : Nat → va_E) (o0 : Nat) (o1 : Nat) (t_o0 : ty τ L o0 3) (t_o1 : ty τ L o1 7) : Met l yX4_grabOrStandIn (Cond.code yX4_grabOrStandIn cX4_grabOrStandIn 2 none :: tC) ({ frames := 2, cells := 0, slots := 0, locals := 43 }) (va_Pc [.ref o0, .ref o1] (cB D ks τ L A N (ψ, f))) (va_Qv (fun x9 => x9.1 = ψ) (cB D ks τ L A N) A) 0 0 A := by
  refine cMet (own := RX4) (by decide) rfl (Nat.le_of_ble_eq_true rfl) ?_
  intro p e s m below meth c ls C9 hml hr hlk V I hNs hl
  have hx := C9.1
  have hb := C9.2.1
  have hown := C9.2.2.1
  have hts := C9.2.2.2.1
  have hS : va_S A s.heap s.heap [] := va_S.rf
  have hl : lv_has ls 2 [(0, .ref o0), (1, .ref o1)] := hl
  refine lv_aload_n hx hb dX4_grabOrStandIn_0 rfl (lv_at hl 0 rfl) ?_
  refine lv_aload_n hx hb dX4_grabOrStandIn_1 rfl (lv_at hl 1 rfl) ?_
  obtain ⟨v1_0, v1_1, v1_2, v1_3, v1_4, v1_5, v1_6, hf1, t1_2, t1_6⟩ := op3 I t_o0
  refine cGoI (cRunV (As := [.ref o1]) (rest := []) C9 hml hN hNs V I hS t_o0.1 hf1 rfl (c_X4_isGrabbed l D ks τ L A N hN ψ f o0 o1 t_o0 t_o1 ) gC_X4_41 okC_X4_isGrabbed ⟨rfl, rfl, Nat.le_of_ble_eq_true rfl, Nat.le_of_ble_eq_true rfl⟩ hl.1 rfl (Nat.le_of_ble_eq_true rfl) dX4_grabOrStandIn_2 ⟨Nat.zero_le _, Nat.zero_le _⟩) hS (fun r4 p3 f2 H locs hqf2 V I hS => ?_)
  have I : cI ks τ L ψ f2 := by rw [show p3 = ψ from hqf2] at I; exact I
  refine lv_if_eq (tgt := 15) hx hb dX4_grabOrStandIn_5 (by decide) (fun c5 => ?_) (fun c5 => ?_)
  · refine lv_aload_n hx hb dX4_grabOrStandIn_15 rfl (lv_at hl 1 rfl) ?_
    refine lv_aload_n hx hb dX4_grabOrStandIn_16 rfl (lv_at hl 0 rfl) ?_
    obtain ⟨v6_0, v6_1, v6_2, v6_3, v6_4, v6_5, v6_6, hf6, t6_2, t6_6⟩ := op3 I t_o0
    refine cG C9 V t_o0.1 hf6 rfl tC_lay3 2 (by decide) tCf_X4_92 (Or.inr tCs_X4_row) rfl dX4_grabOrStandIn_17 ?_
    refine lv_aload_n hx hb dX4_grabOrStandIn_20 rfl (lv_at hl 0 rfl) ?_
    obtain ⟨v7_0, v7_1, v7_2, v7_3, v7_4, v7_5, v7_6, v7_7, v7_8, v7_9, v7_10, v7_11, v7_12, hf7, t7_7, t7_8, t7_11⟩ := op7 I t_o1
    refine cGoV (cRunV (As := [.ref v6_2, .ref o0]) (rest := []) C9 hml hN hNs V I hS t_o1.1 hf7 rfl (c_X8_standIn l D ks τ L A N hN ψ f2 o1 v6_2 o0 t_o1 t6_2 (tyS_of t_o0 (by decide)) ) gC_X4_88 okC_X8_standIn ⟨rfl, rfl, Nat.le_of_ble_eq_true rfl, Nat.le_of_ble_eq_true rfl⟩ hl.1 rfl (Nat.le_of_ble_eq_true rfl) dX4_grabOrStandIn_21 ⟨Nat.zero_le _, Nat.zero_le _⟩) hS (fun p9 f8 H locs hqf8 V I hS => ?_)
    have I : cI ks τ L ψ f8 := by rw [show p9 = ψ from hqf8] at I; exact I
    exact cRetV C9 hr hlk hN hNs V I hS (rfl) dX4_grabOrStandIn_24
  · refine lv_aload_n hx hb dX4_grabOrStandIn_8 rfl (lv_at hl 1 rfl) ?_
    obtain ⟨v11_0, v11_1, v11_2, v11_3, v11_4, v11_5, v11_6, v11_7, v11_8, v11_9, v11_10, v11_11, v11_12, hf11, t11_7, t11_8, t11_11⟩ := op7 I t_o1
    refine cGoV (cRunV (As := []) (rest := []) C9 hml hN hNs V I hS t_o1.1 hf11 rfl (c_X8_goOn l D ks τ L A N hN ψ f2 o1 t_o1 ) gC_X4_60 okC_X8_goOn ⟨rfl, rfl, Nat.le_of_ble_eq_true rfl, Nat.le_of_ble_eq_true rfl⟩ hl.1 rfl (Nat.le_of_ble_eq_true rfl) dX4_grabOrStandIn_9 ⟨Nat.zero_le _, Nat.zero_le _⟩) hS (fun p13 f12 H locs hqf12 V I hS => ?_)
    have I : cI ks τ L ψ f12 := by rw [show p13 = ψ from hqf12] at I; exact I
    refine lv_goto (tgt := 24) hx hb dX4_grabOrStandIn_12 (by decide) ?_
    exact cRetV C9 hr hlk hN hNs V I hS (rfl) dX4_grabOrStandIn_24
set_option maxHeartbeats 200000 in
set_option maxRecDepth 100000 in
theorem c_X4_tryAgain (l : Launch) (D : va_G) (ks : kS) (τ : Nat → Nat) (L : List Nat) (A : Nat → Prop) (N : State → Prop) (hN : cNk A N) (ψ : Int32) (f : Nat → va_E) (o0 : Nat) (o1 : Nat) (t_o0 : ty τ L o0 3) (t_o1 : ty τ L o1 7) : Met l yX4_tryAgain (Cond.code yX4_tryAgain cX4_tryAgain 2 none :: tC) ({ frames := 3, cells := 0, slots := 0, locals := 64 }) (va_Pc [.ref o0, .ref o1] (cB D ks τ L A N (ψ, f))) (va_Qv (fun x9 => x9.1 = ψ) (cB D ks τ L A N) A) 0 0 A := by
  refine cMet (own := RX4) (by decide) rfl (Nat.le_of_ble_eq_true rfl) ?_
  intro p e s m below meth c ls C9 hml hr hlk V I hNs hl
  have hx := C9.1
  have hb := C9.2.1
  have hown := C9.2.2.1
  have hts := C9.2.2.2.1
  have hS : va_S A s.heap s.heap [] := va_S.rf
  have hl : lv_has ls 2 [(0, .ref o0), (1, .ref o1)] := hl
  refine lv_aload_n hx hb dX4_tryAgain_0 rfl (lv_at hl 0 rfl) ?_
  obtain ⟨v1_0, v1_1, v1_2, v1_3, v1_4, v1_5, v1_6, hf1, t1_2, t1_6⟩ := op3 I t_o0
  refine cG C9 V t_o0.1 hf1 rfl tC_lay3 3 (by decide) tCf_X4_9 (Or.inl rfl) rfl dX4_tryAgain_1 ?_
  refine lv_iconst (v := (-1)) hx hb dX4_tryAgain_4 (by decide) ?_
  refine lv_icmp_ne (tgt := 16) hx hb dX4_tryAgain_5 (by decide) (fun c2 => ?_) (fun c2 => ?_)
  · refine lv_aload_n hx hb dX4_tryAgain_16 rfl (lv_at hl 1 rfl) ?_
    refine lv_iconst (v := 2) hx hb dX4_tryAgain_17 (by decide) ?_
    obtain ⟨v3_0, v3_1, v3_2, v3_3, v3_4, v3_5, v3_6, v3_7, v3_8, v3_9, v3_10, v3_11, v3_12, hf3, t3_7, t3_8, t3_11⟩ := op7 I t_o1
    refine cP (v := .int 2) (ty := .int) C9 V hS t_o1.1 hf3 rfl tC_lay7 tyX8 tyX8_ok nmX8 1 (by decide) tCf_X4_102 rfl rfl (by decide +kernel) rfl rfl (Nat.le_of_ble_eq_true rfl) dX4_tryAgain_18 (fun f4 H locs ef4 V hS => ?_)
    have hf5 : f4 o1 = .inr (7, [.int v3_0, .int 2, .int v3_2, .int v3_3, .int v3_4, .int v3_5, .long v3_6, va_rf v3_7, va_rf v3_8, .int v3_9, .int v3_10, .ref v3_11, .int v3_12]) := up_s ef4
    have I := cI_up I t_o1.2 ef4 (mk7 t3_7 t3_8 t3_11)
    have hf6 := up_n ef4 t_o1.2 t_o0.2 (by first | decide | omega) hf1
    exact cRetV C9 hr hlk hN hNs V I hS (rfl) dX4_tryAgain_21
  · refine lv_aload_n hx hb dX4_tryAgain_8 rfl (lv_at hl 0 rfl) ?_
    refine lv_aload_n hx hb dX4_tryAgain_9 rfl (lv_at hl 1 rfl) ?_
    refine cGoV (cRunV (As := [.ref o1]) (rest := []) C9 hml hN hNs V I hS t_o0.1 hf1 rfl (c_X4_have l D ks τ L A N hN ψ f o0 o1 t_o0 t_o1 ) gC_X4_99 okC_X4_have ⟨rfl, rfl, Nat.le_of_ble_eq_true rfl, Nat.le_of_ble_eq_true rfl⟩ hl.1 rfl (Nat.le_of_ble_eq_true rfl) dX4_tryAgain_10 ⟨Nat.zero_le _, Nat.zero_le _⟩) hS (fun p8 f7 H locs hqf7 V I hS => ?_)
    have I : cI ks τ L ψ f7 := by rw [show p8 = ψ from hqf7] at I; exact I
    refine lv_goto (tgt := 21) hx hb dX4_tryAgain_13 (by decide) ?_
    exact cRetV C9 hr hlk hN hNs V I hS (rfl) dX4_tryAgain_21
set_option maxHeartbeats 200000 in
set_option maxRecDepth 100000 in
theorem c_X4_comeToFirst (l : Launch) (D : va_G) (ks : kS) (τ : Nat → Nat) (L : List Nat) (A : Nat → Prop) (N : State → Prop) (hN : cNk A N) (ψ : Int32) (f : Nat → va_E) (o0 : Nat) (o1 : Nat) (i1 : Int32) (t_o0 : ty τ L o0 3) (t_o1 : ty τ L o1 7) : Met l yX4_comeToFirst (Cond.code yX4_comeToFirst cX4_comeToFirst 3 none :: tC) ({ frames := 2, cells := 0, slots := 0, locals := 43 }) (va_Pc [.ref o0, .ref o1, .int i1] (cB D ks τ L A N (ψ, f))) (va_Qv (fun x9 => x9.1 = ψ) (cB D ks τ L A N) A) 0 0 A := by
  refine cMet (own := RX4) (by decide) rfl (Nat.le_of_ble_eq_true rfl) ?_
  intro p e s m below meth c ls C9 hml hr hlk V I hNs hl
  have hx := C9.1
  have hb := C9.2.1
  have hown := C9.2.2.1
  have hts := C9.2.2.2.1
  have hS : va_S A s.heap s.heap [] := va_S.rf
  have hl : lv_has ls 3 [(0, .ref o0), (1, .ref o1), (2, .int i1)] := hl
  refine lv_aload_n hx hb dX4_comeToFirst_0 rfl (lv_at hl 0 rfl) ?_
  obtain ⟨v1_0, v1_1, v1_2, v1_3, v1_4, v1_5, v1_6, hf1, t1_2, t1_6⟩ := op3 I t_o0
  refine cG C9 V t_o0.1 hf1 rfl tC_lay3 6 (by decide) tCf_X4_20 (Or.inl rfl) rfl dX4_comeToFirst_1 ?_
  refine lv_aload_n hx hb dX4_comeToFirst_4 rfl (lv_at hl 1 rfl) ?_
  obtain ⟨v2_0, v2_1, hf2, hn2, t2_1⟩ := op5 I t1_6
  refine cGoV (cRunV (As := [.ref o1]) (rest := []) C9 hml hN hNs V I hS t1_6.1 hf2 rfl (c_X6_remove l D ks τ L A N hN ψ f v1_6 o1 t1_6 t_o1 ) gC_X4_115 okC_X6_remove ⟨rfl, rfl, Nat.le_of_ble_eq_true rfl, Nat.le_of_ble_eq_true rfl⟩ hl.1 rfl (Nat.le_of_ble_eq_true rfl) dX4_comeToFirst_5 ⟨Nat.zero_le _, Nat.zero_le _⟩) hS (fun p4 f3 H locs hqf3 V I hS => ?_)
  have I : cI ks τ L ψ f3 := by rw [show p4 = ψ from hqf3] at I; exact I
  refine lv_aload_n hx hb dX4_comeToFirst_8 rfl (lv_at hl 1 rfl) ?_
  refine lv_iload_n hx hb dX4_comeToFirst_9 rfl (lv_at hl 2 rfl) ?_
  obtain ⟨v6_0, v6_1, v6_2, v6_3, v6_4, v6_5, v6_6, v6_7, v6_8, v6_9, v6_10, v6_11, v6_12, hf6, t6_7, t6_8, t6_11⟩ := op7 I t_o1
  refine cP (v := .int i1) (ty := .int) C9 V hS t_o1.1 hf6 rfl tC_lay7 tyX8 tyX8_ok nmX8 10 (by decide) tCf_X4_105 rfl rfl (by decide +kernel) rfl rfl (Nat.le_of_ble_eq_true rfl) dX4_comeToFirst_10 (fun f7 H locs ef7 V hS => ?_)
  have hf8 : f7 o1 = .inr (7, [.int v6_0, .int v6_1, .int v6_2, .int v6_3, .int v6_4, .int v6_5, .long v6_6, va_rf v6_7, va_rf v6_8, .int v6_9, .int i1, .ref v6_11, .int v6_12]) := up_s ef7
  have I := cI_up I t_o1.2 ef7 (mk7 t6_7 t6_8 t6_11)
  refine lv_aload_n hx hb dX4_comeToFirst_13 rfl (lv_at hl 1 rfl) ?_
  refine lv_aload_n hx hb dX4_comeToFirst_14 rfl (lv_at hl 0 rfl) ?_
  obtain ⟨v9_0, v9_1, v9_2, v9_3, v9_4, v9_5, v9_6, hf9, t9_2, t9_6⟩ := op3 I t_o0
  refine cG C9 V t_o0.1 hf9 rfl tC_lay3 2 (by decide) tCf_X4_92 (Or.inr tCs_X4_row) rfl dX4_comeToFirst_15 ?_
  refine lv_aload_n hx hb dX4_comeToFirst_18 rfl (lv_at hl 0 rfl) ?_
  refine cGoV (cRunV (As := [.ref v9_2, .ref o0]) (rest := []) C9 hml hN hNs V I hS t_o1.1 hf8 rfl (c_X8_standIn l D ks τ L A N hN ψ f7 o1 v9_2 o0 t_o1 t9_2 (tyS_of t_o0 (by decide)) ) gC_X4_88 okC_X8_standIn ⟨rfl, rfl, Nat.le_of_ble_eq_true rfl, Nat.le_of_ble_eq_true rfl⟩ hl.1 rfl (Nat.le_of_ble_eq_true rfl) dX4_comeToFirst_19 ⟨Nat.zero_le _, Nat.zero_le _⟩) hS (fun p11 f10 H locs hqf10 V I hS => ?_)
  have I : cI ks τ L ψ f10 := by rw [show p11 = ψ from hqf10] at I; exact I
  exact cRetV C9 hr hlk hN hNs V I hS (rfl) dX4_comeToFirst_22
set_option maxHeartbeats 200000 in
set_option maxRecDepth 100000 in
theorem c_X4_hasStrands (l : Launch) (D : va_G) (ks : kS) (τ : Nat → Nat) (L : List Nat) (A : Nat → Prop) (N : State → Prop) (hN : cNk A N) (ψ : Int32) (f : Nat → va_E) (o0 : Nat) (t_o0 : ty τ L o0 3) : Met l yX4_hasStrands (Cond.code yX4_hasStrands cX4_hasStrands 1 (some .boolean) :: tC) ({ frames := 0, cells := 0, slots := 0, locals := 0 }) (va_Pc [.ref o0] (cB D ks τ L A N (ψ, f))) (va_Qi (fun r9 x9 => x9.1 = ψ) (cB D ks τ L A N) A) 0 0 A := by
  refine cMet (own := RX4) (by decide) rfl (Nat.le_of_ble_eq_true rfl) ?_
  intro p e s m below meth c ls C9 hml hr hlk V I hNs hl
  have hx := C9.1
  have hb := C9.2.1
  have hown := C9.2.2.1
  have hts := C9.2.2.2.1
  have hS : va_S A s.heap s.heap [] := va_S.rf
  have hl : lv_has ls 1 [(0, .ref o0)] := hl
  refine lv_aload_n hx hb dX4_hasStrands_0 rfl (lv_at hl 0 rfl) ?_
  obtain ⟨v1_0, v1_1, v1_2, v1_3, v1_4, v1_5, v1_6, hf1, t1_2, t1_6⟩ := op3 I t_o0
  refine cG C9 V t_o0.1 hf1 rfl tC_lay3 2 (by decide) tCf_X4_92 (Or.inr tCs_X4_row) rfl dX4_hasStrands_1 ?_
  obtain ⟨v2_0, v2_1, hf2, hn2, t2_1⟩ := op5 I t1_2
  refine cG C9 V t1_2.1 hf2 rfl tC_lay5 0 (by decide) tCf_X4_75 (Or.inl rfl) rfl dX4_hasStrands_4 ?_
  refine lv_if_gt (tgt := 20) hx hb dX4_hasStrands_7 (by decide) (fun c3 => ?_) (fun c3 => ?_)
  · refine lv_iconst (v := 1) hx hb dX4_hasStrands_20 (by decide) ?_
    refine lv_goto (tgt := 25) hx hb dX4_hasStrands_21 (by decide) ?_
    exact cRetZ C9 hr hlk hN hNs V I hS (by clear V hS hl C9 hts hown hx hb hml hr hlk; first | rfl | decide | (subst_vars; rfl)) (rfl) dX4_hasStrands_25
  · refine lv_aload_n hx hb dX4_hasStrands_10 rfl (lv_at hl 0 rfl) ?_
    refine cG C9 V t_o0.1 hf1 rfl tC_lay3 6 (by decide) tCf_X4_20 (Or.inl rfl) rfl dX4_hasStrands_11 ?_
    obtain ⟨v4_0, v4_1, hf4, hn4, t4_1⟩ := op5 I t1_6
    refine cG C9 V t1_6.1 hf4 rfl tC_lay5 0 (by decide) tCf_X4_75 (Or.inl rfl) rfl dX4_hasStrands_14 ?_
    refine lv_if_le (tgt := 24) hx hb dX4_hasStrands_17 (by decide) (fun c5 => ?_) (fun c5 => ?_)
    · refine lv_iconst (v := 0) hx hb dX4_hasStrands_24 (by decide) ?_
      exact cRetZ C9 hr hlk hN hNs V I hS (by clear V hS hl C9 hts hown hx hb hml hr hlk; first | rfl | decide | (subst_vars; rfl)) (rfl) dX4_hasStrands_25
    · refine lv_iconst (v := 1) hx hb dX4_hasStrands_20 (by decide) ?_
      refine lv_goto (tgt := 25) hx hb dX4_hasStrands_21 (by decide) ?_
      exact cRetZ C9 hr hlk hN hNs V I hS (by clear V hS hl C9 hts hown hx hb hml hr hlk; first | rfl | decide | (subst_vars; rfl)) (rfl) dX4_hasStrands_25
set_option maxHeartbeats 200000 in
set_option maxRecDepth 100000 in
theorem c_X4_value (l : Launch) (D : va_G) (ks : kS) (τ : Nat → Nat) (L : List Nat) (A : Nat → Prop) (N : State → Prop) (hN : cNk A N) (ψ : Int32) (f : Nat → va_E) (o0 : Nat) (t_o0 : ty τ L o0 3) : Met l yX4_value (Cond.code yX4_value cX4_value 1 (some .long) :: tC) ({ frames := 0, cells := 0, slots := 0, locals := 0 }) (va_Pc [.ref o0] (cB D ks τ L A N (ψ, f))) (va_Ql (fun r9 x9 => x9.1 = ψ) (cB D ks τ L A N) A) 0 0 A := by
  refine cMet (own := RX4) (by decide) rfl (Nat.le_of_ble_eq_true rfl) ?_
  intro p e s m below meth c ls C9 hml hr hlk V I hNs hl
  have hx := C9.1
  have hb := C9.2.1
  have hown := C9.2.2.1
  have hts := C9.2.2.2.1
  have hS : va_S A s.heap s.heap [] := va_S.rf
  have hl : lv_has ls 1 [(0, .ref o0)] := hl
  refine lv_aload_n hx hb dX4_value_0 rfl (lv_at hl 0 rfl) ?_
  obtain ⟨v1_0, v1_1, v1_2, v1_3, v1_4, v1_5, v1_6, hf1, t1_2, t1_6⟩ := op3 I t_o0
  refine cG C9 V t_o0.1 hf1 rfl tC_lay3 5 (by decide) tCf_X4_63 (Or.inl rfl) rfl dX4_value_1 ?_
  refine lv_i2l hx hb dX4_value_4 rfl ?_
  exact cRetL C9 hr hlk hN hNs V I hS (rfl) dX4_value_5
set_option maxHeartbeats 200000 in
set_option maxRecDepth 100000 in
theorem c_X4_tells (l : Launch) (D : va_G) (ks : kS) (τ : Nat → Nat) (L : List Nat) (A : Nat → Prop) (N : State → Prop) (hN : cNk A N) (ψ : Int32) (f : Nat → va_E) (o0 : Nat) (i1 : Int32) (t_o0 : ty τ L o0 3) : Met l yX4_tells (Cond.code yX4_tells cX4_tells 2 (some .boolean) :: tC) ({ frames := 0, cells := 0, slots := 0, locals := 0 }) (va_Pc [.ref o0, .int i1] (cB D ks τ L A N (ψ, f))) (va_Qi (fun r9 x9 => x9.1 = ψ) (cB D ks τ L A N) A) 0 0 A := by
  refine cMet (own := RX4) (by decide) rfl (Nat.le_of_ble_eq_true rfl) ?_
  intro p e s m below meth c ls C9 hml hr hlk V I hNs hl
  have hx := C9.1
  have hb := C9.2.1
  have hown := C9.2.2.1
  have hts := C9.2.2.2.1
  have hS : va_S A s.heap s.heap [] := va_S.rf
  have hl : lv_has ls 2 [(0, .ref o0), (1, .int i1)] := hl
  refine lv_iload_n hx hb dX4_tells_0 rfl (lv_at hl 1 rfl) ?_
  refine lv_iconst (v := 3) hx hb dX4_tells_1 (by decide) ?_
  refine lv_icmp_gt (tgt := 9) hx hb dX4_tells_2 (by decide) (fun c1 => ?_) (fun c1 => ?_)
  · refine lv_iconst (v := 0) hx hb dX4_tells_9 (by decide) ?_
    exact cRetZ C9 hr hlk hN hNs V I hS (by clear V hS hl C9 hts hown hx hb hml hr hlk; first | rfl | decide | (subst_vars; rfl)) (rfl) dX4_tells_10
  · refine lv_iconst (v := 1) hx hb dX4_tells_5 (by decide) ?_
    refine lv_goto (tgt := 10) hx hb dX4_tells_6 (by decide) ?_
    exact cRetZ C9 hr hlk hN hNs V I hS (by clear V hS hl C9 hts hown hx hb hml hr hlk; first | rfl | decide | (subst_vars; rfl)) (rfl) dX4_tells_10
set_option maxHeartbeats 200000 in
set_option maxRecDepth 100000 in
theorem c_X4_detail (l : Launch) (D : va_G) (ks : kS) (τ : Nat → Nat) (L : List Nat) (A : Nat → Prop) (N : State → Prop) (hN : cNk A N) (ψ : Int32) (f : Nat → va_E) (o0 : Nat) (i1 : Int32) (t_o0 : ty τ L o0 3) : Met l yX4_detail (Cond.code yX4_detail cX4_detail 2 (some .long) :: tC) ({ frames := 0, cells := 0, slots := 0, locals := 0 }) (va_Pc [.ref o0, .int i1] (cB D ks τ L A N (ψ, f))) (va_Ql (fun r9 x9 => x9.1 = ψ) (cB D ks τ L A N) A) 0 0 A := by
  refine cMet (own := RX4) (by decide) rfl (Nat.le_of_ble_eq_true rfl) ?_
  intro p e s m below meth c ls C9 hml hr hlk V I hNs hl
  have hx := C9.1
  have hb := C9.2.1
  have hown := C9.2.2.1
  have hts := C9.2.2.2.1
  have hS : va_S A s.heap s.heap [] := va_S.rf
  have hl : lv_has ls 2 [(0, .ref o0), (1, .int i1)] := hl
  refine lv_iload_n hx hb dX4_detail_0 rfl (lv_at hl 1 rfl) ?_
  refine lv_iconst (v := 2) hx hb dX4_detail_1 (by decide) ?_
  refine lv_icmp_ne (tgt := 13) hx hb dX4_detail_2 (by decide) (fun c1 => ?_) (fun c1 => ?_)
  · refine lv_aload_n hx hb dX4_detail_13 rfl (lv_at hl 0 rfl) ?_
    obtain ⟨v2_0, v2_1, v2_2, v2_3, v2_4, v2_5, v2_6, hf2, t2_2, t2_6⟩ := op3 I t_o0
    refine cG C9 V t_o0.1 hf2 rfl tC_lay3 6 (by decide) tCf_X4_20 (Or.inl rfl) rfl dX4_detail_14 ?_
    obtain ⟨v3_0, v3_1, hf3, hn3, t3_1⟩ := op5 I t2_6
    refine cG C9 V t2_6.1 hf3 rfl tC_lay5 0 (by decide) tCf_X4_75 (Or.inl rfl) rfl dX4_detail_17 ?_
    refine lv_i2l hx hb dX4_detail_20 rfl ?_
    exact cRetL C9 hr hlk hN hNs V I hS (rfl) dX4_detail_21
  · refine lv_aload_n hx hb dX4_detail_5 rfl (lv_at hl 0 rfl) ?_
    obtain ⟨v4_0, v4_1, v4_2, v4_3, v4_4, v4_5, v4_6, hf4, t4_2, t4_6⟩ := op3 I t_o0
    refine cG C9 V t_o0.1 hf4 rfl tC_lay3 3 (by decide) tCf_X4_9 (Or.inl rfl) rfl dX4_detail_6 ?_
    refine lv_i2l hx hb dX4_detail_9 rfl ?_
    refine lv_goto (tgt := 21) hx hb dX4_detail_10 (by decide) ?_
    exact cRetL C9 hr hlk hN hNs V I hS (rfl) dX4_detail_21
end
section
theorem cu_m {x y n : Int32} (e : y = x + 1) (h0 : 0 ≤ x) (h : x < n) : 0 ≤ y ∧ 0 ≤ (if y ≤ n then n - y else 0) ∧ (if y ≤ n then n - y else 0) < (if x ≤ n then n - x else 0) := by
  rw [if_pos (show x ≤ n by grind), if_pos (show y ≤ n by grind)]
  have q := ca_dec e h0 h
  exact ⟨(ca_up e h0 h).1, q.1, q.2⟩

set_option maxHeartbeats 200000 in
set_option maxRecDepth 100000 in
theorem c_X4_callUp (l : Launch) (D : va_G) (ks : kS) (τ : Nat → Nat) (L : List Nat) (A : Nat → Prop) (N : State → Prop) (hN : cNk A N) (ψ : Int32) (f : Nat → va_E) (o0 : Nat) (i1 : Int32) (t_o0 : ty τ L o0 3) : Met l yX4_callUp (Cond.code yX4_callUp cX4_callUp 4 none :: tC) ({ frames := 3, cells := 0, slots := 0, locals := 65 }) (va_Pc [.ref o0, .int i1] (cB D ks τ L A N (ψ, f))) (va_Qv (fun x9 => x9.1 = ψ) (cB D ks τ L A N) A) 0 0 A := by
  refine cMet (own := RX4) (by decide) rfl (Nat.le_of_ble_eq_true rfl) ?_
  intro p e s m below meth c ls C9 hml hr hlk V I hNs hl
  have hx := C9.1
  have hb := C9.2.1
  have hown := C9.2.2.1
  have hts := C9.2.2.2.1
  have hS : va_S A s.heap s.heap [] := va_S.rf
  have hl : lv_has ls 4 [(0, .ref o0), (1, .int i1)] := hl
  refine lv_iconst (v := 0) hx hb dX4_callUp_0 (by decide) ?_
  refine lv_topi (fun x1 ex1 => ?_)
  refine lv_istore_n (lv' := [(2, .int x1), (0, .ref o0), (1, .int i1)]) hx hb dX4_callUp_1 rfl hl (by decide) rfl (fun ls hl => ?_)
  have loop2 : ∀ (N9 : Nat) (w2_2 : Int32) (F2 : Nat → va_E) (H : Heap) (locs : List Loc) (ls : Array Slot), cI ks τ L ψ F2 → (0 ≤ w2_2) → ((if w2_2 ≤ i1 then i1 - w2_2 else 0).toInt.toNat) < N9 → cV D L F2 A H → va_S A s.heap H locs → lv_has ls 4 [(0, .ref o0), (1, .int i1), (2, .int w2_2)] → W p l e ({ frames := 3, cells := 0, slots := 0, locals := 65 } : Room) s m ([.ref o0, .int i1] : List Value).toArray below meth c H locs 0 0 (MQ below (va_Qv (fun x9 => x9.1 = ψ) (cB D ks τ L A N) A) ([.ref o0, .int i1] : List Value).toArray s 0 0 A) (F0 m 2 ls []) := by
    intro N9
    induction N9 with
    | zero => intro w2_2 F2 H locs ls I hi2 hm2; exact absurd hm2 (Nat.not_lt_zero _)
    | succ N9 ih2 =>
      intro w2_2 F2 H locs ls I hi2 hm2 V hS hl
      refine lv_iload_n hx hb dX4_callUp_2 rfl (lv_at hl 2 rfl) ?_
      refine lv_iload_n hx hb dX4_callUp_3 rfl (lv_at hl 1 rfl) ?_
      refine lv_icmp_ge (tgt := 32) hx hb dX4_callUp_4 (by decide) (fun c2 => ?_) (fun c2 => ?_)
      · exact cRetV C9 hr hlk hN hNs V I hS (rfl) dX4_callUp_32
      · refine lv_aload_n hx hb dX4_callUp_7 rfl (lv_at hl 0 rfl) ?_
        obtain ⟨v3_0, v3_1, v3_2, v3_3, v3_4, v3_5, v3_6, hf3, t3_2, t3_6⟩ := op3 I t_o0
        refine cG C9 V t_o0.1 hf3 rfl tC_lay3 6 (by decide) tCf_X4_20 (Or.inl rfl) rfl dX4_callUp_8 ?_
        obtain ⟨v4_0, v4_1, hf4, hn4, t4_1⟩ := op5 I t3_6
        refine cGoQ (cRunV (As := []) (rest := []) C9 hml hN hNs V I hS t3_6.1 hf4 rfl (c_X6_first l D ks τ L A N hN ψ F2 v3_6 t3_6 ) gC_X4_95 okC_X6_first ⟨rfl, rfl, Nat.le_of_ble_eq_true rfl, Nat.le_of_ble_eq_true rfl⟩ hl.1 rfl (Nat.le_of_ble_eq_true rfl) dX4_callUp_11 ⟨Nat.zero_le _, Nat.zero_le _⟩) hS (fun r7 p6 f5 H locs hqf5 V I hS => ?_)
        have I : cI ks τ L ψ f5 := by rw [show p6 = ψ from hqf5.1] at I; exact I
        rcases r7 with _ | y8
        · refine W.eq (g2 := F0 m 14 ls [.null]) rfl ?_
          refine lv_astore_nN (lv' := [(3, .null), (0, .ref o0), (1, .int i1), (2, .int w2_2)]) hx hb dX4_callUp_14 rfl hl (by decide) rfl (fun ls hl => ?_)
          refine lv_aload_nN hx hb dX4_callUp_15 rfl (lv_at hl 0 rfl) ?_
          refine lv_ifnonnullN hx hb dX4_callUp_16 ?_
          exact cRetV C9 hr hlk hN hNs V I hS (rfl) dX4_callUp_19
        · have hy8 := hqf5.2 y8 rfl
          refine W.eq (g2 := F0 m 14 ls [.ref y8]) rfl ?_
          refine lv_astore_n (lv' := [(3, .ref y8), (0, .ref o0), (1, .int i1), (2, .int w2_2)]) hx hb dX4_callUp_14 rfl hl (by decide) rfl (fun ls hl => ?_)
          refine lv_aload_n hx hb dX4_callUp_15 rfl (lv_at hl 0 rfl) ?_
          refine lv_ifnonnull (tgt := 20) hx hb dX4_callUp_16 (by decide) ?_
          refine lv_aload_n hx hb dX4_callUp_20 rfl (lv_at hl 1 rfl) ?_
          refine lv_aload_n hx hb dX4_callUp_21 rfl (lv_at hl 0 rfl) ?_
          refine lv_iconst (v := 1) hx hb dX4_callUp_22 (by decide) ?_
          obtain ⟨v9_0, v9_1, v9_2, v9_3, v9_4, v9_5, v9_6, hf9, t9_2, t9_6⟩ := op3 I t_o0
          refine cGoV (cRunV (As := [.ref y8, .int 1]) (rest := []) C9 hml hN hNs V I hS t_o0.1 hf9 rfl (c_X4_comeToFirst l D ks τ L A N hN ψ f5 o0 y8 1 t_o0 hy8 ) gC_X4_111 okC_X4_comeToFirst ⟨rfl, rfl, Nat.le_of_ble_eq_true rfl, Nat.le_of_ble_eq_true rfl⟩ hl.1 rfl (Nat.le_of_ble_eq_true rfl) dX4_callUp_23 ⟨Nat.zero_le _, Nat.zero_le _⟩) hS (fun p11 f10 H locs hqf10 V I hS => ?_)
          have I : cI ks τ L ψ f10 := by rw [show p11 = ψ from hqf10] at I; exact I
          obtain ⟨x13, ex13⟩ : ∃ y : Int32, y = w2_2 + (1) := ⟨_, rfl⟩
          refine lv_iinc (v := x13) (lv' := [(2, .int x13), (3, .ref y8), (0, .ref o0), (1, .int i1)]) hx hb dX4_callUp_26 hl (k := 3) rfl (by rw [ex13]; rfl) (by decide) rfl (fun ls hl => ?_)
          refine lv_goto (tgt := 2) hx hb dX4_callUp_29 (by decide) ?_
          exact ih2 x13 f10 _ _ _ I ((cu_m ex13 hi2 (ci_lt c2)).1) (cmsd hm2 (cu_m ex13 hi2 (ci_lt c2)).2.1 (cu_m ex13 hi2 (ci_lt c2)).2.2) V hS (lv_sub hl [2, 3, 0] rfl)
  exact loop2 _ x1 f _ _ _ I (by clear V hS hl C9 hts hown hx hb hml hr hlk; subst_vars; decide) (Nat.lt_succ_self _) V hS (lv_sub hl [1, 2, 0] rfl)
set_option maxHeartbeats 200000 in
set_option maxRecDepth 100000 in
theorem c_X4_interruptWait (l : Launch) (D : va_G) (ks : kS) (τ : Nat → Nat) (L : List Nat) (A : Nat → Prop) (N : State → Prop) (hN : cNk A N) (ψ : Int32) (f : Nat → va_E) (o0 : Nat) (o1 : Nat) (t_o0 : ty τ L o0 3) (t_o1 : ty τ L o1 7) : Met l yX4_interruptWait (Cond.code yX4_interruptWait cX4_interruptWait 2 none :: tC) ({ frames := 4, cells := 0, slots := 0, locals := 85 }) (va_Pc [.ref o0, .ref o1] (cB D ks τ L A N (ψ, f))) (va_Qv (fun x9 => x9.1 = ψ) (cB D ks τ L A N) A) 0 0 A := by
  refine cMet (own := RX4) (by decide) rfl (Nat.le_of_ble_eq_true rfl) ?_
  intro p e s m below meth c ls C9 hml hr hlk V I hNs hl
  have hx := C9.1
  have hb := C9.2.1
  have hown := C9.2.2.1
  have hts := C9.2.2.2.1
  have hS : va_S A s.heap s.heap [] := va_S.rf
  have hl : lv_has ls 2 [(0, .ref o0), (1, .ref o1)] := hl
  refine lv_aload_n hx hb dX4_interruptWait_0 rfl (lv_at hl 1 rfl) ?_
  obtain ⟨v1_0, v1_1, v1_2, v1_3, v1_4, v1_5, v1_6, v1_7, v1_8, v1_9, v1_10, v1_11, v1_12, hf1, t1_7, t1_8, t1_11⟩ := op7 I t_o1
  refine cG C9 V t_o1.1 hf1 rfl tC_lay7 8 (by decide) tCf_X4_118 (Or.inl rfl) rfl dX4_interruptWait_1 ?_
  rcases v1_8 with _ | y2
  · refine W.eq (g2 := F0 m 4 ls [.null]) rfl ?_
    refine lv_aload_n hx hb dX4_interruptWait_4 rfl (lv_at hl 0 rfl) ?_
    obtain ⟨v3_0, v3_1, v3_2, v3_3, v3_4, v3_5, v3_6, hf3, t3_2, t3_6⟩ := op3 I t_o0
    refine cG C9 V t_o0.1 hf3 rfl tC_lay3 6 (by decide) tCf_X4_20 (Or.inl rfl) rfl dX4_interruptWait_5 ?_
    refine lv_acmp_eq (rx := none) (ry := (some v3_6)) (tgt := 18) hx hb dX4_interruptWait_8 (by decide) (fun c4 => ?_) (fun c4 => ?_)
    · refine lv_aload_n hx hb dX4_interruptWait_18 rfl (lv_at hl 0 rfl) ?_
      refine lv_aload_n hx hb dX4_interruptWait_19 rfl (lv_at hl 1 rfl) ?_
      refine lv_bipush (v := (-2)) hx hb dX4_interruptWait_20 (by decide) ?_
      refine cGoV (cRunV (As := [.ref o1, .int (-2)]) (rest := []) C9 hml hN hNs V I hS t_o0.1 hf3 rfl (c_X4_comeToFirst l D ks τ L A N hN ψ f o0 o1 (-2) t_o0 t_o1 ) gC_X4_111 okC_X4_comeToFirst ⟨rfl, rfl, Nat.le_of_ble_eq_true rfl, Nat.le_of_ble_eq_true rfl⟩ hl.1 rfl (Nat.le_of_ble_eq_true rfl) dX4_interruptWait_22 ⟨Nat.zero_le _, Nat.zero_le _⟩) hS (fun p6 f5 H locs hqf5 V I hS => ?_)
      have I : cI ks τ L ψ f5 := by rw [show p6 = ψ from hqf5] at I; exact I
      refine lv_aload_n hx hb dX4_interruptWait_25 rfl (lv_at hl 0 rfl) ?_
      obtain ⟨v8_0, v8_1, v8_2, v8_3, v8_4, v8_5, v8_6, hf8, t8_2, t8_6⟩ := op3 I t_o0
      refine cG C9 V t_o0.1 hf8 rfl tC_lay3 3 (by decide) tCf_X4_9 (Or.inl rfl) rfl dX4_interruptWait_26 ?_
      refine lv_iconst (v := (-1)) hx hb dX4_interruptWait_29 (by decide) ?_
      refine lv_icmp_ne (tgt := 48) hx hb dX4_interruptWait_30 (by decide) (fun c9 => ?_) (fun c9 => ?_)
      · exact cRetV C9 hr hlk hN hNs V I hS (rfl) dX4_interruptWait_48
      · refine lv_aload_n hx hb dX4_interruptWait_33 rfl (lv_at hl 0 rfl) ?_
        refine cG C9 V t_o0.1 hf8 rfl tC_lay3 2 (by decide) tCf_X4_92 (Or.inr tCs_X4_row) rfl dX4_interruptWait_34 ?_
        obtain ⟨v10_0, v10_1, hf10, hn10, t10_1⟩ := op5 I t8_2
        refine cG C9 V t8_2.1 hf10 rfl tC_lay5 0 (by decide) tCf_X4_75 (Or.inl rfl) rfl dX4_interruptWait_37 ?_
        refine lv_iconst (v := 1) hx hb dX4_interruptWait_40 (by decide) ?_
        refine lv_icmp_ne (tgt := 48) hx hb dX4_interruptWait_41 (by decide) (fun c11 => ?_) (fun c11 => ?_)
        · exact cRetV C9 hr hlk hN hNs V I hS (rfl) dX4_interruptWait_48
        · refine lv_aload_n hx hb dX4_interruptWait_44 rfl (lv_at hl 0 rfl) ?_
          refine cGoV (cRunV (As := []) (rest := []) C9 hml hN hNs V I hS t_o0.1 hf8 rfl (c_X4_free l D ks τ L A N hN ψ f5 o0 t_o0 ) gC_X4_66 okC_X4_free ⟨rfl, rfl, Nat.le_of_ble_eq_true rfl, Nat.le_of_ble_eq_true rfl⟩ hl.1 rfl (Nat.le_of_ble_eq_true rfl) dX4_interruptWait_45 ⟨Nat.zero_le _, Nat.zero_le _⟩) hS (fun p13 f12 H locs hqf12 V I hS => ?_)
          have I : cI ks τ L ψ f12 := by rw [show p13 = ψ from hqf12] at I; exact I
          exact cRetV C9 hr hlk hN hNs V I hS (rfl) dX4_interruptWait_48
    · refine lv_aload_n hx hb dX4_interruptWait_11 rfl (lv_at hl 1 rfl) ?_
      refine lv_bipush (v := (-2)) hx hb dX4_interruptWait_12 (by decide) ?_
      refine lv_topi (fun x15 ex15 => ?_)
      refine cP (v := .int x15) (ty := .int) C9 V hS t_o1.1 hf1 rfl tC_lay7 tyX8 tyX8_ok nmX8 10 (by decide) tCf_X4_105 rfl rfl (by decide +kernel) rfl rfl (Nat.le_of_ble_eq_true rfl) dX4_interruptWait_14 (fun f16 H locs ef16 V hS => ?_)
      have hf17 : f16 o1 = .inr (7, [.int v1_0, .int v1_1, .int v1_2, .int v1_3, .int v1_4, .int v1_5, .long v1_6, va_rf v1_7, va_rf none, .int v1_9, .int x15, .ref v1_11, .int v1_12]) := up_s ef16
      have I := cI_up I t_o1.2 ef16 (mk7 t1_7 tyO_n t1_11)
      have hf18 := up_n ef16 t_o1.2 t_o0.2 (by first | decide | omega) hf3
      exact cRetV C9 hr hlk hN hNs V I hS (rfl) dX4_interruptWait_17
  · have hy2 := t1_8 y2 rfl
    refine W.eq (g2 := F0 m 4 ls [.ref y2]) rfl ?_
    refine lv_aload_n hx hb dX4_interruptWait_4 rfl (lv_at hl 0 rfl) ?_
    obtain ⟨v19_0, v19_1, v19_2, v19_3, v19_4, v19_5, v19_6, hf19, t19_2, t19_6⟩ := op3 I t_o0
    refine cG C9 V t_o0.1 hf19 rfl tC_lay3 6 (by decide) tCf_X4_20 (Or.inl rfl) rfl dX4_interruptWait_5 ?_
    refine lv_acmp_eq (rx := (some y2)) (ry := (some v19_6)) (tgt := 18) hx hb dX4_interruptWait_8 (by decide) (fun c20 => ?_) (fun c20 => ?_)
    · refine lv_aload_n hx hb dX4_interruptWait_18 rfl (lv_at hl 0 rfl) ?_
      refine lv_aload_n hx hb dX4_interruptWait_19 rfl (lv_at hl 1 rfl) ?_
      refine lv_bipush (v := (-2)) hx hb dX4_interruptWait_20 (by decide) ?_
      refine cGoV (cRunV (As := [.ref o1, .int (-2)]) (rest := []) C9 hml hN hNs V I hS t_o0.1 hf19 rfl (c_X4_comeToFirst l D ks τ L A N hN ψ f o0 o1 (-2) t_o0 t_o1 ) gC_X4_111 okC_X4_comeToFirst ⟨rfl, rfl, Nat.le_of_ble_eq_true rfl, Nat.le_of_ble_eq_true rfl⟩ hl.1 rfl (Nat.le_of_ble_eq_true rfl) dX4_interruptWait_22 ⟨Nat.zero_le _, Nat.zero_le _⟩) hS (fun p22 f21 H locs hqf21 V I hS => ?_)
      have I : cI ks τ L ψ f21 := by rw [show p22 = ψ from hqf21] at I; exact I
      refine lv_aload_n hx hb dX4_interruptWait_25 rfl (lv_at hl 0 rfl) ?_
      obtain ⟨v24_0, v24_1, v24_2, v24_3, v24_4, v24_5, v24_6, hf24, t24_2, t24_6⟩ := op3 I t_o0
      refine cG C9 V t_o0.1 hf24 rfl tC_lay3 3 (by decide) tCf_X4_9 (Or.inl rfl) rfl dX4_interruptWait_26 ?_
      refine lv_iconst (v := (-1)) hx hb dX4_interruptWait_29 (by decide) ?_
      refine lv_icmp_ne (tgt := 48) hx hb dX4_interruptWait_30 (by decide) (fun c25 => ?_) (fun c25 => ?_)
      · exact cRetV C9 hr hlk hN hNs V I hS (rfl) dX4_interruptWait_48
      · refine lv_aload_n hx hb dX4_interruptWait_33 rfl (lv_at hl 0 rfl) ?_
        refine cG C9 V t_o0.1 hf24 rfl tC_lay3 2 (by decide) tCf_X4_92 (Or.inr tCs_X4_row) rfl dX4_interruptWait_34 ?_
        obtain ⟨v26_0, v26_1, hf26, hn26, t26_1⟩ := op5 I t24_2
        refine cG C9 V t24_2.1 hf26 rfl tC_lay5 0 (by decide) tCf_X4_75 (Or.inl rfl) rfl dX4_interruptWait_37 ?_
        refine lv_iconst (v := 1) hx hb dX4_interruptWait_40 (by decide) ?_
        refine lv_icmp_ne (tgt := 48) hx hb dX4_interruptWait_41 (by decide) (fun c27 => ?_) (fun c27 => ?_)
        · exact cRetV C9 hr hlk hN hNs V I hS (rfl) dX4_interruptWait_48
        · refine lv_aload_n hx hb dX4_interruptWait_44 rfl (lv_at hl 0 rfl) ?_
          refine cGoV (cRunV (As := []) (rest := []) C9 hml hN hNs V I hS t_o0.1 hf24 rfl (c_X4_free l D ks τ L A N hN ψ f21 o0 t_o0 ) gC_X4_66 okC_X4_free ⟨rfl, rfl, Nat.le_of_ble_eq_true rfl, Nat.le_of_ble_eq_true rfl⟩ hl.1 rfl (Nat.le_of_ble_eq_true rfl) dX4_interruptWait_45 ⟨Nat.zero_le _, Nat.zero_le _⟩) hS (fun p29 f28 H locs hqf28 V I hS => ?_)
          have I : cI ks τ L ψ f28 := by rw [show p29 = ψ from hqf28] at I; exact I
          exact cRetV C9 hr hlk hN hNs V I hS (rfl) dX4_interruptWait_48
    · refine lv_aload_n hx hb dX4_interruptWait_11 rfl (lv_at hl 1 rfl) ?_
      refine lv_bipush (v := (-2)) hx hb dX4_interruptWait_12 (by decide) ?_
      refine lv_topi (fun x31 ex31 => ?_)
      refine cP (v := .int x31) (ty := .int) C9 V hS t_o1.1 hf1 rfl tC_lay7 tyX8 tyX8_ok nmX8 10 (by decide) tCf_X4_105 rfl rfl (by decide +kernel) rfl rfl (Nat.le_of_ble_eq_true rfl) dX4_interruptWait_14 (fun f32 H locs ef32 V hS => ?_)
      have hf33 : f32 o1 = .inr (7, [.int v1_0, .int v1_1, .int v1_2, .int v1_3, .int v1_4, .int v1_5, .long v1_6, va_rf v1_7, va_rf (some y2), .int v1_9, .int x31, .ref v1_11, .int v1_12]) := up_s ef32
      have I := cI_up I t_o1.2 ef32 (mk7 t1_7 (tyO_s hy2) t1_11)
      have hf34 := up_n ef32 t_o1.2 t_o0.2 (by first | decide | omega) hf19
      exact cRetV C9 hr hlk hN hNs V I hS (rfl) dX4_interruptWait_17
set_option maxHeartbeats 200000 in
set_option maxRecDepth 100000 in
theorem c_X9_holdUp (l : Launch) (D : va_G) (ks : kS) (τ : Nat → Nat) (L : List Nat) (A : Nat → Prop) (N : State → Prop) (hN : cNk A N) (ψ : Int32) (f : Nat → va_E) (o0 : Nat) (o1 : Nat) (t_o0 : tyS τ L o0) (t_o1 : ty τ L o1 7) : Met l yX9_holdUp (Cond.code yX9_holdUp cX9_holdUp 2 none :: tC) ({ frames := 3, cells := 0, slots := 0, locals := 63 }) (va_Pc [.ref o0, .ref o1] (cB D ks τ L A N (ψ, f))) (va_Qv (fun x9 => x9.1 = ψ) (cB D ks τ L A N) A) 0 0 A := by
  refine cMet (own := RX9) (by decide) rfl (Nat.le_of_ble_eq_true rfl) ?_
  intro p e s m below meth c ls C9 hml hr hlk V I hNs hl
  have hx := C9.1
  have hb := C9.2.1
  have hown := C9.2.2.1
  have hts := C9.2.2.2.1
  have hS : va_S A s.heap s.heap [] := va_S.rf
  have hl : lv_has ls 2 [(0, .ref o0), (1, .ref o1)] := hl
  refine lv_aload_n hx hb dX9_holdUp_0 rfl (lv_at hl 1 rfl) ?_
  obtain ⟨v1_0, v1_1, v1_2, v1_3, v1_4, v1_5, v1_6, v1_7, v1_8, v1_9, v1_10, v1_11, v1_12, hf1, t1_7, t1_8, t1_11⟩ := op7 I t_o1
  refine cGoI (cRunV (As := []) (rest := []) C9 hml hN hNs V I hS t_o1.1 hf1 rfl (c_X8_refusesToWait l D ks τ L A N hN ψ f o1 t_o1 ) gC_X9_30 okC_X8_refusesToWait ⟨rfl, rfl, Nat.le_of_ble_eq_true rfl, Nat.le_of_ble_eq_true rfl⟩ hl.1 rfl (Nat.le_of_ble_eq_true rfl) dX9_holdUp_1 ⟨Nat.zero_le _, Nat.zero_le _⟩) hS (fun r4 p3 f2 H locs hqf2 V I hS => ?_)
  have I : cI ks τ L ψ f2 := by rw [show p3 = ψ from hqf2] at I; exact I
  refine lv_if_ne (tgt := 16) hx hb dX9_holdUp_4 (by decide) (fun c5 => ?_) (fun c5 => ?_)
  · exact cRetV C9 hr hlk hN hNs V I hS (rfl) dX9_holdUp_16
  · refine lv_aload_n hx hb dX9_holdUp_7 rfl (lv_at hl 1 rfl) ?_
    refine lv_aload_n hx hb dX9_holdUp_8 rfl (lv_at hl 0 rfl) ?_
    obtain ⟨hL6, hk6⟩ := id t_o0
    rcases hk6 with hk6 | hk6 | hk6 | hk6 | hk6 | hk6
    · have tk6 : ty τ L o0 0 := ⟨hL6, hk6⟩
      obtain ⟨v7_0, v7_1, v7_2, v7_3, v7_4, hf7, t7_2⟩ := op0 I tk6
      refine cG C9 V tk6.1 hf7 rfl tC_lay0 2 (by decide) tCf_X9_12 (Or.inl rfl) rfl dX9_holdUp_9 ?_
      refine lv_aload_n hx hb dX9_holdUp_12 rfl (lv_at hl 0 rfl) ?_
      obtain ⟨v8_0, v8_1, v8_2, v8_3, v8_4, v8_5, v8_6, v8_7, v8_8, v8_9, v8_10, v8_11, v8_12, hf8, t8_7, t8_8, t8_11⟩ := op7 I t_o1
      refine cGoV (cRunV (As := [.ref v7_2, .ref o0]) (rest := []) C9 hml hN hNs V I hS t_o1.1 hf8 rfl (c_X8_standIn l D ks τ L A N hN ψ f2 o1 v7_2 o0 t_o1 t7_2 (tyS_of tk6 (by decide)) ) gC_X9_36 okC_X8_standIn ⟨rfl, rfl, Nat.le_of_ble_eq_true rfl, Nat.le_of_ble_eq_true rfl⟩ hl.1 rfl (Nat.le_of_ble_eq_true rfl) dX9_holdUp_13 ⟨Nat.zero_le _, Nat.zero_le _⟩) hS (fun p10 f9 H locs hqf9 V I hS => ?_)
      have I : cI ks τ L ψ f9 := by rw [show p10 = ψ from hqf9] at I; exact I
      exact cRetV C9 hr hlk hN hNs V I hS (rfl) dX9_holdUp_16
    · have tk6 : ty τ L o0 1 := ⟨hL6, hk6⟩
      obtain ⟨v12_0, v12_1, v12_2, v12_3, v12_4, hf12, t12_2⟩ := op1 I tk6
      refine cG C9 V tk6.1 hf12 rfl tC_lay1 2 (by decide) tCf_X9_12 (Or.inl rfl) rfl dX9_holdUp_9 ?_
      refine lv_aload_n hx hb dX9_holdUp_12 rfl (lv_at hl 0 rfl) ?_
      obtain ⟨v13_0, v13_1, v13_2, v13_3, v13_4, v13_5, v13_6, v13_7, v13_8, v13_9, v13_10, v13_11, v13_12, hf13, t13_7, t13_8, t13_11⟩ := op7 I t_o1
      refine cGoV (cRunV (As := [.ref v12_2, .ref o0]) (rest := []) C9 hml hN hNs V I hS t_o1.1 hf13 rfl (c_X8_standIn l D ks τ L A N hN ψ f2 o1 v12_2 o0 t_o1 t12_2 (tyS_of tk6 (by decide)) ) gC_X9_36 okC_X8_standIn ⟨rfl, rfl, Nat.le_of_ble_eq_true rfl, Nat.le_of_ble_eq_true rfl⟩ hl.1 rfl (Nat.le_of_ble_eq_true rfl) dX9_holdUp_13 ⟨Nat.zero_le _, Nat.zero_le _⟩) hS (fun p15 f14 H locs hqf14 V I hS => ?_)
      have I : cI ks τ L ψ f14 := by rw [show p15 = ψ from hqf14] at I; exact I
      exact cRetV C9 hr hlk hN hNs V I hS (rfl) dX9_holdUp_16
    · have tk6 : ty τ L o0 2 := ⟨hL6, hk6⟩
      obtain ⟨v17_0, v17_1, v17_2, v17_3, hf17, t17_2⟩ := op2 I tk6
      refine cG C9 V tk6.1 hf17 rfl tC_lay2 2 (by decide) tCf_X9_12 (Or.inl rfl) rfl dX9_holdUp_9 ?_
      refine lv_aload_n hx hb dX9_holdUp_12 rfl (lv_at hl 0 rfl) ?_
      obtain ⟨v18_0, v18_1, v18_2, v18_3, v18_4, v18_5, v18_6, v18_7, v18_8, v18_9, v18_10, v18_11, v18_12, hf18, t18_7, t18_8, t18_11⟩ := op7 I t_o1
      refine cGoV (cRunV (As := [.ref v17_2, .ref o0]) (rest := []) C9 hml hN hNs V I hS t_o1.1 hf18 rfl (c_X8_standIn l D ks τ L A N hN ψ f2 o1 v17_2 o0 t_o1 t17_2 (tyS_of tk6 (by decide)) ) gC_X9_36 okC_X8_standIn ⟨rfl, rfl, Nat.le_of_ble_eq_true rfl, Nat.le_of_ble_eq_true rfl⟩ hl.1 rfl (Nat.le_of_ble_eq_true rfl) dX9_holdUp_13 ⟨Nat.zero_le _, Nat.zero_le _⟩) hS (fun p20 f19 H locs hqf19 V I hS => ?_)
      have I : cI ks τ L ψ f19 := by rw [show p20 = ψ from hqf19] at I; exact I
      exact cRetV C9 hr hlk hN hNs V I hS (rfl) dX9_holdUp_16
    · have tk6 : ty τ L o0 3 := ⟨hL6, hk6⟩
      obtain ⟨v22_0, v22_1, v22_2, v22_3, v22_4, v22_5, v22_6, hf22, t22_2, t22_6⟩ := op3 I tk6
      refine cG C9 V tk6.1 hf22 rfl tC_lay3 2 (by decide) tCf_X9_12 (Or.inl rfl) rfl dX9_holdUp_9 ?_
      refine lv_aload_n hx hb dX9_holdUp_12 rfl (lv_at hl 0 rfl) ?_
      obtain ⟨v23_0, v23_1, v23_2, v23_3, v23_4, v23_5, v23_6, v23_7, v23_8, v23_9, v23_10, v23_11, v23_12, hf23, t23_7, t23_8, t23_11⟩ := op7 I t_o1
      refine cGoV (cRunV (As := [.ref v22_2, .ref o0]) (rest := []) C9 hml hN hNs V I hS t_o1.1 hf23 rfl (c_X8_standIn l D ks τ L A N hN ψ f2 o1 v22_2 o0 t_o1 t22_2 (tyS_of tk6 (by decide)) ) gC_X9_36 okC_X8_standIn ⟨rfl, rfl, Nat.le_of_ble_eq_true rfl, Nat.le_of_ble_eq_true rfl⟩ hl.1 rfl (Nat.le_of_ble_eq_true rfl) dX9_holdUp_13 ⟨Nat.zero_le _, Nat.zero_le _⟩) hS (fun p25 f24 H locs hqf24 V I hS => ?_)
      have I : cI ks τ L ψ f24 := by rw [show p25 = ψ from hqf24] at I; exact I
      exact cRetV C9 hr hlk hN hNs V I hS (rfl) dX9_holdUp_16
    · have tk6 : ty τ L o0 4 := ⟨hL6, hk6⟩
      obtain ⟨v27_0, v27_1, v27_2, v27_3, v27_4, v27_5, c27, hf27, t27_2, t27_3, hc27, h027, h127⟩ := op4 I tk6
      refine cG C9 V tk6.1 hf27 rfl tC_lay4 2 (by decide) tCf_X9_12 (Or.inl rfl) rfl dX9_holdUp_9 ?_
      refine lv_aload_n hx hb dX9_holdUp_12 rfl (lv_at hl 0 rfl) ?_
      obtain ⟨v28_0, v28_1, v28_2, v28_3, v28_4, v28_5, v28_6, v28_7, v28_8, v28_9, v28_10, v28_11, v28_12, hf28, t28_7, t28_8, t28_11⟩ := op7 I t_o1
      refine cGoV (cRunV (As := [.ref v27_2, .ref o0]) (rest := []) C9 hml hN hNs V I hS t_o1.1 hf28 rfl (c_X8_standIn l D ks τ L A N hN ψ f2 o1 v27_2 o0 t_o1 t27_2 (tyS_of tk6 (by decide)) ) gC_X9_36 okC_X8_standIn ⟨rfl, rfl, Nat.le_of_ble_eq_true rfl, Nat.le_of_ble_eq_true rfl⟩ hl.1 rfl (Nat.le_of_ble_eq_true rfl) dX9_holdUp_13 ⟨Nat.zero_le _, Nat.zero_le _⟩) hS (fun p30 f29 H locs hqf29 V I hS => ?_)
      have I : cI ks τ L ψ f29 := by rw [show p30 = ψ from hqf29] at I; exact I
      exact cRetV C9 hr hlk hN hNs V I hS (rfl) dX9_holdUp_16
    · have tk6 : ty τ L o0 6 := ⟨hL6, hk6⟩
      obtain ⟨v32_0, v32_1, v32_2, v32_3, hf32, t32_2⟩ := op6 I tk6
      refine cG C9 V tk6.1 hf32 rfl tC_lay6 2 (by decide) tCf_X9_12 (Or.inl rfl) rfl dX9_holdUp_9 ?_
      refine lv_aload_n hx hb dX9_holdUp_12 rfl (lv_at hl 0 rfl) ?_
      obtain ⟨v33_0, v33_1, v33_2, v33_3, v33_4, v33_5, v33_6, v33_7, v33_8, v33_9, v33_10, v33_11, v33_12, hf33, t33_7, t33_8, t33_11⟩ := op7 I t_o1
      refine cGoV (cRunV (As := [.ref v32_2, .ref o0]) (rest := []) C9 hml hN hNs V I hS t_o1.1 hf33 rfl (c_X8_standIn l D ks τ L A N hN ψ f2 o1 v32_2 o0 t_o1 t32_2 (tyS_of tk6 (by decide)) ) gC_X9_36 okC_X8_standIn ⟨rfl, rfl, Nat.le_of_ble_eq_true rfl, Nat.le_of_ble_eq_true rfl⟩ hl.1 rfl (Nat.le_of_ble_eq_true rfl) dX9_holdUp_13 ⟨Nat.zero_le _, Nat.zero_le _⟩) hS (fun p35 f34 H locs hqf34 V I hS => ?_)
      have I : cI ks τ L ψ f34 := by rw [show p35 = ψ from hqf34] at I; exact I
      exact cRetV C9 hr hlk hN hNs V I hS (rfl) dX9_holdUp_16
set_option maxHeartbeats 200000 in
set_option maxRecDepth 100000 in
theorem c_X9_allGoOn (l : Launch) (D : va_G) (ks : kS) (τ : Nat → Nat) (L : List Nat) (A : Nat → Prop) (N : State → Prop) (hN : cNk A N) (ψ : Int32) (f : Nat → va_E) (o0 : Nat) (t_o0 : tyS τ L o0) : Met l yX9_allGoOn (Cond.code yX9_allGoOn cX9_allGoOn 3 none :: tC) ({ frames := 2, cells := 0, slots := 0, locals := 43 }) (va_Pc [.ref o0] (cB D ks τ L A N (ψ, f))) (va_Qv (fun x9 => x9.1 = ψ) (cB D ks τ L A N) A) 0 0 A := by
  refine cMet (own := RX9) (by decide) rfl (Nat.le_of_ble_eq_true rfl) ?_
  intro p e s m below meth c ls C9 hml hr hlk V I hNs hl
  have hx := C9.1
  have hb := C9.2.1
  have hown := C9.2.2.1
  have hts := C9.2.2.2.1
  have hS : va_S A s.heap s.heap [] := va_S.rf
  have hl : lv_has ls 3 [(0, .ref o0)] := hl
  refine lv_iconst (v := 0) hx hb dX9_allGoOn_0 (by decide) ?_
  refine lv_topi (fun x1 ex1 => ?_)
  refine lv_istore_n (lv' := [(1, .int x1), (0, .ref o0)]) hx hb dX9_allGoOn_1 rfl hl (by decide) rfl (fun ls hl => ?_)
  have loop2 : ∀ (N9 : Nat) (w2_1 : Int32) (F2 : Nat → va_E) (H : Heap) (locs : List Loc) (ls : Array Slot), cI ks τ L ψ F2 → (0 ≤ w2_1 ∧ w2_1 ≤ 8) → ((8 - w2_1).toInt.toNat) < N9 → cV D L F2 A H → va_S A s.heap H locs → lv_has ls 3 [(0, .ref o0), (1, .int w2_1)] → W p l e ({ frames := 2, cells := 0, slots := 0, locals := 43 } : Room) s m ([.ref o0] : List Value).toArray below meth c H locs 0 0 (MQ below (va_Qv (fun x9 => x9.1 = ψ) (cB D ks τ L A N) A) ([.ref o0] : List Value).toArray s 0 0 A) (F0 m 2 ls []) := by
    intro N9
    induction N9 with
    | zero => intro w2_1 F2 H locs ls I hi2 hm2; exact absurd hm2 (Nat.not_lt_zero _)
    | succ N9 ih2 =>
      intro w2_1 F2 H locs ls I hi2 hm2 V hS hl
      refine lv_iload_n hx hb dX9_allGoOn_2 rfl (lv_at hl 1 rfl) ?_
      refine lv_bipush (v := 8) hx hb dX9_allGoOn_3 (by decide) ?_
      refine lv_icmp_ge (tgt := 31) hx hb dX9_allGoOn_5 (by decide) (fun c2 => ?_) (fun c2 => ?_)
      · exact cRetV C9 hr hlk hN hNs V I hS (rfl) dX9_allGoOn_31
      · refine lv_aload_n hx hb dX9_allGoOn_8 rfl (lv_at hl 0 rfl) ?_
        obtain ⟨hL3, hk3⟩ := id t_o0
        rcases hk3 with hk3 | hk3 | hk3 | hk3 | hk3 | hk3
        · have tk3 : ty τ L o0 0 := ⟨hL3, hk3⟩
          obtain ⟨v4_0, v4_1, v4_2, v4_3, v4_4, hf4, t4_2⟩ := op0 I tk3
          refine cG C9 V tk3.1 hf4 rfl tC_lay0 2 (by decide) tCf_X9_12 (Or.inl rfl) rfl dX9_allGoOn_9 ?_
          obtain ⟨v5_0, v5_1, hf5, hn5, t5_1⟩ := op5 I t4_2
          refine cGoQ (cRunV (As := []) (rest := []) C9 hml hN hNs V I hS t4_2.1 hf5 rfl (c_X6_first l D ks τ L A N hN ψ F2 v4_2 t4_2 ) gC_X9_40 okC_X6_first ⟨rfl, rfl, Nat.le_of_ble_eq_true rfl, Nat.le_of_ble_eq_true rfl⟩ hl.1 rfl (Nat.le_of_ble_eq_true rfl) dX9_allGoOn_12 ⟨Nat.zero_le _, Nat.zero_le _⟩) hS (fun r8 p7 f6 H locs hqf6 V I hS => ?_)
          have I : cI ks τ L ψ f6 := by rw [show p7 = ψ from hqf6.1] at I; exact I
          rcases r8 with _ | y9
          · refine W.eq (g2 := F0 m 15 ls [.null]) rfl ?_
            refine lv_astore_nN (lv' := [(2, .null), (0, .ref o0), (1, .int w2_1)]) hx hb dX9_allGoOn_15 rfl hl (by decide) rfl (fun ls hl => ?_)
            refine lv_aload_nN hx hb dX9_allGoOn_16 rfl (lv_at hl 0 rfl) ?_
            refine lv_ifnonnullN hx hb dX9_allGoOn_17 ?_
            exact cRetV C9 hr hlk hN hNs V I hS (rfl) dX9_allGoOn_20
          · have hy9 := hqf6.2 y9 rfl
            refine W.eq (g2 := F0 m 15 ls [.ref y9]) rfl ?_
            refine lv_astore_n (lv' := [(2, .ref y9), (0, .ref o0), (1, .int w2_1)]) hx hb dX9_allGoOn_15 rfl hl (by decide) rfl (fun ls hl => ?_)
            refine lv_aload_n hx hb dX9_allGoOn_16 rfl (lv_at hl 0 rfl) ?_
            refine lv_ifnonnull (tgt := 21) hx hb dX9_allGoOn_17 (by decide) ?_
            refine lv_aload_n hx hb dX9_allGoOn_21 rfl (lv_at hl 0 rfl) ?_
            obtain ⟨v10_0, v10_1, v10_2, v10_3, v10_4, v10_5, v10_6, v10_7, v10_8, v10_9, v10_10, v10_11, v10_12, hf10, t10_7, t10_8, t10_11⟩ := op7 I hy9
            refine cGoV (cRunV (As := []) (rest := []) C9 hml hN hNs V I hS hy9.1 hf10 rfl (c_X8_goOn l D ks τ L A N hN ψ f6 y9 hy9 ) gC_X9_44 okC_X8_goOn ⟨rfl, rfl, Nat.le_of_ble_eq_true rfl, Nat.le_of_ble_eq_true rfl⟩ hl.1 rfl (Nat.le_of_ble_eq_true rfl) dX9_allGoOn_22 ⟨Nat.zero_le _, Nat.zero_le _⟩) hS (fun p12 f11 H locs hqf11 V I hS => ?_)
            have I : cI ks τ L ψ f11 := by rw [show p12 = ψ from hqf11] at I; exact I
            obtain ⟨x14, ex14⟩ : ∃ y : Int32, y = w2_1 + (1) := ⟨_, rfl⟩
            refine lv_iinc (v := x14) (lv' := [(1, .int x14), (2, .ref y9), (0, .ref o0)]) hx hb dX9_allGoOn_25 hl (k := 2) rfl (by rw [ex14]; rfl) (by decide) rfl (fun ls hl => ?_)
            refine lv_goto (tgt := 2) hx hb dX9_allGoOn_28 (by decide) ?_
            exact ih2 x14 f11 _ _ _ I (ca_up ex14 hi2.1 (ci_lt c2)) (cmsd hm2 (ca_dec ex14 hi2.1 (ci_lt c2)).1 (ca_dec ex14 hi2.1 (ci_lt c2)).2) V hS (lv_sub hl [2, 0] rfl)
        · have tk3 : ty τ L o0 1 := ⟨hL3, hk3⟩
          obtain ⟨v15_0, v15_1, v15_2, v15_3, v15_4, hf15, t15_2⟩ := op1 I tk3
          refine cG C9 V tk3.1 hf15 rfl tC_lay1 2 (by decide) tCf_X9_12 (Or.inl rfl) rfl dX9_allGoOn_9 ?_
          obtain ⟨v16_0, v16_1, hf16, hn16, t16_1⟩ := op5 I t15_2
          refine cGoQ (cRunV (As := []) (rest := []) C9 hml hN hNs V I hS t15_2.1 hf16 rfl (c_X6_first l D ks τ L A N hN ψ F2 v15_2 t15_2 ) gC_X9_40 okC_X6_first ⟨rfl, rfl, Nat.le_of_ble_eq_true rfl, Nat.le_of_ble_eq_true rfl⟩ hl.1 rfl (Nat.le_of_ble_eq_true rfl) dX9_allGoOn_12 ⟨Nat.zero_le _, Nat.zero_le _⟩) hS (fun r19 p18 f17 H locs hqf17 V I hS => ?_)
          have I : cI ks τ L ψ f17 := by rw [show p18 = ψ from hqf17.1] at I; exact I
          rcases r19 with _ | y20
          · refine W.eq (g2 := F0 m 15 ls [.null]) rfl ?_
            refine lv_astore_nN (lv' := [(2, .null), (0, .ref o0), (1, .int w2_1)]) hx hb dX9_allGoOn_15 rfl hl (by decide) rfl (fun ls hl => ?_)
            refine lv_aload_nN hx hb dX9_allGoOn_16 rfl (lv_at hl 0 rfl) ?_
            refine lv_ifnonnullN hx hb dX9_allGoOn_17 ?_
            exact cRetV C9 hr hlk hN hNs V I hS (rfl) dX9_allGoOn_20
          · have hy20 := hqf17.2 y20 rfl
            refine W.eq (g2 := F0 m 15 ls [.ref y20]) rfl ?_
            refine lv_astore_n (lv' := [(2, .ref y20), (0, .ref o0), (1, .int w2_1)]) hx hb dX9_allGoOn_15 rfl hl (by decide) rfl (fun ls hl => ?_)
            refine lv_aload_n hx hb dX9_allGoOn_16 rfl (lv_at hl 0 rfl) ?_
            refine lv_ifnonnull (tgt := 21) hx hb dX9_allGoOn_17 (by decide) ?_
            refine lv_aload_n hx hb dX9_allGoOn_21 rfl (lv_at hl 0 rfl) ?_
            obtain ⟨v21_0, v21_1, v21_2, v21_3, v21_4, v21_5, v21_6, v21_7, v21_8, v21_9, v21_10, v21_11, v21_12, hf21, t21_7, t21_8, t21_11⟩ := op7 I hy20
            refine cGoV (cRunV (As := []) (rest := []) C9 hml hN hNs V I hS hy20.1 hf21 rfl (c_X8_goOn l D ks τ L A N hN ψ f17 y20 hy20 ) gC_X9_44 okC_X8_goOn ⟨rfl, rfl, Nat.le_of_ble_eq_true rfl, Nat.le_of_ble_eq_true rfl⟩ hl.1 rfl (Nat.le_of_ble_eq_true rfl) dX9_allGoOn_22 ⟨Nat.zero_le _, Nat.zero_le _⟩) hS (fun p23 f22 H locs hqf22 V I hS => ?_)
            have I : cI ks τ L ψ f22 := by rw [show p23 = ψ from hqf22] at I; exact I
            obtain ⟨x25, ex25⟩ : ∃ y : Int32, y = w2_1 + (1) := ⟨_, rfl⟩
            refine lv_iinc (v := x25) (lv' := [(1, .int x25), (2, .ref y20), (0, .ref o0)]) hx hb dX9_allGoOn_25 hl (k := 2) rfl (by rw [ex25]; rfl) (by decide) rfl (fun ls hl => ?_)
            refine lv_goto (tgt := 2) hx hb dX9_allGoOn_28 (by decide) ?_
            exact ih2 x25 f22 _ _ _ I (ca_up ex25 hi2.1 (ci_lt c2)) (cmsd hm2 (ca_dec ex25 hi2.1 (ci_lt c2)).1 (ca_dec ex25 hi2.1 (ci_lt c2)).2) V hS (lv_sub hl [2, 0] rfl)
        · have tk3 : ty τ L o0 2 := ⟨hL3, hk3⟩
          obtain ⟨v26_0, v26_1, v26_2, v26_3, hf26, t26_2⟩ := op2 I tk3
          refine cG C9 V tk3.1 hf26 rfl tC_lay2 2 (by decide) tCf_X9_12 (Or.inl rfl) rfl dX9_allGoOn_9 ?_
          obtain ⟨v27_0, v27_1, hf27, hn27, t27_1⟩ := op5 I t26_2
          refine cGoQ (cRunV (As := []) (rest := []) C9 hml hN hNs V I hS t26_2.1 hf27 rfl (c_X6_first l D ks τ L A N hN ψ F2 v26_2 t26_2 ) gC_X9_40 okC_X6_first ⟨rfl, rfl, Nat.le_of_ble_eq_true rfl, Nat.le_of_ble_eq_true rfl⟩ hl.1 rfl (Nat.le_of_ble_eq_true rfl) dX9_allGoOn_12 ⟨Nat.zero_le _, Nat.zero_le _⟩) hS (fun r30 p29 f28 H locs hqf28 V I hS => ?_)
          have I : cI ks τ L ψ f28 := by rw [show p29 = ψ from hqf28.1] at I; exact I
          rcases r30 with _ | y31
          · refine W.eq (g2 := F0 m 15 ls [.null]) rfl ?_
            refine lv_astore_nN (lv' := [(2, .null), (0, .ref o0), (1, .int w2_1)]) hx hb dX9_allGoOn_15 rfl hl (by decide) rfl (fun ls hl => ?_)
            refine lv_aload_nN hx hb dX9_allGoOn_16 rfl (lv_at hl 0 rfl) ?_
            refine lv_ifnonnullN hx hb dX9_allGoOn_17 ?_
            exact cRetV C9 hr hlk hN hNs V I hS (rfl) dX9_allGoOn_20
          · have hy31 := hqf28.2 y31 rfl
            refine W.eq (g2 := F0 m 15 ls [.ref y31]) rfl ?_
            refine lv_astore_n (lv' := [(2, .ref y31), (0, .ref o0), (1, .int w2_1)]) hx hb dX9_allGoOn_15 rfl hl (by decide) rfl (fun ls hl => ?_)
            refine lv_aload_n hx hb dX9_allGoOn_16 rfl (lv_at hl 0 rfl) ?_
            refine lv_ifnonnull (tgt := 21) hx hb dX9_allGoOn_17 (by decide) ?_
            refine lv_aload_n hx hb dX9_allGoOn_21 rfl (lv_at hl 0 rfl) ?_
            obtain ⟨v32_0, v32_1, v32_2, v32_3, v32_4, v32_5, v32_6, v32_7, v32_8, v32_9, v32_10, v32_11, v32_12, hf32, t32_7, t32_8, t32_11⟩ := op7 I hy31
            refine cGoV (cRunV (As := []) (rest := []) C9 hml hN hNs V I hS hy31.1 hf32 rfl (c_X8_goOn l D ks τ L A N hN ψ f28 y31 hy31 ) gC_X9_44 okC_X8_goOn ⟨rfl, rfl, Nat.le_of_ble_eq_true rfl, Nat.le_of_ble_eq_true rfl⟩ hl.1 rfl (Nat.le_of_ble_eq_true rfl) dX9_allGoOn_22 ⟨Nat.zero_le _, Nat.zero_le _⟩) hS (fun p34 f33 H locs hqf33 V I hS => ?_)
            have I : cI ks τ L ψ f33 := by rw [show p34 = ψ from hqf33] at I; exact I
            obtain ⟨x36, ex36⟩ : ∃ y : Int32, y = w2_1 + (1) := ⟨_, rfl⟩
            refine lv_iinc (v := x36) (lv' := [(1, .int x36), (2, .ref y31), (0, .ref o0)]) hx hb dX9_allGoOn_25 hl (k := 2) rfl (by rw [ex36]; rfl) (by decide) rfl (fun ls hl => ?_)
            refine lv_goto (tgt := 2) hx hb dX9_allGoOn_28 (by decide) ?_
            exact ih2 x36 f33 _ _ _ I (ca_up ex36 hi2.1 (ci_lt c2)) (cmsd hm2 (ca_dec ex36 hi2.1 (ci_lt c2)).1 (ca_dec ex36 hi2.1 (ci_lt c2)).2) V hS (lv_sub hl [2, 0] rfl)
        · have tk3 : ty τ L o0 3 := ⟨hL3, hk3⟩
          obtain ⟨v37_0, v37_1, v37_2, v37_3, v37_4, v37_5, v37_6, hf37, t37_2, t37_6⟩ := op3 I tk3
          refine cG C9 V tk3.1 hf37 rfl tC_lay3 2 (by decide) tCf_X9_12 (Or.inl rfl) rfl dX9_allGoOn_9 ?_
          obtain ⟨v38_0, v38_1, hf38, hn38, t38_1⟩ := op5 I t37_2
          refine cGoQ (cRunV (As := []) (rest := []) C9 hml hN hNs V I hS t37_2.1 hf38 rfl (c_X6_first l D ks τ L A N hN ψ F2 v37_2 t37_2 ) gC_X9_40 okC_X6_first ⟨rfl, rfl, Nat.le_of_ble_eq_true rfl, Nat.le_of_ble_eq_true rfl⟩ hl.1 rfl (Nat.le_of_ble_eq_true rfl) dX9_allGoOn_12 ⟨Nat.zero_le _, Nat.zero_le _⟩) hS (fun r41 p40 f39 H locs hqf39 V I hS => ?_)
          have I : cI ks τ L ψ f39 := by rw [show p40 = ψ from hqf39.1] at I; exact I
          rcases r41 with _ | y42
          · refine W.eq (g2 := F0 m 15 ls [.null]) rfl ?_
            refine lv_astore_nN (lv' := [(2, .null), (0, .ref o0), (1, .int w2_1)]) hx hb dX9_allGoOn_15 rfl hl (by decide) rfl (fun ls hl => ?_)
            refine lv_aload_nN hx hb dX9_allGoOn_16 rfl (lv_at hl 0 rfl) ?_
            refine lv_ifnonnullN hx hb dX9_allGoOn_17 ?_
            exact cRetV C9 hr hlk hN hNs V I hS (rfl) dX9_allGoOn_20
          · have hy42 := hqf39.2 y42 rfl
            refine W.eq (g2 := F0 m 15 ls [.ref y42]) rfl ?_
            refine lv_astore_n (lv' := [(2, .ref y42), (0, .ref o0), (1, .int w2_1)]) hx hb dX9_allGoOn_15 rfl hl (by decide) rfl (fun ls hl => ?_)
            refine lv_aload_n hx hb dX9_allGoOn_16 rfl (lv_at hl 0 rfl) ?_
            refine lv_ifnonnull (tgt := 21) hx hb dX9_allGoOn_17 (by decide) ?_
            refine lv_aload_n hx hb dX9_allGoOn_21 rfl (lv_at hl 0 rfl) ?_
            obtain ⟨v43_0, v43_1, v43_2, v43_3, v43_4, v43_5, v43_6, v43_7, v43_8, v43_9, v43_10, v43_11, v43_12, hf43, t43_7, t43_8, t43_11⟩ := op7 I hy42
            refine cGoV (cRunV (As := []) (rest := []) C9 hml hN hNs V I hS hy42.1 hf43 rfl (c_X8_goOn l D ks τ L A N hN ψ f39 y42 hy42 ) gC_X9_44 okC_X8_goOn ⟨rfl, rfl, Nat.le_of_ble_eq_true rfl, Nat.le_of_ble_eq_true rfl⟩ hl.1 rfl (Nat.le_of_ble_eq_true rfl) dX9_allGoOn_22 ⟨Nat.zero_le _, Nat.zero_le _⟩) hS (fun p45 f44 H locs hqf44 V I hS => ?_)
            have I : cI ks τ L ψ f44 := by rw [show p45 = ψ from hqf44] at I; exact I
            obtain ⟨x47, ex47⟩ : ∃ y : Int32, y = w2_1 + (1) := ⟨_, rfl⟩
            refine lv_iinc (v := x47) (lv' := [(1, .int x47), (2, .ref y42), (0, .ref o0)]) hx hb dX9_allGoOn_25 hl (k := 2) rfl (by rw [ex47]; rfl) (by decide) rfl (fun ls hl => ?_)
            refine lv_goto (tgt := 2) hx hb dX9_allGoOn_28 (by decide) ?_
            exact ih2 x47 f44 _ _ _ I (ca_up ex47 hi2.1 (ci_lt c2)) (cmsd hm2 (ca_dec ex47 hi2.1 (ci_lt c2)).1 (ca_dec ex47 hi2.1 (ci_lt c2)).2) V hS (lv_sub hl [2, 0] rfl)
        · have tk3 : ty τ L o0 4 := ⟨hL3, hk3⟩
          obtain ⟨v48_0, v48_1, v48_2, v48_3, v48_4, v48_5, c48, hf48, t48_2, t48_3, hc48, h048, h148⟩ := op4 I tk3
          refine cG C9 V tk3.1 hf48 rfl tC_lay4 2 (by decide) tCf_X9_12 (Or.inl rfl) rfl dX9_allGoOn_9 ?_
          obtain ⟨v49_0, v49_1, hf49, hn49, t49_1⟩ := op5 I t48_2
          refine cGoQ (cRunV (As := []) (rest := []) C9 hml hN hNs V I hS t48_2.1 hf49 rfl (c_X6_first l D ks τ L A N hN ψ F2 v48_2 t48_2 ) gC_X9_40 okC_X6_first ⟨rfl, rfl, Nat.le_of_ble_eq_true rfl, Nat.le_of_ble_eq_true rfl⟩ hl.1 rfl (Nat.le_of_ble_eq_true rfl) dX9_allGoOn_12 ⟨Nat.zero_le _, Nat.zero_le _⟩) hS (fun r52 p51 f50 H locs hqf50 V I hS => ?_)
          have I : cI ks τ L ψ f50 := by rw [show p51 = ψ from hqf50.1] at I; exact I
          rcases r52 with _ | y53
          · refine W.eq (g2 := F0 m 15 ls [.null]) rfl ?_
            refine lv_astore_nN (lv' := [(2, .null), (0, .ref o0), (1, .int w2_1)]) hx hb dX9_allGoOn_15 rfl hl (by decide) rfl (fun ls hl => ?_)
            refine lv_aload_nN hx hb dX9_allGoOn_16 rfl (lv_at hl 0 rfl) ?_
            refine lv_ifnonnullN hx hb dX9_allGoOn_17 ?_
            exact cRetV C9 hr hlk hN hNs V I hS (rfl) dX9_allGoOn_20
          · have hy53 := hqf50.2 y53 rfl
            refine W.eq (g2 := F0 m 15 ls [.ref y53]) rfl ?_
            refine lv_astore_n (lv' := [(2, .ref y53), (0, .ref o0), (1, .int w2_1)]) hx hb dX9_allGoOn_15 rfl hl (by decide) rfl (fun ls hl => ?_)
            refine lv_aload_n hx hb dX9_allGoOn_16 rfl (lv_at hl 0 rfl) ?_
            refine lv_ifnonnull (tgt := 21) hx hb dX9_allGoOn_17 (by decide) ?_
            refine lv_aload_n hx hb dX9_allGoOn_21 rfl (lv_at hl 0 rfl) ?_
            obtain ⟨v54_0, v54_1, v54_2, v54_3, v54_4, v54_5, v54_6, v54_7, v54_8, v54_9, v54_10, v54_11, v54_12, hf54, t54_7, t54_8, t54_11⟩ := op7 I hy53
            refine cGoV (cRunV (As := []) (rest := []) C9 hml hN hNs V I hS hy53.1 hf54 rfl (c_X8_goOn l D ks τ L A N hN ψ f50 y53 hy53 ) gC_X9_44 okC_X8_goOn ⟨rfl, rfl, Nat.le_of_ble_eq_true rfl, Nat.le_of_ble_eq_true rfl⟩ hl.1 rfl (Nat.le_of_ble_eq_true rfl) dX9_allGoOn_22 ⟨Nat.zero_le _, Nat.zero_le _⟩) hS (fun p56 f55 H locs hqf55 V I hS => ?_)
            have I : cI ks τ L ψ f55 := by rw [show p56 = ψ from hqf55] at I; exact I
            obtain ⟨x58, ex58⟩ : ∃ y : Int32, y = w2_1 + (1) := ⟨_, rfl⟩
            refine lv_iinc (v := x58) (lv' := [(1, .int x58), (2, .ref y53), (0, .ref o0)]) hx hb dX9_allGoOn_25 hl (k := 2) rfl (by rw [ex58]; rfl) (by decide) rfl (fun ls hl => ?_)
            refine lv_goto (tgt := 2) hx hb dX9_allGoOn_28 (by decide) ?_
            exact ih2 x58 f55 _ _ _ I (ca_up ex58 hi2.1 (ci_lt c2)) (cmsd hm2 (ca_dec ex58 hi2.1 (ci_lt c2)).1 (ca_dec ex58 hi2.1 (ci_lt c2)).2) V hS (lv_sub hl [2, 0] rfl)
        · have tk3 : ty τ L o0 6 := ⟨hL3, hk3⟩
          obtain ⟨v59_0, v59_1, v59_2, v59_3, hf59, t59_2⟩ := op6 I tk3
          refine cG C9 V tk3.1 hf59 rfl tC_lay6 2 (by decide) tCf_X9_12 (Or.inl rfl) rfl dX9_allGoOn_9 ?_
          obtain ⟨v60_0, v60_1, hf60, hn60, t60_1⟩ := op5 I t59_2
          refine cGoQ (cRunV (As := []) (rest := []) C9 hml hN hNs V I hS t59_2.1 hf60 rfl (c_X6_first l D ks τ L A N hN ψ F2 v59_2 t59_2 ) gC_X9_40 okC_X6_first ⟨rfl, rfl, Nat.le_of_ble_eq_true rfl, Nat.le_of_ble_eq_true rfl⟩ hl.1 rfl (Nat.le_of_ble_eq_true rfl) dX9_allGoOn_12 ⟨Nat.zero_le _, Nat.zero_le _⟩) hS (fun r63 p62 f61 H locs hqf61 V I hS => ?_)
          have I : cI ks τ L ψ f61 := by rw [show p62 = ψ from hqf61.1] at I; exact I
          rcases r63 with _ | y64
          · refine W.eq (g2 := F0 m 15 ls [.null]) rfl ?_
            refine lv_astore_nN (lv' := [(2, .null), (0, .ref o0), (1, .int w2_1)]) hx hb dX9_allGoOn_15 rfl hl (by decide) rfl (fun ls hl => ?_)
            refine lv_aload_nN hx hb dX9_allGoOn_16 rfl (lv_at hl 0 rfl) ?_
            refine lv_ifnonnullN hx hb dX9_allGoOn_17 ?_
            exact cRetV C9 hr hlk hN hNs V I hS (rfl) dX9_allGoOn_20
          · have hy64 := hqf61.2 y64 rfl
            refine W.eq (g2 := F0 m 15 ls [.ref y64]) rfl ?_
            refine lv_astore_n (lv' := [(2, .ref y64), (0, .ref o0), (1, .int w2_1)]) hx hb dX9_allGoOn_15 rfl hl (by decide) rfl (fun ls hl => ?_)
            refine lv_aload_n hx hb dX9_allGoOn_16 rfl (lv_at hl 0 rfl) ?_
            refine lv_ifnonnull (tgt := 21) hx hb dX9_allGoOn_17 (by decide) ?_
            refine lv_aload_n hx hb dX9_allGoOn_21 rfl (lv_at hl 0 rfl) ?_
            obtain ⟨v65_0, v65_1, v65_2, v65_3, v65_4, v65_5, v65_6, v65_7, v65_8, v65_9, v65_10, v65_11, v65_12, hf65, t65_7, t65_8, t65_11⟩ := op7 I hy64
            refine cGoV (cRunV (As := []) (rest := []) C9 hml hN hNs V I hS hy64.1 hf65 rfl (c_X8_goOn l D ks τ L A N hN ψ f61 y64 hy64 ) gC_X9_44 okC_X8_goOn ⟨rfl, rfl, Nat.le_of_ble_eq_true rfl, Nat.le_of_ble_eq_true rfl⟩ hl.1 rfl (Nat.le_of_ble_eq_true rfl) dX9_allGoOn_22 ⟨Nat.zero_le _, Nat.zero_le _⟩) hS (fun p67 f66 H locs hqf66 V I hS => ?_)
            have I : cI ks τ L ψ f66 := by rw [show p67 = ψ from hqf66] at I; exact I
            obtain ⟨x69, ex69⟩ : ∃ y : Int32, y = w2_1 + (1) := ⟨_, rfl⟩
            refine lv_iinc (v := x69) (lv' := [(1, .int x69), (2, .ref y64), (0, .ref o0)]) hx hb dX9_allGoOn_25 hl (k := 2) rfl (by rw [ex69]; rfl) (by decide) rfl (fun ls hl => ?_)
            refine lv_goto (tgt := 2) hx hb dX9_allGoOn_28 (by decide) ?_
            exact ih2 x69 f66 _ _ _ I (ca_up ex69 hi2.1 (ci_lt c2)) (cmsd hm2 (ca_dec ex69 hi2.1 (ci_lt c2)).1 (ca_dec ex69 hi2.1 (ci_lt c2)).2) V hS (lv_sub hl [2, 0] rfl)
  exact loop2 _ x1 f _ _ _ I (by clear V hS hl C9 hts hown hx hb hml hr hlk; subst_vars; decide) (Nat.lt_succ_self _) V hS (lv_sub hl [1, 0] rfl)
set_option maxHeartbeats 200000 in
set_option maxRecDepth 100000 in
theorem c_X9_hasStrands (l : Launch) (D : va_G) (ks : kS) (τ : Nat → Nat) (L : List Nat) (A : Nat → Prop) (N : State → Prop) (hN : cNk A N) (ψ : Int32) (f : Nat → va_E) (o0 : Nat) (t_o0 : tyS τ L o0) : Met l yX9_hasStrands (Cond.code yX9_hasStrands cX9_hasStrands 1 (some .boolean) :: tC) ({ frames := 0, cells := 0, slots := 0, locals := 0 }) (va_Pc [.ref o0] (cB D ks τ L A N (ψ, f))) (va_Qi (fun r9 x9 => x9.1 = ψ) (cB D ks τ L A N) A) 0 0 A := by
  refine cMet (own := RX9) (by decide) rfl (Nat.le_of_ble_eq_true rfl) ?_
  intro p e s m below meth c ls C9 hml hr hlk V I hNs hl
  have hx := C9.1
  have hb := C9.2.1
  have hown := C9.2.2.1
  have hts := C9.2.2.2.1
  have hS : va_S A s.heap s.heap [] := va_S.rf
  have hl : lv_has ls 1 [(0, .ref o0)] := hl
  refine lv_aload_n hx hb dX9_hasStrands_0 rfl (lv_at hl 0 rfl) ?_
  obtain ⟨hL1, hk1⟩ := id t_o0
  rcases hk1 with hk1 | hk1 | hk1 | hk1 | hk1 | hk1
  · have tk1 : ty τ L o0 0 := ⟨hL1, hk1⟩
    obtain ⟨v2_0, v2_1, v2_2, v2_3, v2_4, hf2, t2_2⟩ := op0 I tk1
    refine cG C9 V tk1.1 hf2 rfl tC_lay0 2 (by decide) tCf_X9_12 (Or.inl rfl) rfl dX9_hasStrands_1 ?_
    obtain ⟨v3_0, v3_1, hf3, hn3, t3_1⟩ := op5 I t2_2
    refine cG C9 V t2_2.1 hf3 rfl tC_lay5 0 (by decide) tCf_X9_25 (Or.inl rfl) rfl dX9_hasStrands_4 ?_
    refine lv_if_le (tgt := 14) hx hb dX9_hasStrands_7 (by decide) (fun c4 => ?_) (fun c4 => ?_)
    · refine lv_iconst (v := 0) hx hb dX9_hasStrands_14 (by decide) ?_
      exact cRetZ C9 hr hlk hN hNs V I hS (by clear V hS hl C9 hts hown hx hb hml hr hlk; first | rfl | decide | (subst_vars; rfl)) (rfl) dX9_hasStrands_15
    · refine lv_iconst (v := 1) hx hb dX9_hasStrands_10 (by decide) ?_
      refine lv_goto (tgt := 15) hx hb dX9_hasStrands_11 (by decide) ?_
      exact cRetZ C9 hr hlk hN hNs V I hS (by clear V hS hl C9 hts hown hx hb hml hr hlk; first | rfl | decide | (subst_vars; rfl)) (rfl) dX9_hasStrands_15
  · have tk1 : ty τ L o0 1 := ⟨hL1, hk1⟩
    obtain ⟨v5_0, v5_1, v5_2, v5_3, v5_4, hf5, t5_2⟩ := op1 I tk1
    refine cG C9 V tk1.1 hf5 rfl tC_lay1 2 (by decide) tCf_X9_12 (Or.inl rfl) rfl dX9_hasStrands_1 ?_
    obtain ⟨v6_0, v6_1, hf6, hn6, t6_1⟩ := op5 I t5_2
    refine cG C9 V t5_2.1 hf6 rfl tC_lay5 0 (by decide) tCf_X9_25 (Or.inl rfl) rfl dX9_hasStrands_4 ?_
    refine lv_if_le (tgt := 14) hx hb dX9_hasStrands_7 (by decide) (fun c7 => ?_) (fun c7 => ?_)
    · refine lv_iconst (v := 0) hx hb dX9_hasStrands_14 (by decide) ?_
      exact cRetZ C9 hr hlk hN hNs V I hS (by clear V hS hl C9 hts hown hx hb hml hr hlk; first | rfl | decide | (subst_vars; rfl)) (rfl) dX9_hasStrands_15
    · refine lv_iconst (v := 1) hx hb dX9_hasStrands_10 (by decide) ?_
      refine lv_goto (tgt := 15) hx hb dX9_hasStrands_11 (by decide) ?_
      exact cRetZ C9 hr hlk hN hNs V I hS (by clear V hS hl C9 hts hown hx hb hml hr hlk; first | rfl | decide | (subst_vars; rfl)) (rfl) dX9_hasStrands_15
  · have tk1 : ty τ L o0 2 := ⟨hL1, hk1⟩
    obtain ⟨v8_0, v8_1, v8_2, v8_3, hf8, t8_2⟩ := op2 I tk1
    refine cG C9 V tk1.1 hf8 rfl tC_lay2 2 (by decide) tCf_X9_12 (Or.inl rfl) rfl dX9_hasStrands_1 ?_
    obtain ⟨v9_0, v9_1, hf9, hn9, t9_1⟩ := op5 I t8_2
    refine cG C9 V t8_2.1 hf9 rfl tC_lay5 0 (by decide) tCf_X9_25 (Or.inl rfl) rfl dX9_hasStrands_4 ?_
    refine lv_if_le (tgt := 14) hx hb dX9_hasStrands_7 (by decide) (fun c10 => ?_) (fun c10 => ?_)
    · refine lv_iconst (v := 0) hx hb dX9_hasStrands_14 (by decide) ?_
      exact cRetZ C9 hr hlk hN hNs V I hS (by clear V hS hl C9 hts hown hx hb hml hr hlk; first | rfl | decide | (subst_vars; rfl)) (rfl) dX9_hasStrands_15
    · refine lv_iconst (v := 1) hx hb dX9_hasStrands_10 (by decide) ?_
      refine lv_goto (tgt := 15) hx hb dX9_hasStrands_11 (by decide) ?_
      exact cRetZ C9 hr hlk hN hNs V I hS (by clear V hS hl C9 hts hown hx hb hml hr hlk; first | rfl | decide | (subst_vars; rfl)) (rfl) dX9_hasStrands_15
  · have tk1 : ty τ L o0 3 := ⟨hL1, hk1⟩
    obtain ⟨v11_0, v11_1, v11_2, v11_3, v11_4, v11_5, v11_6, hf11, t11_2, t11_6⟩ := op3 I tk1
    refine cG C9 V tk1.1 hf11 rfl tC_lay3 2 (by decide) tCf_X9_12 (Or.inl rfl) rfl dX9_hasStrands_1 ?_
    obtain ⟨v12_0, v12_1, hf12, hn12, t12_1⟩ := op5 I t11_2
    refine cG C9 V t11_2.1 hf12 rfl tC_lay5 0 (by decide) tCf_X9_25 (Or.inl rfl) rfl dX9_hasStrands_4 ?_
    refine lv_if_le (tgt := 14) hx hb dX9_hasStrands_7 (by decide) (fun c13 => ?_) (fun c13 => ?_)
    · refine lv_iconst (v := 0) hx hb dX9_hasStrands_14 (by decide) ?_
      exact cRetZ C9 hr hlk hN hNs V I hS (by clear V hS hl C9 hts hown hx hb hml hr hlk; first | rfl | decide | (subst_vars; rfl)) (rfl) dX9_hasStrands_15
    · refine lv_iconst (v := 1) hx hb dX9_hasStrands_10 (by decide) ?_
      refine lv_goto (tgt := 15) hx hb dX9_hasStrands_11 (by decide) ?_
      exact cRetZ C9 hr hlk hN hNs V I hS (by clear V hS hl C9 hts hown hx hb hml hr hlk; first | rfl | decide | (subst_vars; rfl)) (rfl) dX9_hasStrands_15
  · have tk1 : ty τ L o0 4 := ⟨hL1, hk1⟩
    obtain ⟨v14_0, v14_1, v14_2, v14_3, v14_4, v14_5, c14, hf14, t14_2, t14_3, hc14, h014, h114⟩ := op4 I tk1
    refine cG C9 V tk1.1 hf14 rfl tC_lay4 2 (by decide) tCf_X9_12 (Or.inl rfl) rfl dX9_hasStrands_1 ?_
    obtain ⟨v15_0, v15_1, hf15, hn15, t15_1⟩ := op5 I t14_2
    refine cG C9 V t14_2.1 hf15 rfl tC_lay5 0 (by decide) tCf_X9_25 (Or.inl rfl) rfl dX9_hasStrands_4 ?_
    refine lv_if_le (tgt := 14) hx hb dX9_hasStrands_7 (by decide) (fun c16 => ?_) (fun c16 => ?_)
    · refine lv_iconst (v := 0) hx hb dX9_hasStrands_14 (by decide) ?_
      exact cRetZ C9 hr hlk hN hNs V I hS (by clear V hS hl C9 hts hown hx hb hml hr hlk; first | rfl | decide | (subst_vars; rfl)) (rfl) dX9_hasStrands_15
    · refine lv_iconst (v := 1) hx hb dX9_hasStrands_10 (by decide) ?_
      refine lv_goto (tgt := 15) hx hb dX9_hasStrands_11 (by decide) ?_
      exact cRetZ C9 hr hlk hN hNs V I hS (by clear V hS hl C9 hts hown hx hb hml hr hlk; first | rfl | decide | (subst_vars; rfl)) (rfl) dX9_hasStrands_15
  · have tk1 : ty τ L o0 6 := ⟨hL1, hk1⟩
    obtain ⟨v17_0, v17_1, v17_2, v17_3, hf17, t17_2⟩ := op6 I tk1
    refine cG C9 V tk1.1 hf17 rfl tC_lay6 2 (by decide) tCf_X9_12 (Or.inl rfl) rfl dX9_hasStrands_1 ?_
    obtain ⟨v18_0, v18_1, hf18, hn18, t18_1⟩ := op5 I t17_2
    refine cG C9 V t17_2.1 hf18 rfl tC_lay5 0 (by decide) tCf_X9_25 (Or.inl rfl) rfl dX9_hasStrands_4 ?_
    refine lv_if_le (tgt := 14) hx hb dX9_hasStrands_7 (by decide) (fun c19 => ?_) (fun c19 => ?_)
    · refine lv_iconst (v := 0) hx hb dX9_hasStrands_14 (by decide) ?_
      exact cRetZ C9 hr hlk hN hNs V I hS (by clear V hS hl C9 hts hown hx hb hml hr hlk; first | rfl | decide | (subst_vars; rfl)) (rfl) dX9_hasStrands_15
    · refine lv_iconst (v := 1) hx hb dX9_hasStrands_10 (by decide) ?_
      refine lv_goto (tgt := 15) hx hb dX9_hasStrands_11 (by decide) ?_
      exact cRetZ C9 hr hlk hN hNs V I hS (by clear V hS hl C9 hts hown hx hb hml hr hlk; first | rfl | decide | (subst_vars; rfl)) (rfl) dX9_hasStrands_15
set_option maxHeartbeats 200000 in
set_option maxRecDepth 100000 in
theorem c_X9_tells (l : Launch) (D : va_G) (ks : kS) (τ : Nat → Nat) (L : List Nat) (A : Nat → Prop) (N : State → Prop) (hN : cNk A N) (ψ : Int32) (f : Nat → va_E) (o0 : Nat) (i1 : Int32) (t_o0 : tyS τ L o0) : Met l yX9_tells (Cond.code yX9_tells cX9_tells 2 (some .boolean) :: tC) ({ frames := 0, cells := 0, slots := 0, locals := 0 }) (va_Pc [.ref o0, .int i1] (cB D ks τ L A N (ψ, f))) (va_Qi (fun r9 x9 => x9.1 = ψ) (cB D ks τ L A N) A) 0 0 A := by
  refine cMet (own := RX9) (by decide) rfl (Nat.le_of_ble_eq_true rfl) ?_
  intro p e s m below meth c ls C9 hml hr hlk V I hNs hl
  have hx := C9.1
  have hb := C9.2.1
  have hown := C9.2.2.1
  have hts := C9.2.2.2.1
  have hS : va_S A s.heap s.heap [] := va_S.rf
  have hl : lv_has ls 2 [(0, .ref o0), (1, .int i1)] := hl
  refine lv_iload_n hx hb dX9_tells_0 rfl (lv_at hl 1 rfl) ?_
  refine lv_iconst (v := 1) hx hb dX9_tells_1 (by decide) ?_
  refine lv_icmp_gt (tgt := 9) hx hb dX9_tells_2 (by decide) (fun c1 => ?_) (fun c1 => ?_)
  · refine lv_iconst (v := 0) hx hb dX9_tells_9 (by decide) ?_
    exact cRetZ C9 hr hlk hN hNs V I hS (by clear V hS hl C9 hts hown hx hb hml hr hlk; first | rfl | decide | (subst_vars; rfl)) (rfl) dX9_tells_10
  · refine lv_iconst (v := 1) hx hb dX9_tells_5 (by decide) ?_
    refine lv_goto (tgt := 10) hx hb dX9_tells_6 (by decide) ?_
    exact cRetZ C9 hr hlk hN hNs V I hS (by clear V hS hl C9 hts hown hx hb hml hr hlk; first | rfl | decide | (subst_vars; rfl)) (rfl) dX9_tells_10
set_option maxHeartbeats 200000 in
set_option maxRecDepth 100000 in
theorem c_X9_detail (l : Launch) (D : va_G) (ks : kS) (τ : Nat → Nat) (L : List Nat) (A : Nat → Prop) (N : State → Prop) (hN : cNk A N) (ψ : Int32) (f : Nat → va_E) (o0 : Nat) (i1 : Int32) (t_o0 : tyS τ L o0) : Met l yX9_detail (Cond.code yX9_detail cX9_detail 2 (some .long) :: tC) ({ frames := 0, cells := 0, slots := 0, locals := 0 }) (va_Pc [.ref o0, .int i1] (cB D ks τ L A N (ψ, f))) (va_Ql (fun r9 x9 => x9.1 = ψ) (cB D ks τ L A N) A) 0 0 A := by
  refine cMet (own := RX9) (by decide) rfl (Nat.le_of_ble_eq_true rfl) ?_
  intro p e s m below meth c ls C9 hml hr hlk V I hNs hl
  have hx := C9.1
  have hb := C9.2.1
  have hown := C9.2.2.1
  have hts := C9.2.2.2.1
  have hS : va_S A s.heap s.heap [] := va_S.rf
  have hl : lv_has ls 2 [(0, .ref o0), (1, .int i1)] := hl
  refine lv_ldc2 hx hb hown (hts _ tCc_X9_28) dX9_detail_0 ?_
  exact cRetL C9 hr hlk hN hNs V I hS (rfl) dX9_detail_3
set_option maxHeartbeats 200000 in
set_option maxRecDepth 100000 in
theorem c_X1_value (l : Launch) (D : va_G) (ks : kS) (τ : Nat → Nat) (L : List Nat) (A : Nat → Prop) (N : State → Prop) (hN : cNk A N) (ψ : Int32) (f : Nat → va_E) (o0 : Nat) (t_o0 : ty τ L o0 0) : Met l yX1_value (Cond.code yX1_value cX1_value 1 (some .long) :: tC) ({ frames := 0, cells := 0, slots := 0, locals := 0 }) (va_Pc [.ref o0] (cB D ks τ L A N (ψ, f))) (va_Ql (fun r9 x9 => x9.1 = ψ) (cB D ks τ L A N) A) 0 0 A := by
  refine cMet (own := RX1) (by decide) rfl (Nat.le_of_ble_eq_true rfl) ?_
  intro p e s m below meth c ls C9 hml hr hlk V I hNs hl
  have hx := C9.1
  have hb := C9.2.1
  have hown := C9.2.2.1
  have hts := C9.2.2.2.1
  have hS : va_S A s.heap s.heap [] := va_S.rf
  have hl : lv_has ls 1 [(0, .ref o0)] := hl
  refine lv_aload_n hx hb dX1_value_0 rfl (lv_at hl 0 rfl) ?_
  obtain ⟨v1_0, v1_1, v1_2, v1_3, v1_4, hf1, t1_2⟩ := op0 I t_o0
  refine cG C9 V t_o0.1 hf1 rfl tC_lay0 4 (by decide) tCf_X1_36 (Or.inl rfl) rfl dX1_value_1 ?_
  refine lv_i2l hx hb dX1_value_4 rfl ?_
  exact cRetL C9 hr hlk hN hNs V I hS (rfl) dX1_value_5
set_option maxHeartbeats 200000 in
set_option maxRecDepth 100000 in
theorem c_X3_value (l : Launch) (D : va_G) (ks : kS) (τ : Nat → Nat) (L : List Nat) (A : Nat → Prop) (N : State → Prop) (hN : cNk A N) (ψ : Int32) (f : Nat → va_E) (o0 : Nat) (t_o0 : ty τ L o0 2) : Met l yX3_value (Cond.code yX3_value cX3_value 1 (some .long) :: tC) ({ frames := 0, cells := 0, slots := 0, locals := 0 }) (va_Pc [.ref o0] (cB D ks τ L A N (ψ, f))) (va_Ql (fun r9 x9 => x9.1 = ψ) (cB D ks τ L A N) A) 0 0 A := by
  refine cMet (own := RX3) (by decide) rfl (Nat.le_of_ble_eq_true rfl) ?_
  intro p e s m below meth c ls C9 hml hr hlk V I hNs hl
  have hx := C9.1
  have hb := C9.2.1
  have hown := C9.2.2.1
  have hts := C9.2.2.2.1
  have hS : va_S A s.heap s.heap [] := va_S.rf
  have hl : lv_has ls 1 [(0, .ref o0)] := hl
  refine lv_aload_n hx hb dX3_value_0 rfl (lv_at hl 0 rfl) ?_
  obtain ⟨v1_0, v1_1, v1_2, v1_3, hf1, t1_2⟩ := op2 I t_o0
  refine cG C9 V t_o0.1 hf1 rfl tC_lay2 1 (by decide) tCf_X3_52 (Or.inr tCs_X3_kind) rfl dX3_value_1 ?_
  refine lv_iconst (v := 2) hx hb dX3_value_4 (by decide) ?_
  refine lv_icmp_ne (tgt := 16) hx hb dX3_value_5 (by decide) (fun c2 => ?_) (fun c2 => ?_)
  · refine lv_aload_n hx hb dX3_value_16 rfl (lv_at hl 0 rfl) ?_
    refine cG C9 V t_o0.1 hf1 rfl tC_lay2 2 (by decide) tCf_X3_40 (Or.inr tCs_X3_row) rfl dX3_value_17 ?_
    obtain ⟨v3_0, v3_1, hf3, hn3, t3_1⟩ := op5 I t1_2
    refine cG C9 V t1_2.1 hf3 rfl tC_lay5 0 (by decide) tCf_X3_44 (Or.inl rfl) rfl dX3_value_20 ?_
    refine lv_i2l hx hb dX3_value_23 rfl ?_
    exact cRetL C9 hr hlk hN hNs V I hS (rfl) dX3_value_24
  · refine lv_aload_n hx hb dX3_value_8 rfl (lv_at hl 0 rfl) ?_
    refine cG C9 V t_o0.1 hf1 rfl tC_lay2 3 (by decide) tCf_X3_9 (Or.inl rfl) rfl dX3_value_9 ?_
    refine lv_i2l hx hb dX3_value_12 rfl ?_
    refine lv_goto (tgt := 24) hx hb dX3_value_13 (by decide) ?_
    exact cRetL C9 hr hlk hN hNs V I hS (rfl) dX3_value_24
set_option maxHeartbeats 200000 in
set_option maxRecDepth 100000 in
theorem c_X5_value (l : Launch) (D : va_G) (ks : kS) (τ : Nat → Nat) (L : List Nat) (A : Nat → Prop) (N : State → Prop) (hN : cNk A N) (ψ : Int32) (f : Nat → va_E) (o0 : Nat) (t_o0 : ty τ L o0 4) : Met l yX5_value (Cond.code yX5_value cX5_value 1 (some .long) :: tC) ({ frames := 0, cells := 0, slots := 0, locals := 0 }) (va_Pc [.ref o0] (cB D ks τ L A N (ψ, f))) (va_Ql (fun r9 x9 => x9.1 = ψ) (cB D ks τ L A N) A) 0 0 A := by
  refine cMet (own := RX5) (by decide) rfl (Nat.le_of_ble_eq_true rfl) ?_
  intro p e s m below meth c ls C9 hml hr hlk V I hNs hl
  have hx := C9.1
  have hb := C9.2.1
  have hown := C9.2.2.1
  have hts := C9.2.2.2.1
  have hS : va_S A s.heap s.heap [] := va_S.rf
  have hl : lv_has ls 1 [(0, .ref o0)] := hl
  refine lv_aload_n hx hb dX5_value_0 rfl (lv_at hl 0 rfl) ?_
  obtain ⟨v1_0, v1_1, v1_2, v1_3, v1_4, v1_5, c1, hf1, t1_2, t1_3, hc1, h01, h11⟩ := op4 I t_o0
  refine cG C9 V t_o0.1 hf1 rfl tC_lay4 5 (by decide) tCf_X5_48 (Or.inl rfl) rfl dX5_value_1 ?_
  refine lv_i2l hx hb dX5_value_4 rfl ?_
  exact cRetL C9 hr hlk hN hNs V I hS (rfl) dX5_value_5
set_option maxHeartbeats 200000 in
set_option maxRecDepth 100000 in
theorem c_X7_value (l : Launch) (D : va_G) (ks : kS) (τ : Nat → Nat) (L : List Nat) (A : Nat → Prop) (N : State → Prop) (hN : cNk A N) (ψ : Int32) (f : Nat → va_E) (o0 : Nat) (t_o0 : ty τ L o0 6) : Met l yX7_value (Cond.code yX7_value cX7_value 1 (some .long) :: tC) ({ frames := 0, cells := 0, slots := 0, locals := 0 }) (va_Pc [.ref o0] (cB D ks τ L A N (ψ, f))) (va_Ql (fun r9 x9 => x9.1 = ψ) (cB D ks τ L A N) A) 0 0 A := by
  refine cMet (own := RX7) (by decide) rfl (Nat.le_of_ble_eq_true rfl) ?_
  intro p e s m below meth c ls C9 hml hr hlk V I hNs hl
  have hx := C9.1
  have hb := C9.2.1
  have hown := C9.2.2.1
  have hts := C9.2.2.2.1
  have hS : va_S A s.heap s.heap [] := va_S.rf
  have hl : lv_has ls 1 [(0, .ref o0)] := hl
  refine lv_aload_n hx hb dX7_value_0 rfl (lv_at hl 0 rfl) ?_
  obtain ⟨v1_0, v1_1, v1_2, v1_3, hf1, t1_2⟩ := op6 I t_o0
  refine cG C9 V t_o0.1 hf1 rfl tC_lay6 3 (by decide) tCf_X7_9 (Or.inl rfl) rfl dX7_value_1 ?_
  refine lv_i2l hx hb dX7_value_4 rfl ?_
  exact cRetL C9 hr hlk hN hNs V I hS (rfl) dX7_value_5
set_option maxHeartbeats 200000 in
set_option maxRecDepth 100000 in
theorem c_X1_tells (l : Launch) (D : va_G) (ks : kS) (τ : Nat → Nat) (L : List Nat) (A : Nat → Prop) (N : State → Prop) (hN : cNk A N) (ψ : Int32) (f : Nat → va_E) (o0 : Nat) (i1 : Int32) (t_o0 : ty τ L o0 0) : Met l yX1_tells (Cond.code yX1_tells cX1_tells 2 (some .boolean) :: tC) ({ frames := 0, cells := 0, slots := 0, locals := 0 }) (va_Pc [.ref o0, .int i1] (cB D ks τ L A N (ψ, f))) (va_Qi (fun r9 x9 => x9.1 = ψ) (cB D ks τ L A N) A) 0 0 A := by
  refine cMet (own := RX1) (by decide) rfl (Nat.le_of_ble_eq_true rfl) ?_
  intro p e s m below meth c ls C9 hml hr hlk V I hNs hl
  have hx := C9.1
  have hb := C9.2.1
  have hown := C9.2.2.1
  have hts := C9.2.2.2.1
  have hS : va_S A s.heap s.heap [] := va_S.rf
  have hl : lv_has ls 2 [(0, .ref o0), (1, .int i1)] := hl
  refine lv_iload_n hx hb dX1_tells_0 rfl (lv_at hl 1 rfl) ?_
  refine lv_iconst (v := 2) hx hb dX1_tells_1 (by decide) ?_
  refine lv_icmp_gt (tgt := 9) hx hb dX1_tells_2 (by decide) (fun c1 => ?_) (fun c1 => ?_)
  · refine lv_iconst (v := 0) hx hb dX1_tells_9 (by decide) ?_
    exact cRetZ C9 hr hlk hN hNs V I hS (by clear V hS hl C9 hts hown hx hb hml hr hlk; first | rfl | decide | (subst_vars; rfl)) (rfl) dX1_tells_10
  · refine lv_iconst (v := 1) hx hb dX1_tells_5 (by decide) ?_
    refine lv_goto (tgt := 10) hx hb dX1_tells_6 (by decide) ?_
    exact cRetZ C9 hr hlk hN hNs V I hS (by clear V hS hl C9 hts hown hx hb hml hr hlk; first | rfl | decide | (subst_vars; rfl)) (rfl) dX1_tells_10
set_option maxHeartbeats 200000 in
set_option maxRecDepth 100000 in
theorem c_X5_tells (l : Launch) (D : va_G) (ks : kS) (τ : Nat → Nat) (L : List Nat) (A : Nat → Prop) (N : State → Prop) (hN : cNk A N) (ψ : Int32) (f : Nat → va_E) (o0 : Nat) (i1 : Int32) (t_o0 : ty τ L o0 4) : Met l yX5_tells (Cond.code yX5_tells cX5_tells 2 (some .boolean) :: tC) ({ frames := 0, cells := 0, slots := 0, locals := 0 }) (va_Pc [.ref o0, .int i1] (cB D ks τ L A N (ψ, f))) (va_Qi (fun r9 x9 => x9.1 = ψ) (cB D ks τ L A N) A) 0 0 A := by
  refine cMet (own := RX5) (by decide) rfl (Nat.le_of_ble_eq_true rfl) ?_
  intro p e s m below meth c ls C9 hml hr hlk V I hNs hl
  have hx := C9.1
  have hb := C9.2.1
  have hown := C9.2.2.1
  have hts := C9.2.2.2.1
  have hS : va_S A s.heap s.heap [] := va_S.rf
  have hl : lv_has ls 2 [(0, .ref o0), (1, .int i1)] := hl
  refine lv_iload_n hx hb dX5_tells_0 rfl (lv_at hl 1 rfl) ?_
  refine lv_iconst (v := 1) hx hb dX5_tells_1 (by decide) ?_
  refine lv_icmp_le (tgt := 10) hx hb dX5_tells_2 (by decide) (fun c1 => ?_) (fun c1 => ?_)
  · refine lv_iconst (v := 1) hx hb dX5_tells_10 (by decide) ?_
    refine lv_goto (tgt := 15) hx hb dX5_tells_11 (by decide) ?_
    exact cRetZ C9 hr hlk hN hNs V I hS (by clear V hS hl C9 hts hown hx hb hml hr hlk; first | rfl | decide | (subst_vars; rfl)) (rfl) dX5_tells_15
  · refine lv_iload_n hx hb dX5_tells_5 rfl (lv_at hl 1 rfl) ?_
    refine lv_iconst (v := 4) hx hb dX5_tells_6 (by decide) ?_
    refine lv_icmp_ne (tgt := 14) hx hb dX5_tells_7 (by decide) (fun c2 => ?_) (fun c2 => ?_)
    · refine lv_iconst (v := 0) hx hb dX5_tells_14 (by decide) ?_
      exact cRetZ C9 hr hlk hN hNs V I hS (by clear V hS hl C9 hts hown hx hb hml hr hlk; first | rfl | decide | (subst_vars; rfl)) (rfl) dX5_tells_15
    · refine lv_iconst (v := 1) hx hb dX5_tells_10 (by decide) ?_
      refine lv_goto (tgt := 15) hx hb dX5_tells_11 (by decide) ?_
      exact cRetZ C9 hr hlk hN hNs V I hS (by clear V hS hl C9 hts hown hx hb hml hr hlk; first | rfl | decide | (subst_vars; rfl)) (rfl) dX5_tells_15
set_option maxHeartbeats 200000 in
set_option maxRecDepth 100000 in
theorem c_X1_detail (l : Launch) (D : va_G) (ks : kS) (τ : Nat → Nat) (L : List Nat) (A : Nat → Prop) (N : State → Prop) (hN : cNk A N) (ψ : Int32) (f : Nat → va_E) (o0 : Nat) (i1 : Int32) (t_o0 : ty τ L o0 0) : Met l yX1_detail (Cond.code yX1_detail cX1_detail 2 (some .long) :: tC) ({ frames := 0, cells := 0, slots := 0, locals := 0 }) (va_Pc [.ref o0, .int i1] (cB D ks τ L A N (ψ, f))) (va_Ql (fun r9 x9 => x9.1 = ψ) (cB D ks τ L A N) A) 0 0 A := by
  refine cMet (own := RX1) (by decide) rfl (Nat.le_of_ble_eq_true rfl) ?_
  intro p e s m below meth c ls C9 hml hr hlk V I hNs hl
  have hx := C9.1
  have hb := C9.2.1
  have hown := C9.2.2.1
  have hts := C9.2.2.2.1
  have hS : va_S A s.heap s.heap [] := va_S.rf
  have hl : lv_has ls 2 [(0, .ref o0), (1, .int i1)] := hl
  refine lv_aload_n hx hb dX1_detail_0 rfl (lv_at hl 0 rfl) ?_
  obtain ⟨v1_0, v1_1, v1_2, v1_3, v1_4, hf1, t1_2⟩ := op0 I t_o0
  refine cG C9 V t_o0.1 hf1 rfl tC_lay0 3 (by decide) tCf_X1_9 (Or.inl rfl) rfl dX1_detail_1 ?_
  refine lv_i2l hx hb dX1_detail_4 rfl ?_
  exact cRetL C9 hr hlk hN hNs V I hS (rfl) dX1_detail_5
set_option maxHeartbeats 200000 in
set_option maxRecDepth 100000 in
theorem c_X5_detail (l : Launch) (D : va_G) (ks : kS) (τ : Nat → Nat) (L : List Nat) (A : Nat → Prop) (N : State → Prop) (hN : cNk A N) (ψ : Int32) (f : Nat → va_E) (o0 : Nat) (i1 : Int32) (t_o0 : ty τ L o0 4) : Met l yX5_detail (Cond.code yX5_detail cX5_detail 2 (some .long) :: tC) ({ frames := 0, cells := 0, slots := 0, locals := 0 }) (va_Pc [.ref o0, .int i1] (cB D ks τ L A N (ψ, f))) (va_Ql (fun r9 x9 => x9.1 = ψ) (cB D ks τ L A N) A) 0 0 A := by
  refine cMet (own := RX5) (by decide) rfl (Nat.le_of_ble_eq_true rfl) ?_
  intro p e s m below meth c ls C9 hml hr hlk V I hNs hl
  have hx := C9.1
  have hb := C9.2.1
  have hown := C9.2.2.1
  have hts := C9.2.2.2.1
  have hS : va_S A s.heap s.heap [] := va_S.rf
  have hl : lv_has ls 2 [(0, .ref o0), (1, .int i1)] := hl
  refine lv_aload_n hx hb dX5_detail_0 rfl (lv_at hl 0 rfl) ?_
  obtain ⟨v1_0, v1_1, v1_2, v1_3, v1_4, v1_5, c1, hf1, t1_2, t1_3, hc1, h01, h11⟩ := op4 I t_o0
  refine cG C9 V t_o0.1 hf1 rfl tC_lay4 3 (by decide) tCf_X5_9 (Or.inl rfl) rfl dX5_detail_1 ?_
  obtain ⟨g2, hf2⟩ := opN I t1_3 hc1
  refine cAl (t0 := 1) (v := (nI c1)) C9 V t1_3.1 hf2 rfl (by first | rfl | decide) dX5_detail_4 ?_
  refine lv_i2l hx hb dX5_detail_5 rfl ?_
  exact cRetL C9 hr hlk hN hNs V I hS (rfl) dX5_detail_6
end
section
set_option maxHeartbeats 200000 in
set_option maxRecDepth 100000 in
theorem c_X5_append (l : Launch) (D : va_G) (ks : kS) (τ : Nat → Nat) (L : List Nat) (A : Nat → Prop) (N : State → Prop) (hN : cNk A N) (ψ : Int32) (f : Nat → va_E) (o0 : Nat) (i1 : Int32) (t_o0 : ty τ L o0 4) : Met l yX5_append (Cond.code yX5_append cX5_append 3 none :: tC) ({ frames := 0, cells := 0, slots := 0, locals := 0 }) (va_Pc [.ref o0, .int i1] (cB D ks τ L A N (ψ, f))) (va_Qv (fun x9 => x9.1 = ψ) (cB D ks τ L A N) A) 0 0 A := by
  refine cMet (own := RX5) (by decide) rfl (Nat.le_of_ble_eq_true rfl) ?_
  intro p e s m below meth c ls C9 hml hr hlk V I hNs hl
  have hx := C9.1
  have hb := C9.2.1
  have hown := C9.2.2.1
  have hts := C9.2.2.2.1
  have hS : va_S A s.heap s.heap [] := va_S.rf
  have hl : lv_has ls 3 [(0, .ref o0), (1, .int i1)] := hl
  refine lv_aload_n hx hb dX5_append_0 rfl (lv_at hl 0 rfl) ?_
  obtain ⟨v1_0, v1_1, v1_2, v1_3, v1_4, v1_5, c1, hf1, t1_2, t1_3, hc1, h01, h11⟩ := op4 I t_o0
  refine cG C9 V t_o0.1 hf1 rfl tC_lay4 4 (by decide) tCf_X5_67 (Or.inl rfl) rfl dX5_append_1 ?_
  refine lv_aload_n hx hb dX5_append_4 rfl (lv_at hl 0 rfl) ?_
  refine cG C9 V t_o0.1 hf1 rfl tC_lay4 5 (by decide) tCf_X5_48 (Or.inl rfl) rfl dX5_append_5 ?_
  refine lv_iadd hx hb dX5_append_8 ?_
  refine lv_topi (fun x2 ex2 => ?_)
  refine lv_istore_n (lv' := [(2, .int x2), (0, .ref o0), (1, .int i1)]) hx hb dX5_append_9 rfl hl (by decide) rfl (fun ls hl => ?_)
  refine lv_iload_n hx hb dX5_append_10 rfl (lv_at hl 0 rfl) ?_
  refine lv_aload_n hx hb dX5_append_11 rfl (lv_at hl 1 rfl) ?_
  refine cG C9 V t_o0.1 hf1 rfl tC_lay4 3 (by decide) tCf_X5_9 (Or.inl rfl) rfl dX5_append_12 ?_
  obtain ⟨g3, hf3⟩ := opN I t1_3 hc1
  refine cAl (t0 := 1) (v := (nI c1)) C9 V t1_3.1 hf3 rfl (by first | rfl | decide) dX5_append_15 ?_
  refine lv_icmp_lt (tgt := 27) hx hb dX5_append_16 (by decide) (fun c4 => ?_) (fun c4 => ?_)
  · refine lv_iload_n hx hb dX5_append_27 rfl (lv_at hl 0 rfl) ?_
    refine lv_if_lt (tgt := 57) hx hb dX5_append_28 (by decide) (fun c5 => ?_) (fun c5 => ?_)
    · exact cRetV C9 hr hlk hN hNs V I hS (rfl) dX5_append_57
    · refine lv_iload_n hx hb dX5_append_31 rfl (lv_at hl 0 rfl) ?_
      refine lv_aload_n hx hb dX5_append_32 rfl (lv_at hl 1 rfl) ?_
      refine cG C9 V t_o0.1 hf1 rfl tC_lay4 3 (by decide) tCf_X5_9 (Or.inl rfl) rfl dX5_append_33 ?_
      refine cAl (t0 := 1) (v := (nI c1)) C9 V t1_3.1 hf3 rfl (by first | rfl | decide) dX5_append_36 ?_
      refine lv_icmp_ge (tgt := 57) hx hb dX5_append_37 (by decide) (fun c6 => ?_) (fun c6 => ?_)
      · exact cRetV C9 hr hlk hN hNs V I hS (rfl) dX5_append_57
      · refine lv_aload_n hx hb dX5_append_40 rfl (lv_at hl 1 rfl) ?_
        refine cG C9 V t_o0.1 hf1 rfl tC_lay4 3 (by decide) tCf_X5_9 (Or.inl rfl) rfl dX5_append_41 ?_
        refine lv_iload_n hx hb dX5_append_44 rfl (lv_at hl 0 rfl) ?_
        refine lv_iload_n hx hb dX5_append_45 rfl (lv_at hl 2 rfl) ?_
        refine cSi C9 V hS t1_3.1 hf3 (cq_in hc1 (ci_le c5) (ci_lt c6)) dX5_append_46 (fun f7 H locs ef7 V hS => ?_)
        obtain ⟨g8, eg8⟩ : ∃ z, z = upd g3 (Int32.toNatClampNeg x2) (i1) := ⟨_, rfl⟩
        rw [← eg8] at ef7
        have hf9 := up_s ef7
        have I := cI_up I t1_3.2 ef7 (mkN hc1)
        have hf10 := up_n ef7 t1_3.2 t_o0.2 (by first | decide | omega) hf1
        refine lv_aload_n hx hb dX5_append_47 rfl (lv_at hl 1 rfl) ?_
        refine lv_dup hx hb dX5_append_48 rfl ?_
        refine cG C9 V t_o0.1 hf10 rfl tC_lay4 5 (by decide) tCf_X5_48 (Or.inl rfl) rfl dX5_append_49 ?_
        refine lv_iconst (v := 1) hx hb dX5_append_52 (by decide) ?_
        refine lv_iadd hx hb dX5_append_53 ?_
        refine lv_topi (fun x11 ex11 => ?_)
        refine cP (v := .int x11) (ty := .int) C9 V hS t_o0.1 hf10 rfl tC_lay4 tyX5 tyX5_ok nmX5 5 (by decide) tCf_X5_48 rfl rfl (by decide +kernel) rfl rfl (Nat.le_of_ble_eq_true rfl) dX5_append_54 (fun f12 H locs ef12 V hS => ?_)
        have hf13 : f12 o0 = .inr (4, [.int v1_0, .int v1_1, .ref v1_2, .ref v1_3, .int v1_4, .int x11]) := up_s ef12
        have I := cI_up I t_o0.2 ef12 (mk4 t1_2 t1_3 hc1 h01 h11)
        have hf14 := up_n ef12 t_o0.2 t1_3.2 (by first | decide | omega) hf9
        exact cRetV C9 hr hlk hN hNs V I hS (rfl) dX5_append_57
  · refine lv_iload_n hx hb dX5_append_19 rfl (lv_at hl 0 rfl) ?_
    refine lv_aload_n hx hb dX5_append_20 rfl (lv_at hl 1 rfl) ?_
    refine cG C9 V t_o0.1 hf1 rfl tC_lay4 3 (by decide) tCf_X5_9 (Or.inl rfl) rfl dX5_append_21 ?_
    refine cAl (t0 := 1) (v := (nI c1)) C9 V t1_3.1 hf3 rfl (by first | rfl | decide) dX5_append_24 ?_
    refine lv_isub hx hb dX5_append_25 ?_
    refine lv_topi (fun x15 ex15 => ?_)
    refine lv_istore_n (lv' := [(2, .int x15), (0, .ref o0), (1, .int i1)]) hx hb dX5_append_26 rfl hl (by decide) rfl (fun ls hl => ?_)
    refine lv_iload_n hx hb dX5_append_27 rfl (lv_at hl 0 rfl) ?_
    refine lv_if_lt (tgt := 57) hx hb dX5_append_28 (by decide) (fun c16 => ?_) (fun c16 => ?_)
    · exact cRetV C9 hr hlk hN hNs V I hS (rfl) dX5_append_57
    · refine lv_iload_n hx hb dX5_append_31 rfl (lv_at hl 0 rfl) ?_
      refine lv_aload_n hx hb dX5_append_32 rfl (lv_at hl 1 rfl) ?_
      refine cG C9 V t_o0.1 hf1 rfl tC_lay4 3 (by decide) tCf_X5_9 (Or.inl rfl) rfl dX5_append_33 ?_
      refine cAl (t0 := 1) (v := (nI c1)) C9 V t1_3.1 hf3 rfl (by first | rfl | decide) dX5_append_36 ?_
      refine lv_icmp_ge (tgt := 57) hx hb dX5_append_37 (by decide) (fun c17 => ?_) (fun c17 => ?_)
      · exact cRetV C9 hr hlk hN hNs V I hS (rfl) dX5_append_57
      · refine lv_aload_n hx hb dX5_append_40 rfl (lv_at hl 1 rfl) ?_
        refine cG C9 V t_o0.1 hf1 rfl tC_lay4 3 (by decide) tCf_X5_9 (Or.inl rfl) rfl dX5_append_41 ?_
        refine lv_iload_n hx hb dX5_append_44 rfl (lv_at hl 0 rfl) ?_
        refine lv_iload_n hx hb dX5_append_45 rfl (lv_at hl 2 rfl) ?_
        refine cSi C9 V hS t1_3.1 hf3 (cq_in hc1 (ci_le c16) (ci_lt c17)) dX5_append_46 (fun f18 H locs ef18 V hS => ?_)
        obtain ⟨g19, eg19⟩ : ∃ z, z = upd g3 (Int32.toNatClampNeg x15) (i1) := ⟨_, rfl⟩
        rw [← eg19] at ef18
        have hf20 := up_s ef18
        have I := cI_up I t1_3.2 ef18 (mkN hc1)
        have hf21 := up_n ef18 t1_3.2 t_o0.2 (by first | decide | omega) hf1
        refine lv_aload_n hx hb dX5_append_47 rfl (lv_at hl 1 rfl) ?_
        refine lv_dup hx hb dX5_append_48 rfl ?_
        refine cG C9 V t_o0.1 hf21 rfl tC_lay4 5 (by decide) tCf_X5_48 (Or.inl rfl) rfl dX5_append_49 ?_
        refine lv_iconst (v := 1) hx hb dX5_append_52 (by decide) ?_
        refine lv_iadd hx hb dX5_append_53 ?_
        refine lv_topi (fun x22 ex22 => ?_)
        refine cP (v := .int x22) (ty := .int) C9 V hS t_o0.1 hf21 rfl tC_lay4 tyX5 tyX5_ok nmX5 5 (by decide) tCf_X5_48 rfl rfl (by decide +kernel) rfl rfl (Nat.le_of_ble_eq_true rfl) dX5_append_54 (fun f23 H locs ef23 V hS => ?_)
        have hf24 : f23 o0 = .inr (4, [.int v1_0, .int v1_1, .ref v1_2, .ref v1_3, .int v1_4, .int x22]) := up_s ef23
        have I := cI_up I t_o0.2 ef23 (mk4 t1_2 t1_3 hc1 h01 h11)
        have hf25 := up_n ef23 t_o0.2 t1_3.2 (by first | decide | omega) hf20
        exact cRetV C9 hr hlk hN hNs V I hS (rfl) dX5_append_57
set_option maxHeartbeats 200000 in
set_option maxRecDepth 100000 in
theorem c_X5_isAccepted (l : Launch) (D : va_G) (ks : kS) (τ : Nat → Nat) (L : List Nat) (A : Nat → Prop) (N : State → Prop) (hN : cNk A N) (ψ : Int32) (f : Nat → va_E) (o0 : Nat) (i1 : Int32) (t_o0 : ty τ L o0 4) : Met l yX5_isAccepted (Cond.code yX5_isAccepted cX5_isAccepted 3 (some .boolean) :: tC) ({ frames := 3, cells := 0, slots := 0, locals := 64 }) (va_Pc [.ref o0, .int i1] (cB D ks τ L A N (ψ, f))) (va_Qi (fun r9 x9 => x9.1 = ψ) (cB D ks τ L A N) A) 0 0 A := by
  refine cMet (own := RX5) (by decide) rfl (Nat.le_of_ble_eq_true rfl) ?_
  intro p e s m below meth c ls C9 hml hr hlk V I hNs hl
  have hx := C9.1
  have hb := C9.2.1
  have hown := C9.2.2.1
  have hts := C9.2.2.2.1
  have hS : va_S A s.heap s.heap [] := va_S.rf
  have hl : lv_has ls 3 [(0, .ref o0), (1, .int i1)] := hl
  refine lv_aload_n hx hb dX5_isAccepted_0 rfl (lv_at hl 0 rfl) ?_
  obtain ⟨v1_0, v1_1, v1_2, v1_3, v1_4, v1_5, c1, hf1, t1_2, t1_3, hc1, h01, h11⟩ := op4 I t_o0
  refine cG C9 V t_o0.1 hf1 rfl tC_lay4 5 (by decide) tCf_X5_48 (Or.inl rfl) rfl dX5_isAccepted_1 ?_
  refine lv_if_ne (tgt := 17) hx hb dX5_isAccepted_4 (by decide) (fun c2 => ?_) (fun c2 => ?_)
  · refine lv_null hx hb dX5_isAccepted_17 ?_
    refine lv_astore_nN (lv' := [(2, .null), (0, .ref o0), (1, .int i1)]) hx hb dX5_isAccepted_18 rfl hl (by decide) rfl (fun ls hl => ?_)
    refine lv_aload_nN hx hb dX5_isAccepted_19 rfl (lv_at hl 0 rfl) ?_
    refine lv_ifnullN (tgt := 30) hx hb dX5_isAccepted_20 (by decide) ?_
    refine lv_aload_n hx hb dX5_isAccepted_30 rfl (lv_at hl 1 rfl) ?_
    refine cG C9 V t_o0.1 hf1 rfl tC_lay4 5 (by decide) tCf_X5_48 (Or.inl rfl) rfl dX5_isAccepted_31 ?_
    refine lv_aload_n hx hb dX5_isAccepted_34 rfl (lv_at hl 1 rfl) ?_
    refine cG C9 V t_o0.1 hf1 rfl tC_lay4 3 (by decide) tCf_X5_9 (Or.inl rfl) rfl dX5_isAccepted_35 ?_
    obtain ⟨g3, hf3⟩ := opN I t1_3 hc1
    refine cAl (t0 := 1) (v := (nI c1)) C9 V t1_3.1 hf3 rfl (by first | rfl | decide) dX5_isAccepted_38 ?_
    refine lv_icmp_ne (tgt := 44) hx hb dX5_isAccepted_39 (by decide) (fun c4 => ?_) (fun c4 => ?_)
    · refine lv_aload_n hx hb dX5_isAccepted_44 rfl (lv_at hl 1 rfl) ?_
      refine lv_iload_n hx hb dX5_isAccepted_45 rfl (lv_at hl 2 rfl) ?_
      refine cGoV (cRunV (As := [.int i1]) (rest := []) C9 hml hN hNs V I hS t_o0.1 hf1 rfl (c_X5_append l D ks τ L A N hN ψ f o0 i1 t_o0 ) gC_X5_64 okC_X5_append ⟨rfl, rfl, Nat.le_of_ble_eq_true rfl, Nat.le_of_ble_eq_true rfl⟩ hl.1 rfl (Nat.le_of_ble_eq_true rfl) dX5_isAccepted_46 ⟨Nat.zero_le _, Nat.zero_le _⟩) hS (fun p6 f5 H locs hqf5 V I hS => ?_)
      have I : cI ks τ L ψ f5 := by rw [show p6 = ψ from hqf5] at I; exact I
      refine lv_iconst (v := 1) hx hb dX5_isAccepted_49 (by decide) ?_
      exact cRetZ C9 hr hlk hN hNs V I hS (by clear V hS hl C9 hts hown hx hb hml hr hlk; first | rfl | decide | (subst_vars; rfl)) (rfl) dX5_isAccepted_50
    · refine lv_iconst (v := 0) hx hb dX5_isAccepted_42 (by decide) ?_
      exact cRetZ C9 hr hlk hN hNs V I hS (by clear V hS hl C9 hts hown hx hb hml hr hlk; first | rfl | decide | (subst_vars; rfl)) (rfl) dX5_isAccepted_43
  · refine lv_aload_n hx hb dX5_isAccepted_7 rfl (lv_at hl 0 rfl) ?_
    refine cG C9 V t_o0.1 hf1 rfl tC_lay4 2 (by decide) tCf_X5_54 (Or.inr tCs_X5_row) rfl dX5_isAccepted_8 ?_
    obtain ⟨v8_0, v8_1, hf8, hn8, t8_1⟩ := op5 I t1_2
    refine cGoQ (cRunV (As := []) (rest := []) C9 hml hN hNs V I hS t1_2.1 hf8 rfl (c_X6_first l D ks τ L A N hN ψ f v1_2 t1_2 ) gC_X5_58 okC_X6_first ⟨rfl, rfl, Nat.le_of_ble_eq_true rfl, Nat.le_of_ble_eq_true rfl⟩ hl.1 rfl (Nat.le_of_ble_eq_true rfl) dX5_isAccepted_11 ⟨Nat.zero_le _, Nat.zero_le _⟩) hS (fun r11 p10 f9 H locs hqf9 V I hS => ?_)
    have I : cI ks τ L ψ f9 := by rw [show p10 = ψ from hqf9.1] at I; exact I
    rcases r11 with _ | y12
    · refine W.eq (g2 := F0 m 14 ls [.null]) rfl ?_
      refine lv_goto (tgt := 18) hx hb dX5_isAccepted_14 (by decide) ?_
      refine lv_astore_nN (lv' := [(2, .null), (0, .ref o0), (1, .int i1)]) hx hb dX5_isAccepted_18 rfl hl (by decide) rfl (fun ls hl => ?_)
      refine lv_aload_nN hx hb dX5_isAccepted_19 rfl (lv_at hl 0 rfl) ?_
      refine lv_ifnullN (tgt := 30) hx hb dX5_isAccepted_20 (by decide) ?_
      refine lv_aload_n hx hb dX5_isAccepted_30 rfl (lv_at hl 1 rfl) ?_
      obtain ⟨v13_0, v13_1, v13_2, v13_3, v13_4, v13_5, c13, hf13, t13_2, t13_3, hc13, h013, h113⟩ := op4 I t_o0
      refine cG C9 V t_o0.1 hf13 rfl tC_lay4 5 (by decide) tCf_X5_48 (Or.inl rfl) rfl dX5_isAccepted_31 ?_
      refine lv_aload_n hx hb dX5_isAccepted_34 rfl (lv_at hl 1 rfl) ?_
      refine cG C9 V t_o0.1 hf13 rfl tC_lay4 3 (by decide) tCf_X5_9 (Or.inl rfl) rfl dX5_isAccepted_35 ?_
      obtain ⟨g14, hf14⟩ := opN I t13_3 hc13
      refine cAl (t0 := 1) (v := (nI c13)) C9 V t13_3.1 hf14 rfl (by first | rfl | decide) dX5_isAccepted_38 ?_
      refine lv_icmp_ne (tgt := 44) hx hb dX5_isAccepted_39 (by decide) (fun c15 => ?_) (fun c15 => ?_)
      · refine lv_aload_n hx hb dX5_isAccepted_44 rfl (lv_at hl 1 rfl) ?_
        refine lv_iload_n hx hb dX5_isAccepted_45 rfl (lv_at hl 2 rfl) ?_
        refine cGoV (cRunV (As := [.int i1]) (rest := []) C9 hml hN hNs V I hS t_o0.1 hf13 rfl (c_X5_append l D ks τ L A N hN ψ f9 o0 i1 t_o0 ) gC_X5_64 okC_X5_append ⟨rfl, rfl, Nat.le_of_ble_eq_true rfl, Nat.le_of_ble_eq_true rfl⟩ hl.1 rfl (Nat.le_of_ble_eq_true rfl) dX5_isAccepted_46 ⟨Nat.zero_le _, Nat.zero_le _⟩) hS (fun p17 f16 H locs hqf16 V I hS => ?_)
        have I : cI ks τ L ψ f16 := by rw [show p17 = ψ from hqf16] at I; exact I
        refine lv_iconst (v := 1) hx hb dX5_isAccepted_49 (by decide) ?_
        exact cRetZ C9 hr hlk hN hNs V I hS (by clear V hS hl C9 hts hown hx hb hml hr hlk; first | rfl | decide | (subst_vars; rfl)) (rfl) dX5_isAccepted_50
      · refine lv_iconst (v := 0) hx hb dX5_isAccepted_42 (by decide) ?_
        exact cRetZ C9 hr hlk hN hNs V I hS (by clear V hS hl C9 hts hown hx hb hml hr hlk; first | rfl | decide | (subst_vars; rfl)) (rfl) dX5_isAccepted_43
    · have hy12 := hqf9.2 y12 rfl
      refine W.eq (g2 := F0 m 14 ls [.ref y12]) rfl ?_
      refine lv_goto (tgt := 18) hx hb dX5_isAccepted_14 (by decide) ?_
      refine lv_astore_n (lv' := [(2, .ref y12), (0, .ref o0), (1, .int i1)]) hx hb dX5_isAccepted_18 rfl hl (by decide) rfl (fun ls hl => ?_)
      refine lv_aload_n hx hb dX5_isAccepted_19 rfl (lv_at hl 0 rfl) ?_
      refine lv_ifnull hx hb dX5_isAccepted_20 ?_
      refine lv_aload_n hx hb dX5_isAccepted_23 rfl (lv_at hl 0 rfl) ?_
      refine lv_iload_n hx hb dX5_isAccepted_24 rfl (lv_at hl 2 rfl) ?_
      obtain ⟨v19_0, v19_1, v19_2, v19_3, v19_4, v19_5, v19_6, v19_7, v19_8, v19_9, v19_10, v19_11, v19_12, hf19, t19_7, t19_8, t19_11⟩ := op7 I hy12
      refine cGoV (cRunV (As := [.int i1]) (rest := []) C9 hml hN hNs V I hS hy12.1 hf19 rfl (c_X8_goOnWith l D ks τ L A N hN ψ f9 y12 i1 hy12 ) gC_X5_44 okC_X8_goOnWith ⟨rfl, rfl, Nat.le_of_ble_eq_true rfl, Nat.le_of_ble_eq_true rfl⟩ hl.1 rfl (Nat.le_of_ble_eq_true rfl) dX5_isAccepted_25 ⟨Nat.zero_le _, Nat.zero_le _⟩) hS (fun p21 f20 H locs hqf20 V I hS => ?_)
      have I : cI ks τ L ψ f20 := by rw [show p21 = ψ from hqf20] at I; exact I
      refine lv_iconst (v := 1) hx hb dX5_isAccepted_28 (by decide) ?_
      exact cRetZ C9 hr hlk hN hNs V I hS (by clear V hS hl C9 hts hown hx hb hml hr hlk; first | rfl | decide | (subst_vars; rfl)) (rfl) dX5_isAccepted_29
set_option maxHeartbeats 200000 in
set_option maxRecDepth 100000 in
theorem c_X5_takenOut (l : Launch) (D : va_G) (ks : kS) (τ : Nat → Nat) (L : List Nat) (A : Nat → Prop) (N : State → Prop) (hN : cNk A N) (ψ : Int32) (f : Nat → va_E) (o0 : Nat) (t_o0 : ty τ L o0 4) : Met l yX5_takenOut (Cond.code yX5_takenOut cX5_takenOut 3 (some .int) :: tC) ({ frames := 2, cells := 0, slots := 0, locals := 43 }) (va_Pc [.ref o0] (cB D ks τ L A N (ψ, f))) (va_Qi (fun r9 x9 => x9.1 = ψ) (cB D ks τ L A N) A) 0 0 A := by
  refine cMet (own := RX5) (by decide) rfl (Nat.le_of_ble_eq_true rfl) ?_
  intro p e s m below meth c ls C9 hml hr hlk V I hNs hl
  have hx := C9.1
  have hb := C9.2.1
  have hown := C9.2.2.1
  have hts := C9.2.2.2.1
  have hS : va_S A s.heap s.heap [] := va_S.rf
  have hl : lv_has ls 3 [(0, .ref o0)] := hl
  refine lv_aload_n hx hb dX5_takenOut_0 rfl (lv_at hl 0 rfl) ?_
  obtain ⟨v1_0, v1_1, v1_2, v1_3, v1_4, v1_5, c1, hf1, t1_2, t1_3, hc1, h01, h11⟩ := op4 I t_o0
  refine cG C9 V t_o0.1 hf1 rfl tC_lay4 4 (by decide) tCf_X5_67 (Or.inl rfl) rfl dX5_takenOut_1 ?_
  refine lv_aload_n hx hb dX5_takenOut_4 rfl (lv_at hl 0 rfl) ?_
  refine cG C9 V t_o0.1 hf1 rfl tC_lay4 3 (by decide) tCf_X5_9 (Or.inl rfl) rfl dX5_takenOut_5 ?_
  obtain ⟨g2, hf2⟩ := opN I t1_3 hc1
  refine cAl (t0 := 1) (v := (nI c1)) C9 V t1_3.1 hf2 rfl (by first | rfl | decide) dX5_takenOut_8 ?_
  refine lv_icmp_ge (tgt := 24) hx hb dX5_takenOut_9 (by decide) (fun c3 => ?_) (fun c3 => ?_)
  · refine lv_iconst (v := 0) hx hb dX5_takenOut_24 (by decide) ?_
    refine lv_topi (fun x4 ex4 => ?_)
    refine lv_istore_n (lv' := [(1, .int x4), (0, .ref o0)]) hx hb dX5_takenOut_25 rfl hl (by decide) rfl (fun ls hl => ?_)
    refine lv_aload_n hx hb dX5_takenOut_26 rfl (lv_at hl 1 rfl) ?_
    refine lv_aload_n hx hb dX5_takenOut_27 rfl (lv_at hl 1 rfl) ?_
    refine cG C9 V t_o0.1 hf1 rfl tC_lay4 4 (by decide) tCf_X5_67 (Or.inl rfl) rfl dX5_takenOut_28 ?_
    refine lv_iconst (v := 1) hx hb dX5_takenOut_31 (by decide) ?_
    refine lv_iadd hx hb dX5_takenOut_32 ?_
    refine lv_aload_n hx hb dX5_takenOut_33 rfl (lv_at hl 1 rfl) ?_
    refine cG C9 V t_o0.1 hf1 rfl tC_lay4 3 (by decide) tCf_X5_9 (Or.inl rfl) rfl dX5_takenOut_34 ?_
    refine cAl (t0 := 1) (v := (nI c1)) C9 V t1_3.1 hf2 rfl (by first | rfl | decide) dX5_takenOut_37 ?_
    refine lv_icmp_ge (tgt := 50) hx hb dX5_takenOut_38 (by decide) (fun c5 => ?_) (fun c5 => ?_)
    · refine lv_iconst (v := 0) hx hb dX5_takenOut_50 (by decide) ?_
      refine cP (v := .int 0) (ty := .int) C9 V hS t_o0.1 hf1 rfl tC_lay4 tyX5 tyX5_ok nmX5 4 (by decide) tCf_X5_67 rfl rfl (by decide +kernel) rfl rfl (Nat.le_of_ble_eq_true rfl) dX5_takenOut_51 (fun f6 H locs ef6 V hS => ?_)
      have hf7 : f6 o0 = .inr (4, [.int v1_0, .int v1_1, .ref v1_2, .ref v1_3, .int 0, .int v1_5]) := up_s ef6
      have hh8 := (show _ ∧ _ from by first | exact cq_h nope9 h01 h11 hc1 c5 | exact cq_0 hc1)
      have h08 := hh8.1
      have h18 := hh8.2
      have hc8 := hc1
      have I := cI_up I t_o0.2 ef6 (mk4 t1_2 t1_3 hc8 h08 h18)
      have hf9 := up_n ef6 t_o0.2 t1_3.2 (by first | decide | omega) hf2
      refine lv_aload_n hx hb dX5_takenOut_54 rfl (lv_at hl 1 rfl) ?_
      refine lv_dup hx hb dX5_takenOut_55 rfl ?_
      refine cG C9 V t_o0.1 hf7 rfl tC_lay4 5 (by decide) tCf_X5_48 (Or.inl rfl) rfl dX5_takenOut_56 ?_
      refine lv_iconst (v := 1) hx hb dX5_takenOut_59 (by decide) ?_
      refine lv_isub hx hb dX5_takenOut_60 ?_
      refine lv_topi (fun x10 ex10 => ?_)
      refine cP (v := .int x10) (ty := .int) C9 V hS t_o0.1 hf7 rfl tC_lay4 tyX5 tyX5_ok nmX5 5 (by decide) tCf_X5_48 rfl rfl (by decide +kernel) rfl rfl (Nat.le_of_ble_eq_true rfl) dX5_takenOut_61 (fun f11 H locs ef11 V hS => ?_)
      have hf12 : f11 o0 = .inr (4, [.int v1_0, .int v1_1, .ref v1_2, .ref v1_3, .int 0, .int x10]) := up_s ef11
      have I := cI_up I t_o0.2 ef11 (mk4 t1_2 t1_3 hc8 h08 h18)
      have hf13 := up_n ef11 t_o0.2 t1_3.2 (by first | decide | omega) hf9
      refine lv_aload_n hx hb dX5_takenOut_64 rfl (lv_at hl 1 rfl) ?_
      refine cG C9 V t_o0.1 hf12 rfl tC_lay4 2 (by decide) tCf_X5_54 (Or.inr tCs_X5_row) rfl dX5_takenOut_65 ?_
      obtain ⟨v14_0, v14_1, hf14, hn14, t14_1⟩ := op5 I t1_2
      refine cGoQ (cRunV (As := []) (rest := []) C9 hml hN hNs V I hS t1_2.1 hf14 rfl (c_X6_first l D ks τ L A N hN ψ f11 v1_2 t1_2 ) gC_X5_58 okC_X6_first ⟨rfl, rfl, Nat.le_of_ble_eq_true rfl, Nat.le_of_ble_eq_true rfl⟩ hl.1 rfl (Nat.le_of_ble_eq_true rfl) dX5_takenOut_68 ⟨Nat.zero_le _, Nat.zero_le _⟩) hS (fun r17 p16 f15 H locs hqf15 V I hS => ?_)
      have I : cI ks τ L ψ f15 := by rw [show p16 = ψ from hqf15.1] at I; exact I
      rcases r17 with _ | y18
      · refine W.eq (g2 := F0 m 71 ls [.null]) rfl ?_
        refine lv_astore_nN (lv' := [(2, .null), (1, .int x4), (0, .ref o0)]) hx hb dX5_takenOut_71 rfl hl (by decide) rfl (fun ls hl => ?_)
        refine lv_aload_nN hx hb dX5_takenOut_72 rfl (lv_at hl 0 rfl) ?_
        refine lv_ifnullN (tgt := 88) hx hb dX5_takenOut_73 (by decide) ?_
        refine lv_iload_n hx hb dX5_takenOut_88 rfl (lv_at hl 1 rfl) ?_
        exact cRetI C9 hr hlk hN hNs V I hS (rfl) dX5_takenOut_89
      · have hy18 := hqf15.2 y18 rfl
        refine W.eq (g2 := F0 m 71 ls [.ref y18]) rfl ?_
        refine lv_astore_n (lv' := [(2, .ref y18), (1, .int x4), (0, .ref o0)]) hx hb dX5_takenOut_71 rfl hl (by decide) rfl (fun ls hl => ?_)
        refine lv_aload_n hx hb dX5_takenOut_72 rfl (lv_at hl 0 rfl) ?_
        refine lv_ifnull hx hb dX5_takenOut_73 ?_
        refine lv_aload_n hx hb dX5_takenOut_76 rfl (lv_at hl 2 rfl) ?_
        refine lv_aload_n hx hb dX5_takenOut_77 rfl (lv_at hl 0 rfl) ?_
        obtain ⟨v19_0, v19_1, v19_2, v19_3, v19_4, v19_5, v19_6, v19_7, v19_8, v19_9, v19_10, v19_11, v19_12, hf19, t19_7, t19_8, t19_11⟩ := op7 I hy18
        refine cG C9 V hy18.1 hf19 rfl tC_lay7 2 (by decide) tCf_X5_26 (Or.inl rfl) rfl dX5_takenOut_78 ?_
        obtain ⟨v20_0, v20_1, v20_2, v20_3, v20_4, v20_5, c20, hf20, t20_2, t20_3, hc20, h020, h120⟩ := op4 I t_o0
        refine cGoV (cRunV (As := [.int v19_2]) (rest := []) C9 hml hN hNs V I hS t_o0.1 hf20 rfl (c_X5_append l D ks τ L A N hN ψ f15 o0 v19_2 t_o0 ) gC_X5_64 okC_X5_append ⟨rfl, rfl, Nat.le_of_ble_eq_true rfl, Nat.le_of_ble_eq_true rfl⟩ hl.1 rfl (Nat.le_of_ble_eq_true rfl) dX5_takenOut_81 ⟨Nat.zero_le _, Nat.zero_le _⟩) hS (fun p22 f21 H locs hqf21 V I hS => ?_)
        have I : cI ks τ L ψ f21 := by rw [show p22 = ψ from hqf21] at I; exact I
        refine lv_aload_n hx hb dX5_takenOut_84 rfl (lv_at hl 0 rfl) ?_
        obtain ⟨v24_0, v24_1, v24_2, v24_3, v24_4, v24_5, v24_6, v24_7, v24_8, v24_9, v24_10, v24_11, v24_12, hf24, t24_7, t24_8, t24_11⟩ := op7 I hy18
        refine cGoV (cRunV (As := []) (rest := []) C9 hml hN hNs V I hS hy18.1 hf24 rfl (c_X8_goOn l D ks τ L A N hN ψ f21 y18 hy18 ) gC_X5_36 okC_X8_goOn ⟨rfl, rfl, Nat.le_of_ble_eq_true rfl, Nat.le_of_ble_eq_true rfl⟩ hl.1 rfl (Nat.le_of_ble_eq_true rfl) dX5_takenOut_85 ⟨Nat.zero_le _, Nat.zero_le _⟩) hS (fun p26 f25 H locs hqf25 V I hS => ?_)
        have I : cI ks τ L ψ f25 := by rw [show p26 = ψ from hqf25] at I; exact I
        refine lv_iload_n hx hb dX5_takenOut_88 rfl (lv_at hl 1 rfl) ?_
        exact cRetI C9 hr hlk hN hNs V I hS (rfl) dX5_takenOut_89
    · refine lv_aload_n hx hb dX5_takenOut_41 rfl (lv_at hl 1 rfl) ?_
      refine cG C9 V t_o0.1 hf1 rfl tC_lay4 4 (by decide) tCf_X5_67 (Or.inl rfl) rfl dX5_takenOut_42 ?_
      refine lv_iconst (v := 1) hx hb dX5_takenOut_45 (by decide) ?_
      refine lv_iadd hx hb dX5_takenOut_46 ?_
      refine lv_goto (tgt := 51) hx hb dX5_takenOut_47 (by decide) ?_
      refine lv_topi (fun x28 ex28 => ?_)
      refine cP (v := .int x28) (ty := .int) C9 V hS t_o0.1 hf1 rfl tC_lay4 tyX5 tyX5_ok nmX5 4 (by decide) tCf_X5_67 rfl rfl (by decide +kernel) rfl rfl (Nat.le_of_ble_eq_true rfl) dX5_takenOut_51 (fun f29 H locs ef29 V hS => ?_)
      have hf30 : f29 o0 = .inr (4, [.int v1_0, .int v1_1, .ref v1_2, .ref v1_3, .int x28, .int v1_5]) := up_s ef29
      have hh31 := (show _ ∧ _ from by first | exact cq_h ex28 h01 h11 hc1 c5 | exact cq_0 hc1)
      have h031 := hh31.1
      have h131 := hh31.2
      have hc31 := hc1
      have I := cI_up I t_o0.2 ef29 (mk4 t1_2 t1_3 hc31 h031 h131)
      have hf32 := up_n ef29 t_o0.2 t1_3.2 (by first | decide | omega) hf2
      refine lv_aload_n hx hb dX5_takenOut_54 rfl (lv_at hl 1 rfl) ?_
      refine lv_dup hx hb dX5_takenOut_55 rfl ?_
      refine cG C9 V t_o0.1 hf30 rfl tC_lay4 5 (by decide) tCf_X5_48 (Or.inl rfl) rfl dX5_takenOut_56 ?_
      refine lv_iconst (v := 1) hx hb dX5_takenOut_59 (by decide) ?_
      refine lv_isub hx hb dX5_takenOut_60 ?_
      refine lv_topi (fun x33 ex33 => ?_)
      refine cP (v := .int x33) (ty := .int) C9 V hS t_o0.1 hf30 rfl tC_lay4 tyX5 tyX5_ok nmX5 5 (by decide) tCf_X5_48 rfl rfl (by decide +kernel) rfl rfl (Nat.le_of_ble_eq_true rfl) dX5_takenOut_61 (fun f34 H locs ef34 V hS => ?_)
      have hf35 : f34 o0 = .inr (4, [.int v1_0, .int v1_1, .ref v1_2, .ref v1_3, .int x28, .int x33]) := up_s ef34
      have I := cI_up I t_o0.2 ef34 (mk4 t1_2 t1_3 hc31 h031 h131)
      have hf36 := up_n ef34 t_o0.2 t1_3.2 (by first | decide | omega) hf32
      refine lv_aload_n hx hb dX5_takenOut_64 rfl (lv_at hl 1 rfl) ?_
      refine cG C9 V t_o0.1 hf35 rfl tC_lay4 2 (by decide) tCf_X5_54 (Or.inr tCs_X5_row) rfl dX5_takenOut_65 ?_
      obtain ⟨v37_0, v37_1, hf37, hn37, t37_1⟩ := op5 I t1_2
      refine cGoQ (cRunV (As := []) (rest := []) C9 hml hN hNs V I hS t1_2.1 hf37 rfl (c_X6_first l D ks τ L A N hN ψ f34 v1_2 t1_2 ) gC_X5_58 okC_X6_first ⟨rfl, rfl, Nat.le_of_ble_eq_true rfl, Nat.le_of_ble_eq_true rfl⟩ hl.1 rfl (Nat.le_of_ble_eq_true rfl) dX5_takenOut_68 ⟨Nat.zero_le _, Nat.zero_le _⟩) hS (fun r40 p39 f38 H locs hqf38 V I hS => ?_)
      have I : cI ks τ L ψ f38 := by rw [show p39 = ψ from hqf38.1] at I; exact I
      rcases r40 with _ | y41
      · refine W.eq (g2 := F0 m 71 ls [.null]) rfl ?_
        refine lv_astore_nN (lv' := [(2, .null), (1, .int x4), (0, .ref o0)]) hx hb dX5_takenOut_71 rfl hl (by decide) rfl (fun ls hl => ?_)
        refine lv_aload_nN hx hb dX5_takenOut_72 rfl (lv_at hl 0 rfl) ?_
        refine lv_ifnullN (tgt := 88) hx hb dX5_takenOut_73 (by decide) ?_
        refine lv_iload_n hx hb dX5_takenOut_88 rfl (lv_at hl 1 rfl) ?_
        exact cRetI C9 hr hlk hN hNs V I hS (rfl) dX5_takenOut_89
      · have hy41 := hqf38.2 y41 rfl
        refine W.eq (g2 := F0 m 71 ls [.ref y41]) rfl ?_
        refine lv_astore_n (lv' := [(2, .ref y41), (1, .int x4), (0, .ref o0)]) hx hb dX5_takenOut_71 rfl hl (by decide) rfl (fun ls hl => ?_)
        refine lv_aload_n hx hb dX5_takenOut_72 rfl (lv_at hl 0 rfl) ?_
        refine lv_ifnull hx hb dX5_takenOut_73 ?_
        refine lv_aload_n hx hb dX5_takenOut_76 rfl (lv_at hl 2 rfl) ?_
        refine lv_aload_n hx hb dX5_takenOut_77 rfl (lv_at hl 0 rfl) ?_
        obtain ⟨v42_0, v42_1, v42_2, v42_3, v42_4, v42_5, v42_6, v42_7, v42_8, v42_9, v42_10, v42_11, v42_12, hf42, t42_7, t42_8, t42_11⟩ := op7 I hy41
        refine cG C9 V hy41.1 hf42 rfl tC_lay7 2 (by decide) tCf_X5_26 (Or.inl rfl) rfl dX5_takenOut_78 ?_
        obtain ⟨v43_0, v43_1, v43_2, v43_3, v43_4, v43_5, c43, hf43, t43_2, t43_3, hc43, h043, h143⟩ := op4 I t_o0
        refine cGoV (cRunV (As := [.int v42_2]) (rest := []) C9 hml hN hNs V I hS t_o0.1 hf43 rfl (c_X5_append l D ks τ L A N hN ψ f38 o0 v42_2 t_o0 ) gC_X5_64 okC_X5_append ⟨rfl, rfl, Nat.le_of_ble_eq_true rfl, Nat.le_of_ble_eq_true rfl⟩ hl.1 rfl (Nat.le_of_ble_eq_true rfl) dX5_takenOut_81 ⟨Nat.zero_le _, Nat.zero_le _⟩) hS (fun p45 f44 H locs hqf44 V I hS => ?_)
        have I : cI ks τ L ψ f44 := by rw [show p45 = ψ from hqf44] at I; exact I
        refine lv_aload_n hx hb dX5_takenOut_84 rfl (lv_at hl 0 rfl) ?_
        obtain ⟨v47_0, v47_1, v47_2, v47_3, v47_4, v47_5, v47_6, v47_7, v47_8, v47_9, v47_10, v47_11, v47_12, hf47, t47_7, t47_8, t47_11⟩ := op7 I hy41
        refine cGoV (cRunV (As := []) (rest := []) C9 hml hN hNs V I hS hy41.1 hf47 rfl (c_X8_goOn l D ks τ L A N hN ψ f44 y41 hy41 ) gC_X5_36 okC_X8_goOn ⟨rfl, rfl, Nat.le_of_ble_eq_true rfl, Nat.le_of_ble_eq_true rfl⟩ hl.1 rfl (Nat.le_of_ble_eq_true rfl) dX5_takenOut_85 ⟨Nat.zero_le _, Nat.zero_le _⟩) hS (fun p49 f48 H locs hqf48 V I hS => ?_)
        have I : cI ks τ L ψ f48 := by rw [show p49 = ψ from hqf48] at I; exact I
        refine lv_iload_n hx hb dX5_takenOut_88 rfl (lv_at hl 1 rfl) ?_
        exact cRetI C9 hr hlk hN hNs V I hS (rfl) dX5_takenOut_89
  · refine lv_aload_n hx hb dX5_takenOut_12 rfl (lv_at hl 0 rfl) ?_
    refine cG C9 V t_o0.1 hf1 rfl tC_lay4 3 (by decide) tCf_X5_9 (Or.inl rfl) rfl dX5_takenOut_13 ?_
    refine lv_aload_n hx hb dX5_takenOut_16 rfl (lv_at hl 0 rfl) ?_
    refine cG C9 V t_o0.1 hf1 rfl tC_lay4 4 (by decide) tCf_X5_67 (Or.inl rfl) rfl dX5_takenOut_17 ?_
    refine cLi C9 V t1_3.1 hf2 (cq_in hc1 h01 h11) dX5_takenOut_20 ?_
    refine lv_topi (fun x51 ex51 => ?_)
    refine lv_goto (tgt := 25) hx hb dX5_takenOut_21 (by decide) ?_
    refine lv_istore_n (lv' := [(1, .int x51), (0, .ref o0)]) hx hb dX5_takenOut_25 rfl hl (by decide) rfl (fun ls hl => ?_)
    refine lv_aload_n hx hb dX5_takenOut_26 rfl (lv_at hl 1 rfl) ?_
    refine lv_aload_n hx hb dX5_takenOut_27 rfl (lv_at hl 1 rfl) ?_
    refine cG C9 V t_o0.1 hf1 rfl tC_lay4 4 (by decide) tCf_X5_67 (Or.inl rfl) rfl dX5_takenOut_28 ?_
    refine lv_iconst (v := 1) hx hb dX5_takenOut_31 (by decide) ?_
    refine lv_iadd hx hb dX5_takenOut_32 ?_
    refine lv_aload_n hx hb dX5_takenOut_33 rfl (lv_at hl 1 rfl) ?_
    refine cG C9 V t_o0.1 hf1 rfl tC_lay4 3 (by decide) tCf_X5_9 (Or.inl rfl) rfl dX5_takenOut_34 ?_
    refine cAl (t0 := 1) (v := (nI c1)) C9 V t1_3.1 hf2 rfl (by first | rfl | decide) dX5_takenOut_37 ?_
    refine lv_icmp_ge (tgt := 50) hx hb dX5_takenOut_38 (by decide) (fun c52 => ?_) (fun c52 => ?_)
    · refine lv_iconst (v := 0) hx hb dX5_takenOut_50 (by decide) ?_
      refine cP (v := .int 0) (ty := .int) C9 V hS t_o0.1 hf1 rfl tC_lay4 tyX5 tyX5_ok nmX5 4 (by decide) tCf_X5_67 rfl rfl (by decide +kernel) rfl rfl (Nat.le_of_ble_eq_true rfl) dX5_takenOut_51 (fun f53 H locs ef53 V hS => ?_)
      have hf54 : f53 o0 = .inr (4, [.int v1_0, .int v1_1, .ref v1_2, .ref v1_3, .int 0, .int v1_5]) := up_s ef53
      have hh55 := (show _ ∧ _ from by first | exact cq_h nope9 h01 h11 hc1 c52 | exact cq_0 hc1)
      have h055 := hh55.1
      have h155 := hh55.2
      have hc55 := hc1
      have I := cI_up I t_o0.2 ef53 (mk4 t1_2 t1_3 hc55 h055 h155)
      have hf56 := up_n ef53 t_o0.2 t1_3.2 (by first | decide | omega) hf2
      refine lv_aload_n hx hb dX5_takenOut_54 rfl (lv_at hl 1 rfl) ?_
      refine lv_dup hx hb dX5_takenOut_55 rfl ?_
      refine cG C9 V t_o0.1 hf54 rfl tC_lay4 5 (by decide) tCf_X5_48 (Or.inl rfl) rfl dX5_takenOut_56 ?_
      refine lv_iconst (v := 1) hx hb dX5_takenOut_59 (by decide) ?_
      refine lv_isub hx hb dX5_takenOut_60 ?_
      refine lv_topi (fun x57 ex57 => ?_)
      refine cP (v := .int x57) (ty := .int) C9 V hS t_o0.1 hf54 rfl tC_lay4 tyX5 tyX5_ok nmX5 5 (by decide) tCf_X5_48 rfl rfl (by decide +kernel) rfl rfl (Nat.le_of_ble_eq_true rfl) dX5_takenOut_61 (fun f58 H locs ef58 V hS => ?_)
      have hf59 : f58 o0 = .inr (4, [.int v1_0, .int v1_1, .ref v1_2, .ref v1_3, .int 0, .int x57]) := up_s ef58
      have I := cI_up I t_o0.2 ef58 (mk4 t1_2 t1_3 hc55 h055 h155)
      have hf60 := up_n ef58 t_o0.2 t1_3.2 (by first | decide | omega) hf56
      refine lv_aload_n hx hb dX5_takenOut_64 rfl (lv_at hl 1 rfl) ?_
      refine cG C9 V t_o0.1 hf59 rfl tC_lay4 2 (by decide) tCf_X5_54 (Or.inr tCs_X5_row) rfl dX5_takenOut_65 ?_
      obtain ⟨v61_0, v61_1, hf61, hn61, t61_1⟩ := op5 I t1_2
      refine cGoQ (cRunV (As := []) (rest := []) C9 hml hN hNs V I hS t1_2.1 hf61 rfl (c_X6_first l D ks τ L A N hN ψ f58 v1_2 t1_2 ) gC_X5_58 okC_X6_first ⟨rfl, rfl, Nat.le_of_ble_eq_true rfl, Nat.le_of_ble_eq_true rfl⟩ hl.1 rfl (Nat.le_of_ble_eq_true rfl) dX5_takenOut_68 ⟨Nat.zero_le _, Nat.zero_le _⟩) hS (fun r64 p63 f62 H locs hqf62 V I hS => ?_)
      have I : cI ks τ L ψ f62 := by rw [show p63 = ψ from hqf62.1] at I; exact I
      rcases r64 with _ | y65
      · refine W.eq (g2 := F0 m 71 ls [.null]) rfl ?_
        refine lv_astore_nN (lv' := [(2, .null), (1, .int x51), (0, .ref o0)]) hx hb dX5_takenOut_71 rfl hl (by decide) rfl (fun ls hl => ?_)
        refine lv_aload_nN hx hb dX5_takenOut_72 rfl (lv_at hl 0 rfl) ?_
        refine lv_ifnullN (tgt := 88) hx hb dX5_takenOut_73 (by decide) ?_
        refine lv_iload_n hx hb dX5_takenOut_88 rfl (lv_at hl 1 rfl) ?_
        exact cRetI C9 hr hlk hN hNs V I hS (rfl) dX5_takenOut_89
      · have hy65 := hqf62.2 y65 rfl
        refine W.eq (g2 := F0 m 71 ls [.ref y65]) rfl ?_
        refine lv_astore_n (lv' := [(2, .ref y65), (1, .int x51), (0, .ref o0)]) hx hb dX5_takenOut_71 rfl hl (by decide) rfl (fun ls hl => ?_)
        refine lv_aload_n hx hb dX5_takenOut_72 rfl (lv_at hl 0 rfl) ?_
        refine lv_ifnull hx hb dX5_takenOut_73 ?_
        refine lv_aload_n hx hb dX5_takenOut_76 rfl (lv_at hl 2 rfl) ?_
        refine lv_aload_n hx hb dX5_takenOut_77 rfl (lv_at hl 0 rfl) ?_
        obtain ⟨v66_0, v66_1, v66_2, v66_3, v66_4, v66_5, v66_6, v66_7, v66_8, v66_9, v66_10, v66_11, v66_12, hf66, t66_7, t66_8, t66_11⟩ := op7 I hy65
        refine cG C9 V hy65.1 hf66 rfl tC_lay7 2 (by decide) tCf_X5_26 (Or.inl rfl) rfl dX5_takenOut_78 ?_
        obtain ⟨v67_0, v67_1, v67_2, v67_3, v67_4, v67_5, c67, hf67, t67_2, t67_3, hc67, h067, h167⟩ := op4 I t_o0
        refine cGoV (cRunV (As := [.int v66_2]) (rest := []) C9 hml hN hNs V I hS t_o0.1 hf67 rfl (c_X5_append l D ks τ L A N hN ψ f62 o0 v66_2 t_o0 ) gC_X5_64 okC_X5_append ⟨rfl, rfl, Nat.le_of_ble_eq_true rfl, Nat.le_of_ble_eq_true rfl⟩ hl.1 rfl (Nat.le_of_ble_eq_true rfl) dX5_takenOut_81 ⟨Nat.zero_le _, Nat.zero_le _⟩) hS (fun p69 f68 H locs hqf68 V I hS => ?_)
        have I : cI ks τ L ψ f68 := by rw [show p69 = ψ from hqf68] at I; exact I
        refine lv_aload_n hx hb dX5_takenOut_84 rfl (lv_at hl 0 rfl) ?_
        obtain ⟨v71_0, v71_1, v71_2, v71_3, v71_4, v71_5, v71_6, v71_7, v71_8, v71_9, v71_10, v71_11, v71_12, hf71, t71_7, t71_8, t71_11⟩ := op7 I hy65
        refine cGoV (cRunV (As := []) (rest := []) C9 hml hN hNs V I hS hy65.1 hf71 rfl (c_X8_goOn l D ks τ L A N hN ψ f68 y65 hy65 ) gC_X5_36 okC_X8_goOn ⟨rfl, rfl, Nat.le_of_ble_eq_true rfl, Nat.le_of_ble_eq_true rfl⟩ hl.1 rfl (Nat.le_of_ble_eq_true rfl) dX5_takenOut_85 ⟨Nat.zero_le _, Nat.zero_le _⟩) hS (fun p73 f72 H locs hqf72 V I hS => ?_)
        have I : cI ks τ L ψ f72 := by rw [show p73 = ψ from hqf72] at I; exact I
        refine lv_iload_n hx hb dX5_takenOut_88 rfl (lv_at hl 1 rfl) ?_
        exact cRetI C9 hr hlk hN hNs V I hS (rfl) dX5_takenOut_89
    · refine lv_aload_n hx hb dX5_takenOut_41 rfl (lv_at hl 1 rfl) ?_
      refine cG C9 V t_o0.1 hf1 rfl tC_lay4 4 (by decide) tCf_X5_67 (Or.inl rfl) rfl dX5_takenOut_42 ?_
      refine lv_iconst (v := 1) hx hb dX5_takenOut_45 (by decide) ?_
      refine lv_iadd hx hb dX5_takenOut_46 ?_
      refine lv_goto (tgt := 51) hx hb dX5_takenOut_47 (by decide) ?_
      refine lv_topi (fun x75 ex75 => ?_)
      refine cP (v := .int x75) (ty := .int) C9 V hS t_o0.1 hf1 rfl tC_lay4 tyX5 tyX5_ok nmX5 4 (by decide) tCf_X5_67 rfl rfl (by decide +kernel) rfl rfl (Nat.le_of_ble_eq_true rfl) dX5_takenOut_51 (fun f76 H locs ef76 V hS => ?_)
      have hf77 : f76 o0 = .inr (4, [.int v1_0, .int v1_1, .ref v1_2, .ref v1_3, .int x75, .int v1_5]) := up_s ef76
      have hh78 := (show _ ∧ _ from by first | exact cq_h ex75 h01 h11 hc1 c52 | exact cq_0 hc1)
      have h078 := hh78.1
      have h178 := hh78.2
      have hc78 := hc1
      have I := cI_up I t_o0.2 ef76 (mk4 t1_2 t1_3 hc78 h078 h178)
      have hf79 := up_n ef76 t_o0.2 t1_3.2 (by first | decide | omega) hf2
      refine lv_aload_n hx hb dX5_takenOut_54 rfl (lv_at hl 1 rfl) ?_
      refine lv_dup hx hb dX5_takenOut_55 rfl ?_
      refine cG C9 V t_o0.1 hf77 rfl tC_lay4 5 (by decide) tCf_X5_48 (Or.inl rfl) rfl dX5_takenOut_56 ?_
      refine lv_iconst (v := 1) hx hb dX5_takenOut_59 (by decide) ?_
      refine lv_isub hx hb dX5_takenOut_60 ?_
      refine lv_topi (fun x80 ex80 => ?_)
      refine cP (v := .int x80) (ty := .int) C9 V hS t_o0.1 hf77 rfl tC_lay4 tyX5 tyX5_ok nmX5 5 (by decide) tCf_X5_48 rfl rfl (by decide +kernel) rfl rfl (Nat.le_of_ble_eq_true rfl) dX5_takenOut_61 (fun f81 H locs ef81 V hS => ?_)
      have hf82 : f81 o0 = .inr (4, [.int v1_0, .int v1_1, .ref v1_2, .ref v1_3, .int x75, .int x80]) := up_s ef81
      have I := cI_up I t_o0.2 ef81 (mk4 t1_2 t1_3 hc78 h078 h178)
      have hf83 := up_n ef81 t_o0.2 t1_3.2 (by first | decide | omega) hf79
      refine lv_aload_n hx hb dX5_takenOut_64 rfl (lv_at hl 1 rfl) ?_
      refine cG C9 V t_o0.1 hf82 rfl tC_lay4 2 (by decide) tCf_X5_54 (Or.inr tCs_X5_row) rfl dX5_takenOut_65 ?_
      obtain ⟨v84_0, v84_1, hf84, hn84, t84_1⟩ := op5 I t1_2
      refine cGoQ (cRunV (As := []) (rest := []) C9 hml hN hNs V I hS t1_2.1 hf84 rfl (c_X6_first l D ks τ L A N hN ψ f81 v1_2 t1_2 ) gC_X5_58 okC_X6_first ⟨rfl, rfl, Nat.le_of_ble_eq_true rfl, Nat.le_of_ble_eq_true rfl⟩ hl.1 rfl (Nat.le_of_ble_eq_true rfl) dX5_takenOut_68 ⟨Nat.zero_le _, Nat.zero_le _⟩) hS (fun r87 p86 f85 H locs hqf85 V I hS => ?_)
      have I : cI ks τ L ψ f85 := by rw [show p86 = ψ from hqf85.1] at I; exact I
      rcases r87 with _ | y88
      · refine W.eq (g2 := F0 m 71 ls [.null]) rfl ?_
        refine lv_astore_nN (lv' := [(2, .null), (1, .int x51), (0, .ref o0)]) hx hb dX5_takenOut_71 rfl hl (by decide) rfl (fun ls hl => ?_)
        refine lv_aload_nN hx hb dX5_takenOut_72 rfl (lv_at hl 0 rfl) ?_
        refine lv_ifnullN (tgt := 88) hx hb dX5_takenOut_73 (by decide) ?_
        refine lv_iload_n hx hb dX5_takenOut_88 rfl (lv_at hl 1 rfl) ?_
        exact cRetI C9 hr hlk hN hNs V I hS (rfl) dX5_takenOut_89
      · have hy88 := hqf85.2 y88 rfl
        refine W.eq (g2 := F0 m 71 ls [.ref y88]) rfl ?_
        refine lv_astore_n (lv' := [(2, .ref y88), (1, .int x51), (0, .ref o0)]) hx hb dX5_takenOut_71 rfl hl (by decide) rfl (fun ls hl => ?_)
        refine lv_aload_n hx hb dX5_takenOut_72 rfl (lv_at hl 0 rfl) ?_
        refine lv_ifnull hx hb dX5_takenOut_73 ?_
        refine lv_aload_n hx hb dX5_takenOut_76 rfl (lv_at hl 2 rfl) ?_
        refine lv_aload_n hx hb dX5_takenOut_77 rfl (lv_at hl 0 rfl) ?_
        obtain ⟨v89_0, v89_1, v89_2, v89_3, v89_4, v89_5, v89_6, v89_7, v89_8, v89_9, v89_10, v89_11, v89_12, hf89, t89_7, t89_8, t89_11⟩ := op7 I hy88
        refine cG C9 V hy88.1 hf89 rfl tC_lay7 2 (by decide) tCf_X5_26 (Or.inl rfl) rfl dX5_takenOut_78 ?_
        obtain ⟨v90_0, v90_1, v90_2, v90_3, v90_4, v90_5, c90, hf90, t90_2, t90_3, hc90, h090, h190⟩ := op4 I t_o0
        refine cGoV (cRunV (As := [.int v89_2]) (rest := []) C9 hml hN hNs V I hS t_o0.1 hf90 rfl (c_X5_append l D ks τ L A N hN ψ f85 o0 v89_2 t_o0 ) gC_X5_64 okC_X5_append ⟨rfl, rfl, Nat.le_of_ble_eq_true rfl, Nat.le_of_ble_eq_true rfl⟩ hl.1 rfl (Nat.le_of_ble_eq_true rfl) dX5_takenOut_81 ⟨Nat.zero_le _, Nat.zero_le _⟩) hS (fun p92 f91 H locs hqf91 V I hS => ?_)
        have I : cI ks τ L ψ f91 := by rw [show p92 = ψ from hqf91] at I; exact I
        refine lv_aload_n hx hb dX5_takenOut_84 rfl (lv_at hl 0 rfl) ?_
        obtain ⟨v94_0, v94_1, v94_2, v94_3, v94_4, v94_5, v94_6, v94_7, v94_8, v94_9, v94_10, v94_11, v94_12, hf94, t94_7, t94_8, t94_11⟩ := op7 I hy88
        refine cGoV (cRunV (As := []) (rest := []) C9 hml hN hNs V I hS hy88.1 hf94 rfl (c_X8_goOn l D ks τ L A N hN ψ f91 y88 hy88 ) gC_X5_36 okC_X8_goOn ⟨rfl, rfl, Nat.le_of_ble_eq_true rfl, Nat.le_of_ble_eq_true rfl⟩ hl.1 rfl (Nat.le_of_ble_eq_true rfl) dX5_takenOut_85 ⟨Nat.zero_le _, Nat.zero_le _⟩) hS (fun p96 f95 H locs hqf95 V I hS => ?_)
        have I : cI ks τ L ψ f95 := by rw [show p96 = ψ from hqf95] at I; exact I
        refine lv_iload_n hx hb dX5_takenOut_88 rfl (lv_at hl 1 rfl) ?_
        exact cRetI C9 hr hlk hN hNs V I hS (rfl) dX5_takenOut_89
set_option maxHeartbeats 200000 in
set_option maxRecDepth 100000 in
theorem c_X7_handOut (l : Launch) (D : va_G) (ks : kS) (τ : Nat → Nat) (L : List Nat) (A : Nat → Prop) (N : State → Prop) (hN : cNk A N) (ψ : Int32) (f : Nat → va_E) (o0 : Nat) (t_o0 : ty τ L o0 6) : Met l yX7_handOut (Cond.code yX7_handOut cX7_handOut 3 none :: tC) ({ frames := 2, cells := 0, slots := 0, locals := 43 }) (va_Pc [.ref o0] (cB D ks τ L A N (ψ, f))) (va_Qv (fun x9 => x9.1 = ψ) (cB D ks τ L A N) A) 0 0 A := by
  refine cMet (own := RX7) (by decide) rfl (Nat.le_of_ble_eq_true rfl) ?_
  intro p e s m below meth c ls C9 hml hr hlk V I hNs hl
  have hx := C9.1
  have hb := C9.2.1
  have hown := C9.2.2.1
  have hts := C9.2.2.2.1
  have hS : va_S A s.heap s.heap [] := va_S.rf
  have hl : lv_has ls 3 [(0, .ref o0)] := hl
  refine lv_iconst (v := 0) hx hb dX7_handOut_0 (by decide) ?_
  refine lv_topi (fun x1 ex1 => ?_)
  refine lv_istore_n (lv' := [(1, .int x1), (0, .ref o0)]) hx hb dX7_handOut_1 rfl hl (by decide) rfl (fun ls hl => ?_)
  have loop2 : ∀ (N9 : Nat) (w2_1 : Int32) (F2 : Nat → va_E) (H : Heap) (locs : List Loc) (ls : Array Slot), cI ks τ L ψ F2 → (0 ≤ w2_1 ∧ w2_1 ≤ 8) → ((8 - w2_1).toInt.toNat) < N9 → cV D L F2 A H → va_S A s.heap H locs → lv_has ls 3 [(0, .ref o0), (1, .int w2_1)] → W p l e ({ frames := 2, cells := 0, slots := 0, locals := 43 } : Room) s m ([.ref o0] : List Value).toArray below meth c H locs 0 0 (MQ below (va_Qv (fun x9 => x9.1 = ψ) (cB D ks τ L A N) A) ([.ref o0] : List Value).toArray s 0 0 A) (F0 m 2 ls []) := by
    intro N9
    induction N9 with
    | zero => intro w2_1 F2 H locs ls I hi2 hm2; exact absurd hm2 (Nat.not_lt_zero _)
    | succ N9 ih2 =>
      intro w2_1 F2 H locs ls I hi2 hm2 V hS hl
      refine lv_iload_n hx hb dX7_handOut_2 rfl (lv_at hl 1 rfl) ?_
      refine lv_bipush (v := 8) hx hb dX7_handOut_3 (by decide) ?_
      refine lv_icmp_ge (tgt := 57) hx hb dX7_handOut_5 (by decide) (fun c2 => ?_) (fun c2 => ?_)
      · exact cRetV C9 hr hlk hN hNs V I hS (rfl) dX7_handOut_57
      · refine lv_aload_n hx hb dX7_handOut_8 rfl (lv_at hl 0 rfl) ?_
        obtain ⟨v3_0, v3_1, v3_2, v3_3, hf3, t3_2⟩ := op6 I t_o0
        refine cG C9 V t_o0.1 hf3 rfl tC_lay6 2 (by decide) tCf_X7_27 (Or.inr tCs_X7_row) rfl dX7_handOut_9 ?_
        obtain ⟨v4_0, v4_1, hf4, hn4, t4_1⟩ := op5 I t3_2
        refine cGoQ (cRunV (As := []) (rest := []) C9 hml hN hNs V I hS t3_2.1 hf4 rfl (c_X6_first l D ks τ L A N hN ψ F2 v3_2 t3_2 ) gC_X7_57 okC_X6_first ⟨rfl, rfl, Nat.le_of_ble_eq_true rfl, Nat.le_of_ble_eq_true rfl⟩ hl.1 rfl (Nat.le_of_ble_eq_true rfl) dX7_handOut_12 ⟨Nat.zero_le _, Nat.zero_le _⟩) hS (fun r7 p6 f5 H locs hqf5 V I hS => ?_)
        have I : cI ks τ L ψ f5 := by rw [show p6 = ψ from hqf5.1] at I; exact I
        rcases r7 with _ | y8
        · refine W.eq (g2 := F0 m 15 ls [.null]) rfl ?_
          refine lv_astore_nN (lv' := [(2, .null), (0, .ref o0), (1, .int w2_1)]) hx hb dX7_handOut_15 rfl hl (by decide) rfl (fun ls hl => ?_)
          refine lv_aload_nN hx hb dX7_handOut_16 rfl (lv_at hl 0 rfl) ?_
          refine lv_ifnullN (tgt := 32) hx hb dX7_handOut_17 (by decide) ?_
          exact cRetV C9 hr hlk hN hNs V I hS (rfl) dX7_handOut_32
        · have hy8 := hqf5.2 y8 rfl
          refine W.eq (g2 := F0 m 15 ls [.ref y8]) rfl ?_
          refine lv_astore_n (lv' := [(2, .ref y8), (0, .ref o0), (1, .int w2_1)]) hx hb dX7_handOut_15 rfl hl (by decide) rfl (fun ls hl => ?_)
          refine lv_aload_n hx hb dX7_handOut_16 rfl (lv_at hl 0 rfl) ?_
          refine lv_ifnull hx hb dX7_handOut_17 ?_
          refine lv_aload_n hx hb dX7_handOut_20 rfl (lv_at hl 1 rfl) ?_
          obtain ⟨v9_0, v9_1, v9_2, v9_3, hf9, t9_2⟩ := op6 I t_o0
          refine cG C9 V t_o0.1 hf9 rfl tC_lay6 3 (by decide) tCf_X7_9 (Or.inl rfl) rfl dX7_handOut_21 ?_
          refine lv_aload_n hx hb dX7_handOut_24 rfl (lv_at hl 0 rfl) ?_
          refine lv_iconst (v := 1) hx hb dX7_handOut_25 (by decide) ?_
          obtain ⟨v10_0, v10_1, v10_2, v10_3, v10_4, v10_5, v10_6, v10_7, v10_8, v10_9, v10_10, v10_11, v10_12, hf10, t10_7, t10_8, t10_11⟩ := op7 I hy8
          refine cGoI (cRunV (As := [.int 1]) (rest := [.int v9_3]) C9 hml hN hNs V I hS hy8.1 hf10 rfl (c_X8_operand l D ks τ L A N hN ψ f5 y8 1 hy8 ) gC_X7_36 okC_X8_operand ⟨rfl, rfl, Nat.le_of_ble_eq_true rfl, Nat.le_of_ble_eq_true rfl⟩ hl.1 rfl (Nat.le_of_ble_eq_true rfl) dX7_handOut_26 ⟨Nat.zero_le _, Nat.zero_le _⟩) hS (fun r13 p12 f11 H locs hqf11 V I hS => ?_)
          have I : cI ks τ L ψ f11 := by rw [show p12 = ψ from hqf11] at I; exact I
          refine lv_icmp_ge (tgt := 33) hx hb dX7_handOut_29 (by decide) (fun c14 => ?_) (fun c14 => ?_)
          · refine lv_aload_n hx hb dX7_handOut_33 rfl (lv_at hl 1 rfl) ?_
            refine lv_dup hx hb dX7_handOut_34 rfl ?_
            obtain ⟨v15_0, v15_1, v15_2, v15_3, hf15, t15_2⟩ := op6 I t_o0
            refine cG C9 V t_o0.1 hf15 rfl tC_lay6 3 (by decide) tCf_X7_9 (Or.inl rfl) rfl dX7_handOut_35 ?_
            refine lv_aload_n hx hb dX7_handOut_38 rfl (lv_at hl 0 rfl) ?_
            refine lv_iconst (v := 1) hx hb dX7_handOut_39 (by decide) ?_
            obtain ⟨v16_0, v16_1, v16_2, v16_3, v16_4, v16_5, v16_6, v16_7, v16_8, v16_9, v16_10, v16_11, v16_12, hf16, t16_7, t16_8, t16_11⟩ := op7 I hy8
            refine cGoI (cRunV (As := [.int 1]) (rest := [.int v15_3, .ref o0]) C9 hml hN hNs V I hS hy8.1 hf16 rfl (c_X8_operand l D ks τ L A N hN ψ f11 y8 1 hy8 ) gC_X7_36 okC_X8_operand ⟨rfl, rfl, Nat.le_of_ble_eq_true rfl, Nat.le_of_ble_eq_true rfl⟩ hl.1 rfl (Nat.le_of_ble_eq_true rfl) dX7_handOut_40 ⟨Nat.zero_le _, Nat.zero_le _⟩) hS (fun r19 p18 f17 H locs hqf17 V I hS => ?_)
            have I : cI ks τ L ψ f17 := by rw [show p18 = ψ from hqf17] at I; exact I
            refine lv_isub hx hb dX7_handOut_43 ?_
            obtain ⟨v20_0, v20_1, v20_2, v20_3, hf20, t20_2⟩ := op6 I t_o0
            refine lv_topi (fun x21 ex21 => ?_)
            refine cP (v := .int x21) (ty := .int) C9 V hS t_o0.1 hf20 rfl tC_lay6 tyX7 tyX7_ok nmX7 3 (by decide) tCf_X7_9 rfl rfl (by decide +kernel) rfl rfl (Nat.le_of_ble_eq_true rfl) dX7_handOut_44 (fun f22 H locs ef22 V hS => ?_)
            have hf23 : f22 o0 = .inr (6, [.int v20_0, .int v20_1, .ref v20_2, .int x21]) := up_s ef22
            have I := cI_up I t_o0.2 ef22 (mk6 t20_2)
            refine lv_aload_n hx hb dX7_handOut_47 rfl (lv_at hl 0 rfl) ?_
            obtain ⟨v24_0, v24_1, v24_2, v24_3, v24_4, v24_5, v24_6, v24_7, v24_8, v24_9, v24_10, v24_11, v24_12, hf24, t24_7, t24_8, t24_11⟩ := op7 I hy8
            refine cGoV (cRunV (As := []) (rest := []) C9 hml hN hNs V I hS hy8.1 hf24 rfl (c_X8_goOn l D ks τ L A N hN ψ f22 y8 hy8 ) gC_X7_42 okC_X8_goOn ⟨rfl, rfl, Nat.le_of_ble_eq_true rfl, Nat.le_of_ble_eq_true rfl⟩ hl.1 rfl (Nat.le_of_ble_eq_true rfl) dX7_handOut_48 ⟨Nat.zero_le _, Nat.zero_le _⟩) hS (fun p26 f25 H locs hqf25 V I hS => ?_)
            have I : cI ks τ L ψ f25 := by rw [show p26 = ψ from hqf25] at I; exact I
            obtain ⟨x28, ex28⟩ : ∃ y : Int32, y = w2_1 + (1) := ⟨_, rfl⟩
            refine lv_iinc (v := x28) (lv' := [(1, .int x28), (2, .ref y8), (0, .ref o0)]) hx hb dX7_handOut_51 hl (k := 2) rfl (by rw [ex28]; rfl) (by decide) rfl (fun ls hl => ?_)
            refine lv_goto (tgt := 2) hx hb dX7_handOut_54 (by decide) ?_
            exact ih2 x28 f25 _ _ _ I (ca_up ex28 hi2.1 (ci_lt c2)) (cmsd hm2 (ca_dec ex28 hi2.1 (ci_lt c2)).1 (ca_dec ex28 hi2.1 (ci_lt c2)).2) V hS (lv_sub hl [2, 0] rfl)
          · exact cRetV C9 hr hlk hN hNs V I hS (rfl) dX7_handOut_32
  exact loop2 _ x1 f _ _ _ I (by clear V hS hl C9 hts hown hx hb hml hr hlk; subst_vars; decide) (Nat.lt_succ_self _) V hS (lv_sub hl [1, 0] rfl)
set_option maxHeartbeats 200000 in
set_option maxRecDepth 100000 in
theorem c_X2_value (l : Launch) (D : va_G) (ks : kS) (τ : Nat → Nat) (L : List Nat) (A : Nat → Prop) (N : State → Prop) (hN : cNk A N) (ψ : Int32) (f : Nat → va_E) (o0 : Nat) (t_o0 : ty τ L o0 1) : Met l yX2_value (Cond.code yX2_value cX2_value 1 (some .long) :: tC) ({ frames := 0, cells := 0, slots := 0, locals := 0 }) (va_Pc [.ref o0] (cB D ks τ L A N (ψ, f))) (va_Ql (fun r9 x9 => x9.1 = ψ) (cB D ks τ L A N) A) 0 0 A := by
  refine cMet (own := RX2) (by decide) rfl (Nat.le_of_ble_eq_true rfl) ?_
  intro p e s m below meth c ls C9 hml hr hlk V I hNs hl
  have hx := C9.1
  have hb := C9.2.1
  have hown := C9.2.2.1
  have hts := C9.2.2.2.1
  have hS : va_S A s.heap s.heap [] := va_S.rf
  have hl : lv_has ls 1 [(0, .ref o0)] := hl
  refine lv_aload_n hx hb dX2_value_0 rfl (lv_at hl 0 rfl) ?_
  obtain ⟨v1_0, v1_1, v1_2, v1_3, v1_4, hf1, t1_2⟩ := op1 I t_o0
  refine cG C9 V t_o0.1 hf1 rfl tC_lay1 3 (by decide) tCf_X2_9 (Or.inl rfl) rfl dX2_value_1 ?_
  refine lv_if_eq (tgt := 15) hx hb dX2_value_4 (by decide) (fun c2 => ?_) (fun c2 => ?_)
  · refine lv_ldc2 hx hb hown (hts _ tCc_X2_66) dX2_value_15 ?_
    exact cRetL C9 hr hlk hN hNs V I hS (rfl) dX2_value_18
  · refine lv_aload_n hx hb dX2_value_7 rfl (lv_at hl 0 rfl) ?_
    refine cG C9 V t_o0.1 hf1 rfl tC_lay1 4 (by decide) tCf_X2_15 (Or.inl rfl) rfl dX2_value_8 ?_
    refine lv_i2l hx hb dX2_value_11 rfl ?_
    refine lv_goto (tgt := 18) hx hb dX2_value_12 (by decide) ?_
    exact cRetL C9 hr hlk hN hNs V I hS (rfl) dX2_value_18
end
section
theorem lt_e {x y n : Int32} (e : x = n) (h : ¬ x ≤ y) : y < n := by rw [← e]; exact ci_lt h
theorem c_and7 (x : Int32) : 0 ≤ x &&& 7 ∧ x &&& 7 < 8 := by
  obtain ⟨j, hj, e⟩ := pk_andE x (m := 7) 3 (by decide)
  rw [e]
  exact ⟨nI_pos' (by omega), nI_lt (b := 8) hj (by decide)⟩

set_option maxHeartbeats 200000 in
set_option maxRecDepth 100000 in
theorem c_X2_isGiven (l : Launch) (D : va_G) (ks : kS) (τ : Nat → Nat) (L : List Nat) (A : Nat → Prop) (N : State → Prop) (hN : cNk A N) (ψ : Int32) (f : Nat → va_E) (o0 : Nat) (i1 : Int32) (t_o0 : ty τ L o0 1) : Met l yX2_isGiven (Cond.code yX2_isGiven cX2_isGiven 4 (some .boolean) :: tC) ({ frames := 3, cells := 0, slots := 0, locals := 64 }) (va_Pc [.ref o0, .int i1] (cB D ks τ L A N (ψ, f))) (va_Qi (fun r9 x9 => x9.1 = ψ) (cB D ks τ L A N) A) 0 0 A := by
  refine cMet (own := RX2) (by decide) rfl (Nat.le_of_ble_eq_true rfl) ?_
  intro p e s m below meth c ls C9 hml hr hlk V I hNs hl
  have hx := C9.1
  have hb := C9.2.1
  have hown := C9.2.2.1
  have hts := C9.2.2.2.1
  have hS : va_S A s.heap s.heap [] := va_S.rf
  have hl : lv_has ls 4 [(0, .ref o0), (1, .int i1)] := hl
  refine lv_aload_n hx hb dX2_isGiven_0 rfl (lv_at hl 0 rfl) ?_
  obtain ⟨v1_0, v1_1, v1_2, v1_3, v1_4, hf1, t1_2⟩ := op1 I t_o0
  refine cG C9 V t_o0.1 hf1 rfl tC_lay1 3 (by decide) tCf_X2_9 (Or.inl rfl) rfl dX2_isGiven_1 ?_
  refine lv_if_eq (tgt := 9) hx hb dX2_isGiven_4 (by decide) (fun c2 => ?_) (fun c2 => ?_)
  · refine lv_aload_n hx hb dX2_isGiven_9 rfl (lv_at hl 0 rfl) ?_
    refine lv_iconst (v := 1) hx hb dX2_isGiven_10 (by decide) ?_
    refine cP (v := .int 1) (ty := .boolean) C9 V hS t_o0.1 hf1 rfl tC_lay1 tyX2 tyX2_ok nmX2 3 (by decide) tCf_X2_9 rfl rfl (by decide +kernel) rfl rfl (Nat.le_of_ble_eq_true rfl) dX2_isGiven_11 (fun f3 H locs ef3 V hS => ?_)
    have hf4 : f3 o0 = .inr (1, [.int v1_0, .int v1_1, .ref v1_2, .int 1, .int v1_4]) := up_s ef3
    have I := cI_up I t_o0.2 ef3 (mk1 t1_2)
    refine lv_aload_n hx hb dX2_isGiven_14 rfl (lv_at hl 0 rfl) ?_
    refine lv_iload_n hx hb dX2_isGiven_15 rfl (lv_at hl 1 rfl) ?_
    refine cP (v := .int i1) (ty := .int) C9 V hS t_o0.1 hf4 rfl tC_lay1 tyX2 tyX2_ok nmX2 4 (by decide) tCf_X2_15 rfl rfl (by decide +kernel) rfl rfl (Nat.le_of_ble_eq_true rfl) dX2_isGiven_16 (fun f5 H locs ef5 V hS => ?_)
    have hf6 : f5 o0 = .inr (1, [.int v1_0, .int v1_1, .ref v1_2, .int 1, .int i1]) := up_s ef5
    have I := cI_up I t_o0.2 ef5 (mk1 t1_2)
    refine lv_iconst (v := 0) hx hb dX2_isGiven_19 (by decide) ?_
    refine lv_topi (fun x7 ex7 => ?_)
    refine lv_istore_n (lv' := [(2, .int x7), (0, .ref o0), (1, .int i1)]) hx hb dX2_isGiven_20 rfl hl (by decide) rfl (fun ls hl => ?_)
    have loop21 : ∀ (N9 : Nat) (w21_2 : Int32) (F21 : Nat → va_E) (H : Heap) (locs : List Loc) (ls : Array Slot), cI ks τ L ψ F21 → (0 ≤ w21_2 ∧ w21_2 ≤ 8) → ((8 - w21_2).toInt.toNat) < N9 → cV D L F21 A H → va_S A s.heap H locs → lv_has ls 4 [(0, .ref o0), (1, .int i1), (2, .int w21_2)] → W p l e ({ frames := 3, cells := 0, slots := 0, locals := 64 } : Room) s m ([.ref o0, .int i1] : List Value).toArray below meth c H locs 0 0 (MQ below (va_Qi (fun r9 x9 => x9.1 = ψ) (cB D ks τ L A N) A) ([.ref o0, .int i1] : List Value).toArray s 0 0 A) (F0 m 21 ls []) := by
      intro N9
      induction N9 with
      | zero => intro w21_2 F21 H locs ls I hi21 hm21; exact absurd hm21 (Nat.not_lt_zero _)
      | succ N9 ih21 =>
        intro w21_2 F21 H locs ls I hi21 hm21 V hS hl
        refine lv_iload_n hx hb dX2_isGiven_21 rfl (lv_at hl 2 rfl) ?_
        refine lv_bipush (v := 8) hx hb dX2_isGiven_22 (by decide) ?_
        refine lv_icmp_ge (tgt := 50) hx hb dX2_isGiven_24 (by decide) (fun c8 => ?_) (fun c8 => ?_)
        · refine lv_iconst (v := 1) hx hb dX2_isGiven_50 (by decide) ?_
          exact cRetZ C9 hr hlk hN hNs V I hS (by clear V hS hl C9 hts hown hx hb hml hr hlk; first | rfl | decide | (subst_vars; rfl)) (rfl) dX2_isGiven_51
        · refine lv_aload_n hx hb dX2_isGiven_27 rfl (lv_at hl 0 rfl) ?_
          obtain ⟨v9_0, v9_1, v9_2, v9_3, v9_4, hf9, t9_2⟩ := op1 I t_o0
          refine cG C9 V t_o0.1 hf9 rfl tC_lay1 2 (by decide) tCf_X2_56 (Or.inr tCs_X2_row) rfl dX2_isGiven_28 ?_
          obtain ⟨v10_0, v10_1, hf10, hn10, t10_1⟩ := op5 I t9_2
          refine cGoQ (cRunV (As := []) (rest := []) C9 hml hN hNs V I hS t9_2.1 hf10 rfl (c_X6_first l D ks τ L A N hN ψ F21 v9_2 t9_2 ) gC_X2_60 okC_X6_first ⟨rfl, rfl, Nat.le_of_ble_eq_true rfl, Nat.le_of_ble_eq_true rfl⟩ hl.1 rfl (Nat.le_of_ble_eq_true rfl) dX2_isGiven_31 ⟨Nat.zero_le _, Nat.zero_le _⟩) hS (fun r13 p12 f11 H locs hqf11 V I hS => ?_)
          have I : cI ks τ L ψ f11 := by rw [show p12 = ψ from hqf11.1] at I; exact I
          rcases r13 with _ | y14
          · refine W.eq (g2 := F0 m 34 ls [.null]) rfl ?_
            refine lv_astore_nN (lv' := [(3, .null), (0, .ref o0), (1, .int i1), (2, .int w21_2)]) hx hb dX2_isGiven_34 rfl hl (by decide) rfl (fun ls hl => ?_)
            refine lv_aload_nN hx hb dX2_isGiven_35 rfl (lv_at hl 0 rfl) ?_
            refine lv_ifnullN (tgt := 44) hx hb dX2_isGiven_36 (by decide) ?_
            obtain ⟨x15, ex15⟩ : ∃ y : Int32, y = w21_2 + (1) := ⟨_, rfl⟩
            refine lv_iinc (v := x15) (lv' := [(2, .int x15), (3, .null), (0, .ref o0), (1, .int i1)]) hx hb dX2_isGiven_44 hl (k := 3) rfl (by rw [ex15]; rfl) (by decide) rfl (fun ls hl => ?_)
            refine lv_goto (tgt := 21) hx hb dX2_isGiven_47 (by decide) ?_
            exact ih21 x15 f11 _ _ _ I (ca_up ex15 hi21.1 (ci_lt c8)) (cmsd hm21 (ca_dec ex15 hi21.1 (ci_lt c8)).1 (ca_dec ex15 hi21.1 (ci_lt c8)).2) V hS (lv_sub hl [2, 3, 0] rfl)
          · have hy14 := hqf11.2 y14 rfl
            refine W.eq (g2 := F0 m 34 ls [.ref y14]) rfl ?_
            refine lv_astore_n (lv' := [(3, .ref y14), (0, .ref o0), (1, .int i1), (2, .int w21_2)]) hx hb dX2_isGiven_34 rfl hl (by decide) rfl (fun ls hl => ?_)
            refine lv_aload_n hx hb dX2_isGiven_35 rfl (lv_at hl 0 rfl) ?_
            refine lv_ifnull hx hb dX2_isGiven_36 ?_
            refine lv_aload_n hx hb dX2_isGiven_39 rfl (lv_at hl 0 rfl) ?_
            refine lv_iload_n hx hb dX2_isGiven_40 rfl (lv_at hl 2 rfl) ?_
            obtain ⟨v16_0, v16_1, v16_2, v16_3, v16_4, v16_5, v16_6, v16_7, v16_8, v16_9, v16_10, v16_11, v16_12, hf16, t16_7, t16_8, t16_11⟩ := op7 I hy14
            refine cGoV (cRunV (As := [.int i1]) (rest := []) C9 hml hN hNs V I hS hy14.1 hf16 rfl (c_X8_goOnWith l D ks τ L A N hN ψ f11 y14 i1 hy14 ) gC_X2_31 okC_X8_goOnWith ⟨rfl, rfl, Nat.le_of_ble_eq_true rfl, Nat.le_of_ble_eq_true rfl⟩ hl.1 rfl (Nat.le_of_ble_eq_true rfl) dX2_isGiven_41 ⟨Nat.zero_le _, Nat.zero_le _⟩) hS (fun p18 f17 H locs hqf17 V I hS => ?_)
            have I : cI ks τ L ψ f17 := by rw [show p18 = ψ from hqf17] at I; exact I
            obtain ⟨x20, ex20⟩ : ∃ y : Int32, y = w21_2 + (1) := ⟨_, rfl⟩
            refine lv_iinc (v := x20) (lv' := [(2, .int x20), (3, .ref y14), (0, .ref o0), (1, .int i1)]) hx hb dX2_isGiven_44 hl (k := 3) rfl (by rw [ex20]; rfl) (by decide) rfl (fun ls hl => ?_)
            refine lv_goto (tgt := 21) hx hb dX2_isGiven_47 (by decide) ?_
            exact ih21 x20 f17 _ _ _ I (ca_up ex20 hi21.1 (ci_lt c8)) (cmsd hm21 (ca_dec ex20 hi21.1 (ci_lt c8)).1 (ca_dec ex20 hi21.1 (ci_lt c8)).2) V hS (lv_sub hl [2, 3, 0] rfl)
    exact loop21 _ x7 f5 _ _ _ I (by clear V hS hl C9 hts hown hx hb hml hr hlk; subst_vars; decide) (Nat.lt_succ_self _) V hS (lv_sub hl [1, 2, 0] rfl)
  · refine lv_iconst (v := 0) hx hb dX2_isGiven_7 (by decide) ?_
    exact cRetZ C9 hr hlk hN hNs V I hS (by clear V hS hl C9 hts hown hx hb hml hr hlk; first | rfl | decide | (subst_vars; rfl)) (rfl) dX2_isGiven_8
set_option maxHeartbeats 200000 in
set_option maxRecDepth 100000 in
theorem c_X12_syncAt (l : Launch) (D : va_G) (ks : kS) (τ : Nat → Nat) (L : List Nat) (A : Nat → Prop) (N : State → Prop) (hN : cNk A N) (ψ : Int32) (f : Nat → va_E) (o0 : Nat) (i1 : Int32) (t_o0 : ty τ L o0 9) : Met l yX12_syncAt (Cond.code yX12_syncAt cX12_syncAt 2 (some (.object "TurnKeeper$Sync")) :: tC) ({ frames := 0, cells := 0, slots := 0, locals := 0 }) (va_Pc [.ref o0, .int i1] (cB D ks τ L A N (ψ, f))) (va_Qq (fun r9 x9 => x9.1 = ψ ∧ tySO τ L r9) (cB D ks τ L A N) A) 0 0 A := by
  refine cMet (own := RX12) (by decide) rfl (Nat.le_of_ble_eq_true rfl) ?_
  intro p e s m below meth c ls C9 hml hr hlk V I hNs hl
  have hx := C9.1
  have hb := C9.2.1
  have hown := C9.2.2.1
  have hts := C9.2.2.2.1
  have hS : va_S A s.heap s.heap [] := va_S.rf
  have hl : lv_has ls 2 [(0, .ref o0), (1, .int i1)] := hl
  refine lv_iload_n hx hb dX12_syncAt_0 rfl (lv_at hl 1 rfl) ?_
  refine lv_if_lt (tgt := 22) hx hb dX12_syncAt_1 (by decide) (fun c1 => ?_) (fun c1 => ?_)
  · refine lv_null hx hb dX12_syncAt_22 ?_
    exact cRetR (v := none) C9 hr hlk hN hNs V I hS (⟨rfl, tySO_n⟩) dX12_syncAt_23
  · refine lv_iload_n hx hb dX12_syncAt_4 rfl (lv_at hl 1 rfl) ?_
    refine lv_aload_n hx hb dX12_syncAt_5 rfl (lv_at hl 0 rfl) ?_
    obtain ⟨v2_0, v2_1, v2_2, v2_3, v2_4, v2_5, hf2, t2_0, t2_1, t2_2⟩ := op9 I t_o0
    refine cG C9 V t_o0.1 hf2 rfl tC_lay9 1 (by decide) tCf_X12_18 (Or.inl rfl) rfl dX12_syncAt_6 ?_
    obtain ⟨g3, hf3, hg3⟩ := op15 I t2_1
    refine cAl (t0 := 3) (v := 24) C9 V t2_1.1 hf3 rfl (by first | rfl | decide) dX12_syncAt_9 ?_
    refine lv_icmp_ge (tgt := 22) hx hb dX12_syncAt_10 (by decide) (fun c4 => ?_) (fun c4 => ?_)
    · refine lv_null hx hb dX12_syncAt_22 ?_
      exact cRetR (v := none) C9 hr hlk hN hNs V I hS (⟨rfl, tySO_n⟩) dX12_syncAt_23
    · refine lv_aload_n hx hb dX12_syncAt_13 rfl (lv_at hl 0 rfl) ?_
      refine cG C9 V t_o0.1 hf2 rfl tC_lay9 1 (by decide) tCf_X12_18 (Or.inl rfl) rfl dX12_syncAt_14 ?_
      refine lv_iload_n hx hb dX12_syncAt_17 rfl (lv_at hl 1 rfl) ?_
      refine cLr (t0 := 3) C9 V t2_1.1 hf3 rfl (cvin (N := 24) rfl (ci_le c1) (ci_lt c4)) dX12_syncAt_18 ?_
      obtain ⟨r5, er5⟩ : ∃ z, z = g3 (Int32.toNatClampNeg i1) := ⟨_, rfl⟩
      rw [← er5]
      have tr5 : tySO τ L r5 := by rw [er5]; exact hg3 _
      rcases r5 with _ | y6
      · refine W.eq (g2 := F0 m 19 ls [.null]) rfl ?_
        refine lv_goto (tgt := 23) hx hb dX12_syncAt_19 (by decide) ?_
        exact cRetR (v := none) C9 hr hlk hN hNs V I hS (⟨rfl, tySO_n⟩) dX12_syncAt_23
      · have hy6 := tr5 y6 rfl
        refine W.eq (g2 := F0 m 19 ls [.ref y6]) rfl ?_
        refine lv_goto (tgt := 23) hx hb dX12_syncAt_19 (by decide) ?_
        exact cRetR (v := (some y6)) C9 hr hlk hN hNs V I hS (⟨rfl, tySO_s hy6⟩) dX12_syncAt_23
set_option maxHeartbeats 200000 in
set_option maxRecDepth 100000 in
theorem c_X12_leastFree (l : Launch) (D : va_G) (ks : kS) (τ : Nat → Nat) (L : List Nat) (A : Nat → Prop) (N : State → Prop) (hN : cNk A N) (ψ : Int32) (f : Nat → va_E) (o0 : Nat) (t_o0 : ty τ L o0 9) : Met l yX12_leastFree (Cond.code yX12_leastFree cX12_leastFree 2 (some .int) :: tC) ({ frames := 0, cells := 0, slots := 0, locals := 0 }) (va_Pc [.ref o0] (cB D ks τ L A N (ψ, f))) (va_Qi (fun r9 x9 => x9.1 = ψ) (cB D ks τ L A N) A) 0 0 A := by
  refine cMet (own := RX12) (by decide) rfl (Nat.le_of_ble_eq_true rfl) ?_
  intro p e s m below meth c ls C9 hml hr hlk V I hNs hl
  have hx := C9.1
  have hb := C9.2.1
  have hown := C9.2.2.1
  have hts := C9.2.2.2.1
  have hS : va_S A s.heap s.heap [] := va_S.rf
  have hl : lv_has ls 2 [(0, .ref o0)] := hl
  refine lv_iconst (v := 0) hx hb dX12_leastFree_0 (by decide) ?_
  refine lv_topi (fun x1 ex1 => ?_)
  refine lv_istore_n (lv' := [(1, .int x1), (0, .ref o0)]) hx hb dX12_leastFree_1 rfl hl (by decide) rfl (fun ls hl => ?_)
  have loop2 : ∀ (N9 : Nat) (w2_1 : Int32) (F2 : Nat → va_E) (H : Heap) (locs : List Loc) (ls : Array Slot), cI ks τ L ψ F2 → (0 ≤ w2_1 ∧ w2_1 ≤ 24) → ((24 - w2_1).toInt.toNat) < N9 → cV D L F2 A H → va_S A s.heap H locs → lv_has ls 2 [(0, .ref o0), (1, .int w2_1)] → W p l e ({ frames := 0, cells := 0, slots := 0, locals := 0 } : Room) s m ([.ref o0] : List Value).toArray below meth c H locs 0 0 (MQ below (va_Qi (fun r9 x9 => x9.1 = ψ) (cB D ks τ L A N) A) ([.ref o0] : List Value).toArray s 0 0 A) (F0 m 2 ls []) := by
    intro N9
    induction N9 with
    | zero => intro w2_1 F2 H locs ls I hi2 hm2; exact absurd hm2 (Nat.not_lt_zero _)
    | succ N9 ih2 =>
      intro w2_1 F2 H locs ls I hi2 hm2 V hS hl
      refine lv_iload_n hx hb dX12_leastFree_2 rfl (lv_at hl 1 rfl) ?_
      refine lv_aload_n hx hb dX12_leastFree_3 rfl (lv_at hl 0 rfl) ?_
      obtain ⟨v2_0, v2_1, v2_2, v2_3, v2_4, v2_5, hf2, t2_0, t2_1, t2_2⟩ := op9 I t_o0
      refine cG C9 V t_o0.1 hf2 rfl tC_lay9 1 (by decide) tCf_X12_18 (Or.inl rfl) rfl dX12_leastFree_4 ?_
      obtain ⟨g3, hf3, hg3⟩ := op15 I t2_1
      refine cAl (t0 := 3) (v := 24) C9 V t2_1.1 hf3 rfl (by first | rfl | decide) dX12_leastFree_7 ?_
      refine lv_icmp_ge (tgt := 28) hx hb dX12_leastFree_8 (by decide) (fun c4 => ?_) (fun c4 => ?_)
      · refine lv_iconst (v := (-1)) hx hb dX12_leastFree_28 (by decide) ?_
        exact cRetI C9 hr hlk hN hNs V I hS (rfl) dX12_leastFree_29
      · refine lv_aload_n hx hb dX12_leastFree_11 rfl (lv_at hl 0 rfl) ?_
        refine cG C9 V t_o0.1 hf2 rfl tC_lay9 1 (by decide) tCf_X12_18 (Or.inl rfl) rfl dX12_leastFree_12 ?_
        refine lv_iload_n hx hb dX12_leastFree_15 rfl (lv_at hl 1 rfl) ?_
        refine cLr (t0 := 3) C9 V t2_1.1 hf3 rfl (cvin (N := 24) rfl (hi2.1) (ci_lt c4)) dX12_leastFree_16 ?_
        obtain ⟨r5, er5⟩ : ∃ z, z = g3 (Int32.toNatClampNeg w2_1) := ⟨_, rfl⟩
        rw [← er5]
        have tr5 : tySO τ L r5 := by rw [er5]; exact hg3 _
        rcases r5 with _ | y6
        · refine W.eq (g2 := F0 m 17 ls [.null]) rfl ?_
          refine lv_ifnonnullN hx hb dX12_leastFree_17 ?_
          refine lv_iload_n hx hb dX12_leastFree_20 rfl (lv_at hl 1 rfl) ?_
          exact cRetI C9 hr hlk hN hNs V I hS (rfl) dX12_leastFree_21
        · have hy6 := tr5 y6 rfl
          refine W.eq (g2 := F0 m 17 ls [.ref y6]) rfl ?_
          refine lv_ifnonnull (tgt := 22) hx hb dX12_leastFree_17 (by decide) ?_
          obtain ⟨x7, ex7⟩ : ∃ y : Int32, y = w2_1 + (1) := ⟨_, rfl⟩
          refine lv_iinc (v := x7) (lv' := [(1, .int x7), (0, .ref o0)]) hx hb dX12_leastFree_22 hl (k := 1) rfl (by rw [ex7]; rfl) (by decide) rfl (fun ls hl => ?_)
          refine lv_goto (tgt := 2) hx hb dX12_leastFree_25 (by decide) ?_
          exact ih2 x7 F2 _ _ _ I (ca_up ex7 hi2.1 (ci_lt c4)) (cmsd hm2 (ca_dec ex7 hi2.1 (ci_lt c4)).1 (ca_dec ex7 hi2.1 (ci_lt c4)).2) V hS (lv_sub hl [1, 0] rfl)
  exact loop2 _ x1 f _ _ _ I (by clear V hS hl C9 hts hown hx hb hml hr hlk; subst_vars; decide) (Nat.lt_succ_self _) V hS (lv_sub hl [1, 0] rfl)
set_option maxHeartbeats 200000 in
set_option maxRecDepth 100000 in
theorem c_X12_howManySyncs (l : Launch) (D : va_G) (ks : kS) (τ : Nat → Nat) (L : List Nat) (A : Nat → Prop) (N : State → Prop) (hN : cNk A N) (ψ : Int32) (f : Nat → va_E) (o0 : Nat) (t_o0 : ty τ L o0 9) : Met l yX12_howManySyncs (Cond.code yX12_howManySyncs cX12_howManySyncs 6 (some .int) :: tC) ({ frames := 0, cells := 0, slots := 0, locals := 0 }) (va_Pc [.ref o0] (cB D ks τ L A N (ψ, f))) (va_Qi (fun r9 x9 => x9.1 = ψ) (cB D ks τ L A N) A) 0 0 A := by
  refine cMet (own := RX12) (by decide) rfl (Nat.le_of_ble_eq_true rfl) ?_
  intro p e s m below meth c ls C9 hml hr hlk V I hNs hl
  have hx := C9.1
  have hb := C9.2.1
  have hown := C9.2.2.1
  have hts := C9.2.2.2.1
  have hS : va_S A s.heap s.heap [] := va_S.rf
  have hl : lv_has ls 6 [(0, .ref o0)] := hl
  refine lv_iconst (v := 0) hx hb dX12_howManySyncs_0 (by decide) ?_
  refine lv_topi (fun x1 ex1 => ?_)
  refine lv_istore_n (lv' := [(1, .int x1), (0, .ref o0)]) hx hb dX12_howManySyncs_1 rfl hl (by decide) rfl (fun ls hl => ?_)
  refine lv_aload_n hx hb dX12_howManySyncs_2 rfl (lv_at hl 1 rfl) ?_
  obtain ⟨v2_0, v2_1, v2_2, v2_3, v2_4, v2_5, hf2, t2_0, t2_1, t2_2⟩ := op9 I t_o0
  refine cG C9 V t_o0.1 hf2 rfl tC_lay9 1 (by decide) tCf_X12_18 (Or.inl rfl) rfl dX12_howManySyncs_3 ?_
  refine lv_astore_n (lv' := [(2, .ref v2_1), (1, .int x1), (0, .ref o0)]) hx hb dX12_howManySyncs_6 rfl hl (by decide) rfl (fun ls hl => ?_)
  refine lv_aload_n hx hb dX12_howManySyncs_7 rfl (lv_at hl 0 rfl) ?_
  obtain ⟨g3, hf3, hg3⟩ := op15 I t2_1
  refine cAl (t0 := 3) (v := 24) C9 V t2_1.1 hf3 rfl (by first | rfl | decide) dX12_howManySyncs_8 ?_
  refine lv_topi (fun x4 ex4 => ?_)
  refine lv_istore_n (lv' := [(3, .int x4), (2, .ref v2_1), (1, .int x1), (0, .ref o0)]) hx hb dX12_howManySyncs_9 rfl hl (by decide) rfl (fun ls hl => ?_)
  refine lv_iconst (v := 0) hx hb dX12_howManySyncs_10 (by decide) ?_
  refine lv_topi (fun x5 ex5 => ?_)
  refine lv_istore (lv' := [(4, .int x5), (3, .int x4), (2, .ref v2_1), (1, .int x1), (0, .ref o0)]) hx hb dX12_howManySyncs_11 hl (by decide) rfl (fun ls hl => ?_)
  have loop13 : ∀ (N9 : Nat) (w13_1 : Int32) (w13_4 : Int32) (F13 : Nat → va_E) (H : Heap) (locs : List Loc) (ls : Array Slot), cI ks τ L ψ F13 → (0 ≤ w13_4 ∧ w13_4 ≤ 24) → ((24 - w13_4).toInt.toNat) < N9 → cV D L F13 A H → va_S A s.heap H locs → lv_has ls 6 [(0, .ref o0), (1, .int w13_1), (2, .ref v2_1), (3, .int x4), (4, .int w13_4)] → W p l e ({ frames := 0, cells := 0, slots := 0, locals := 0 } : Room) s m ([.ref o0] : List Value).toArray below meth c H locs 0 0 (MQ below (va_Qi (fun r9 x9 => x9.1 = ψ) (cB D ks τ L A N) A) ([.ref o0] : List Value).toArray s 0 0 A) (F0 m 13 ls []) := by
    intro N9
    induction N9 with
    | zero => intro w13_1 w13_4 F13 H locs ls I hi13 hm13; exact absurd hm13 (Nat.not_lt_zero _)
    | succ N9 ih13 =>
      intro w13_1 w13_4 F13 H locs ls I hi13 hm13 V hS hl
      refine lv_iload hx hb dX12_howManySyncs_13 (lv_at hl 4 rfl) ?_
      refine lv_iload_n hx hb dX12_howManySyncs_15 rfl (lv_at hl 3 rfl) ?_
      refine lv_icmp_ge (tgt := 44) hx hb dX12_howManySyncs_16 (by decide) (fun c6 => ?_) (fun c6 => ?_)
      · refine lv_iload_n hx hb dX12_howManySyncs_44 rfl (lv_at hl 1 rfl) ?_
        exact cRetI C9 hr hlk hN hNs V I hS (rfl) dX12_howManySyncs_45
      · refine lv_aload_n hx hb dX12_howManySyncs_19 rfl (lv_at hl 2 rfl) ?_
        refine lv_iload hx hb dX12_howManySyncs_20 (lv_at hl 4 rfl) ?_
        obtain ⟨g7, hf7, hg7⟩ := op15 I t2_1
        refine cLr (t0 := 3) C9 V t2_1.1 hf7 rfl (cvin (N := 24) rfl (hi13.1) (lt_e ex4 c6)) dX12_howManySyncs_22 ?_
        obtain ⟨r8, er8⟩ : ∃ z, z = g7 (Int32.toNatClampNeg w13_4) := ⟨_, rfl⟩
        rw [← er8]
        have tr8 : tySO τ L r8 := by rw [er8]; exact hg7 _
        rcases r8 with _ | y9
        · refine W.eq (g2 := F0 m 23 ls [.null]) rfl ?_
          refine lv_astoreN (lv' := [(5, .null), (0, .ref o0), (1, .int w13_1), (2, .ref v2_1), (3, .int x4), (4, .int w13_4)]) hx hb dX12_howManySyncs_23 hl (by decide) rfl (fun ls hl => ?_)
          refine lv_iload_n hx hb dX12_howManySyncs_25 rfl (lv_at hl 2 rfl) ?_
          refine lv_aloadN hx hb dX12_howManySyncs_26 (lv_at hl 0 rfl) ?_
          refine lv_ifnonnullN hx hb dX12_howManySyncs_28 ?_
          refine lv_iconst (v := 0) hx hb dX12_howManySyncs_31 (by decide) ?_
          refine lv_goto (tgt := 36) hx hb dX12_howManySyncs_32 (by decide) ?_
          refine lv_iadd hx hb dX12_howManySyncs_36 ?_
          refine lv_topi (fun x10 ex10 => ?_)
          refine lv_istore_n (lv' := [(1, .int x10), (5, .null), (0, .ref o0), (2, .ref v2_1), (3, .int x4), (4, .int w13_4)]) hx hb dX12_howManySyncs_37 rfl hl (by decide) rfl (fun ls hl => ?_)
          obtain ⟨x11, ex11⟩ : ∃ y : Int32, y = w13_4 + (1) := ⟨_, rfl⟩
          refine lv_iinc (v := x11) (lv' := [(4, .int x11), (1, .int x10), (5, .null), (0, .ref o0), (2, .ref v2_1), (3, .int x4)]) hx hb dX12_howManySyncs_38 hl (k := 5) rfl (by rw [ex11]; rfl) (by decide) rfl (fun ls hl => ?_)
          refine lv_goto (tgt := 13) hx hb dX12_howManySyncs_41 (by decide) ?_
          exact ih13 x10 x11 F13 _ _ _ I (ca_up ex11 hi13.1 (lt_e ex4 c6)) (cmsd hm13 (ca_dec ex11 hi13.1 (lt_e ex4 c6)).1 (ca_dec ex11 hi13.1 (lt_e ex4 c6)).2) V hS (lv_sub hl [3, 1, 4, 5, 0] rfl)
        · have hy9 := tr8 y9 rfl
          refine W.eq (g2 := F0 m 23 ls [.ref y9]) rfl ?_
          refine lv_astore (lv' := [(5, .ref y9), (0, .ref o0), (1, .int w13_1), (2, .ref v2_1), (3, .int x4), (4, .int w13_4)]) hx hb dX12_howManySyncs_23 hl (by decide) rfl (fun ls hl => ?_)
          refine lv_iload_n hx hb dX12_howManySyncs_25 rfl (lv_at hl 2 rfl) ?_
          refine lv_aload hx hb dX12_howManySyncs_26 (lv_at hl 0 rfl) ?_
          refine lv_ifnonnull (tgt := 35) hx hb dX12_howManySyncs_28 (by decide) ?_
          refine lv_iconst (v := 1) hx hb dX12_howManySyncs_35 (by decide) ?_
          refine lv_iadd hx hb dX12_howManySyncs_36 ?_
          refine lv_topi (fun x12 ex12 => ?_)
          refine lv_istore_n (lv' := [(1, .int x12), (5, .ref y9), (0, .ref o0), (2, .ref v2_1), (3, .int x4), (4, .int w13_4)]) hx hb dX12_howManySyncs_37 rfl hl (by decide) rfl (fun ls hl => ?_)
          obtain ⟨x13, ex13⟩ : ∃ y : Int32, y = w13_4 + (1) := ⟨_, rfl⟩
          refine lv_iinc (v := x13) (lv' := [(4, .int x13), (1, .int x12), (5, .ref y9), (0, .ref o0), (2, .ref v2_1), (3, .int x4)]) hx hb dX12_howManySyncs_38 hl (k := 5) rfl (by rw [ex13]; rfl) (by decide) rfl (fun ls hl => ?_)
          refine lv_goto (tgt := 13) hx hb dX12_howManySyncs_41 (by decide) ?_
          exact ih13 x12 x13 F13 _ _ _ I (ca_up ex13 hi13.1 (lt_e ex4 c6)) (cmsd hm13 (ca_dec ex13 hi13.1 (lt_e ex4 c6)).1 (ca_dec ex13 hi13.1 (lt_e ex4 c6)).2) V hS (lv_sub hl [3, 1, 4, 5, 0] rfl)
  exact loop13 _ x1 x5 f _ _ _ I (by clear V hS hl C9 hts hown hx hb hml hr hlk; subst_vars; decide) (Nat.lt_succ_self _) V hS (lv_sub hl [4, 3, 2, 1, 0] rfl)
set_option maxHeartbeats 200000 in
set_option maxRecDepth 100000 in
theorem c_X12_howManyReady (l : Launch) (D : va_G) (ks : kS) (τ : Nat → Nat) (L : List Nat) (A : Nat → Prop) (N : State → Prop) (hN : cNk A N) (ψ : Int32) (f : Nat → va_E) (o0 : Nat) (t_o0 : ty τ L o0 9) : Met l yX12_howManyReady (Cond.code yX12_howManyReady cX12_howManyReady 6 (some .int) :: tC) ({ frames := 0, cells := 0, slots := 0, locals := 0 }) (va_Pc [.ref o0] (cB D ks τ L A N (ψ, f))) (va_Qi (fun r9 x9 => x9.1 = ψ) (cB D ks τ L A N) A) 0 0 A := by
  refine cMet (own := RX12) (by decide) rfl (Nat.le_of_ble_eq_true rfl) ?_
  intro p e s m below meth c ls C9 hml hr hlk V I hNs hl
  have hx := C9.1
  have hb := C9.2.1
  have hown := C9.2.2.1
  have hts := C9.2.2.2.1
  have hS : va_S A s.heap s.heap [] := va_S.rf
  have hl : lv_has ls 6 [(0, .ref o0)] := hl
  refine lv_iconst (v := 0) hx hb dX12_howManyReady_0 (by decide) ?_
  refine lv_topi (fun x1 ex1 => ?_)
  refine lv_istore_n (lv' := [(1, .int x1), (0, .ref o0)]) hx hb dX12_howManyReady_1 rfl hl (by decide) rfl (fun ls hl => ?_)
  refine lv_aload_n hx hb dX12_howManyReady_2 rfl (lv_at hl 1 rfl) ?_
  obtain ⟨v2_0, v2_1, v2_2, v2_3, v2_4, v2_5, hf2, t2_0, t2_1, t2_2⟩ := op9 I t_o0
  refine cG C9 V t_o0.1 hf2 rfl tC_lay9 2 (by decide) tCf_X12_24 (Or.inl rfl) rfl dX12_howManyReady_3 ?_
  refine lv_astore_n (lv' := [(2, .ref v2_2), (1, .int x1), (0, .ref o0)]) hx hb dX12_howManyReady_6 rfl hl (by decide) rfl (fun ls hl => ?_)
  refine lv_aload_n hx hb dX12_howManyReady_7 rfl (lv_at hl 0 rfl) ?_
  obtain ⟨g3, hf3, hg3⟩ := op14 I t2_2
  refine cAl (t0 := 2) (v := 8) C9 V t2_2.1 hf3 rfl (by first | rfl | decide) dX12_howManyReady_8 ?_
  refine lv_topi (fun x4 ex4 => ?_)
  refine lv_istore_n (lv' := [(3, .int x4), (2, .ref v2_2), (1, .int x1), (0, .ref o0)]) hx hb dX12_howManyReady_9 rfl hl (by decide) rfl (fun ls hl => ?_)
  refine lv_iconst (v := 0) hx hb dX12_howManyReady_10 (by decide) ?_
  refine lv_topi (fun x5 ex5 => ?_)
  refine lv_istore (lv' := [(4, .int x5), (3, .int x4), (2, .ref v2_2), (1, .int x1), (0, .ref o0)]) hx hb dX12_howManyReady_11 hl (by decide) rfl (fun ls hl => ?_)
  have loop13 : ∀ (N9 : Nat) (w13_1 : Int32) (w13_4 : Int32) (F13 : Nat → va_E) (H : Heap) (locs : List Loc) (ls : Array Slot), cI ks τ L ψ F13 → (0 ≤ w13_4 ∧ w13_4 ≤ 8) → ((8 - w13_4).toInt.toNat) < N9 → cV D L F13 A H → va_S A s.heap H locs → lv_has ls 6 [(0, .ref o0), (1, .int w13_1), (2, .ref v2_2), (3, .int x4), (4, .int w13_4)] → W p l e ({ frames := 0, cells := 0, slots := 0, locals := 0 } : Room) s m ([.ref o0] : List Value).toArray below meth c H locs 0 0 (MQ below (va_Qi (fun r9 x9 => x9.1 = ψ) (cB D ks τ L A N) A) ([.ref o0] : List Value).toArray s 0 0 A) (F0 m 13 ls []) := by
    intro N9
    induction N9 with
    | zero => intro w13_1 w13_4 F13 H locs ls I hi13 hm13; exact absurd hm13 (Nat.not_lt_zero _)
    | succ N9 ih13 =>
      intro w13_1 w13_4 F13 H locs ls I hi13 hm13 V hS hl
      refine lv_iload hx hb dX12_howManyReady_13 (lv_at hl 4 rfl) ?_
      refine lv_iload_n hx hb dX12_howManyReady_15 rfl (lv_at hl 3 rfl) ?_
      refine lv_icmp_ge (tgt := 48) hx hb dX12_howManyReady_16 (by decide) (fun c6 => ?_) (fun c6 => ?_)
      · refine lv_iload_n hx hb dX12_howManyReady_48 rfl (lv_at hl 1 rfl) ?_
        exact cRetI C9 hr hlk hN hNs V I hS (rfl) dX12_howManyReady_49
      · refine lv_aload_n hx hb dX12_howManyReady_19 rfl (lv_at hl 2 rfl) ?_
        refine lv_iload hx hb dX12_howManyReady_20 (lv_at hl 4 rfl) ?_
        obtain ⟨g7, hf7, hg7⟩ := op14 I t2_2
        refine cLr (t0 := 2) C9 V t2_2.1 hf7 rfl (cvin (N := 8) rfl (hi13.1) (lt_e ex4 c6)) dX12_howManyReady_22 ?_
        obtain ⟨y8, ey8, hy8⟩ := hg7 _ ((ca_lt8 hi13.1 (lt_e ex4 c6)))
        rw [ey8]
        refine W.eq (g2 := F0 m 23 ls [.ref y8]) rfl ?_
        refine lv_astore (lv' := [(5, .ref y8), (0, .ref o0), (1, .int w13_1), (2, .ref v2_2), (3, .int x4), (4, .int w13_4)]) hx hb dX12_howManyReady_23 hl (by decide) rfl (fun ls hl => ?_)
        refine lv_iload_n hx hb dX12_howManyReady_25 rfl (lv_at hl 2 rfl) ?_
        refine lv_aload hx hb dX12_howManyReady_26 (lv_at hl 0 rfl) ?_
        obtain ⟨v9_0, v9_1, v9_2, v9_3, v9_4, v9_5, v9_6, v9_7, v9_8, v9_9, v9_10, v9_11, v9_12, hf9, t9_7, t9_8, t9_11⟩ := op7 I hy8
        refine cG C9 V hy8.1 hf9 rfl tC_lay7 1 (by decide) tCf_X12_112 (Or.inl rfl) rfl dX12_howManyReady_28 ?_
        refine lv_iconst (v := 1) hx hb dX12_howManyReady_31 (by decide) ?_
        refine lv_icmp_ne (tgt := 39) hx hb dX12_howManyReady_32 (by decide) (fun c10 => ?_) (fun c10 => ?_)
        · refine lv_iconst (v := 0) hx hb dX12_howManyReady_39 (by decide) ?_
          refine lv_iadd hx hb dX12_howManyReady_40 ?_
          refine lv_topi (fun x11 ex11 => ?_)
          refine lv_istore_n (lv' := [(1, .int x11), (5, .ref y8), (0, .ref o0), (2, .ref v2_2), (3, .int x4), (4, .int w13_4)]) hx hb dX12_howManyReady_41 rfl hl (by decide) rfl (fun ls hl => ?_)
          obtain ⟨x12, ex12⟩ : ∃ y : Int32, y = w13_4 + (1) := ⟨_, rfl⟩
          refine lv_iinc (v := x12) (lv' := [(4, .int x12), (1, .int x11), (5, .ref y8), (0, .ref o0), (2, .ref v2_2), (3, .int x4)]) hx hb dX12_howManyReady_42 hl (k := 5) rfl (by rw [ex12]; rfl) (by decide) rfl (fun ls hl => ?_)
          refine lv_goto (tgt := 13) hx hb dX12_howManyReady_45 (by decide) ?_
          exact ih13 x11 x12 F13 _ _ _ I (ca_up ex12 hi13.1 (lt_e ex4 c6)) (cmsd hm13 (ca_dec ex12 hi13.1 (lt_e ex4 c6)).1 (ca_dec ex12 hi13.1 (lt_e ex4 c6)).2) V hS (lv_sub hl [3, 1, 4, 5, 0] rfl)
        · refine lv_iconst (v := 1) hx hb dX12_howManyReady_35 (by decide) ?_
          refine lv_goto (tgt := 40) hx hb dX12_howManyReady_36 (by decide) ?_
          refine lv_iadd hx hb dX12_howManyReady_40 ?_
          refine lv_topi (fun x13 ex13 => ?_)
          refine lv_istore_n (lv' := [(1, .int x13), (5, .ref y8), (0, .ref o0), (2, .ref v2_2), (3, .int x4), (4, .int w13_4)]) hx hb dX12_howManyReady_41 rfl hl (by decide) rfl (fun ls hl => ?_)
          obtain ⟨x14, ex14⟩ : ∃ y : Int32, y = w13_4 + (1) := ⟨_, rfl⟩
          refine lv_iinc (v := x14) (lv' := [(4, .int x14), (1, .int x13), (5, .ref y8), (0, .ref o0), (2, .ref v2_2), (3, .int x4)]) hx hb dX12_howManyReady_42 hl (k := 5) rfl (by rw [ex14]; rfl) (by decide) rfl (fun ls hl => ?_)
          refine lv_goto (tgt := 13) hx hb dX12_howManyReady_45 (by decide) ?_
          exact ih13 x13 x14 F13 _ _ _ I (ca_up ex14 hi13.1 (lt_e ex4 c6)) (cmsd hm13 (ca_dec ex14 hi13.1 (lt_e ex4 c6)).1 (ca_dec ex14 hi13.1 (lt_e ex4 c6)).2) V hS (lv_sub hl [3, 1, 4, 5, 0] rfl)
  exact loop13 _ x1 x5 f _ _ _ I (by clear V hS hl C9 hts hown hx hb hml hr hlk; subst_vars; decide) (Nat.lt_succ_self _) V hS (lv_sub hl [4, 3, 2, 1, 0] rfl)
set_option maxHeartbeats 200000 in
set_option maxRecDepth 100000 in
theorem c_X12_readyFrom (l : Launch) (D : va_G) (ks : kS) (τ : Nat → Nat) (L : List Nat) (A : Nat → Prop) (N : State → Prop) (hN : cNk A N) (ψ : Int32) (f : Nat → va_E) (o0 : Nat) (i1 : Int32) (i2 : Int32) (t_o0 : ty τ L o0 9) : Met l yX12_readyFrom (Cond.code yX12_readyFrom cX12_readyFrom 6 (some (.object "TurnKeeper$Strand")) :: tC) ({ frames := 0, cells := 0, slots := 0, locals := 0 }) (va_Pc [.ref o0, .int i1, .int i2] (cB D ks τ L A N (ψ, f))) (va_Qq (fun r9 x9 => x9.1 = ψ ∧ tyO τ L r9 7) (cB D ks τ L A N) A) 0 0 A := by
  refine cMet (own := RX12) (by decide) rfl (Nat.le_of_ble_eq_true rfl) ?_
  intro p e s m below meth c ls C9 hml hr hlk V I hNs hl
  have hx := C9.1
  have hb := C9.2.1
  have hown := C9.2.2.1
  have hts := C9.2.2.2.1
  have hS : va_S A s.heap s.heap [] := va_S.rf
  have hl : lv_has ls 6 [(0, .ref o0), (1, .int i1), (2, .int i2)] := hl
  refine lv_iload_n hx hb dX12_readyFrom_0 rfl (lv_at hl 2 rfl) ?_
  refine lv_istore_n (lv' := [(3, .int i2), (0, .ref o0), (1, .int i1), (2, .int i2)]) hx hb dX12_readyFrom_1 rfl hl (by decide) rfl (fun ls hl => ?_)
  refine lv_iconst (v := 0) hx hb dX12_readyFrom_2 (by decide) ?_
  refine lv_topi (fun x1 ex1 => ?_)
  refine lv_istore (lv' := [(4, .int x1), (3, .int i2), (0, .ref o0), (1, .int i1), (2, .int i2)]) hx hb dX12_readyFrom_3 hl (by decide) rfl (fun ls hl => ?_)
  have loop5 : ∀ (N9 : Nat) (w5_3 : Int32) (w5_4 : Int32) (F5 : Nat → va_E) (H : Heap) (locs : List Loc) (ls : Array Slot), cI ks τ L ψ F5 → (0 ≤ w5_4 ∧ w5_4 ≤ 8) → ((8 - w5_4).toInt.toNat) < N9 → cV D L F5 A H → va_S A s.heap H locs → lv_has ls 6 [(0, .ref o0), (1, .int i1), (2, .int i2), (3, .int w5_3), (4, .int w5_4)] → W p l e ({ frames := 0, cells := 0, slots := 0, locals := 0 } : Room) s m ([.ref o0, .int i1, .int i2] : List Value).toArray below meth c H locs 0 0 (MQ below (va_Qq (fun r9 x9 => x9.1 = ψ ∧ tyO τ L r9 7) (cB D ks τ L A N) A) ([.ref o0, .int i1, .int i2] : List Value).toArray s 0 0 A) (F0 m 5 ls []) := by
    intro N9
    induction N9 with
    | zero => intro w5_3 w5_4 F5 H locs ls I hi5 hm5; exact absurd hm5 (Nat.not_lt_zero _)
    | succ N9 ih5 =>
      intro w5_3 w5_4 F5 H locs ls I hi5 hm5 V hS hl
      refine lv_iload hx hb dX12_readyFrom_5 (lv_at hl 4 rfl) ?_
      refine lv_bipush (v := 8) hx hb dX12_readyFrom_7 (by decide) ?_
      refine lv_icmp_ge (tgt := 51) hx hb dX12_readyFrom_9 (by decide) (fun c2 => ?_) (fun c2 => ?_)
      · refine lv_null hx hb dX12_readyFrom_51 ?_
        exact cRetR (v := none) C9 hr hlk hN hNs V I hS (⟨rfl, tyO_n⟩) dX12_readyFrom_52
      · refine lv_aload_n hx hb dX12_readyFrom_12 rfl (lv_at hl 0 rfl) ?_
        obtain ⟨v3_0, v3_1, v3_2, v3_3, v3_4, v3_5, hf3, t3_0, t3_1, t3_2⟩ := op9 I t_o0
        refine cG C9 V t_o0.1 hf3 rfl tC_lay9 2 (by decide) tCf_X12_24 (Or.inl rfl) rfl dX12_readyFrom_13 ?_
        refine lv_iload_n hx hb dX12_readyFrom_16 rfl (lv_at hl 1 rfl) ?_
        refine lv_iload hx hb dX12_readyFrom_17 (lv_at hl 4 rfl) ?_
        refine lv_iadd hx hb dX12_readyFrom_19 ?_
        refine lv_bipush (v := 7) hx hb dX12_readyFrom_20 (by decide) ?_
        refine lv_iand hx hb dX12_readyFrom_22 ?_
        obtain ⟨g4, hf4, hg4⟩ := op14 I t3_2
        refine cLr (t0 := 2) C9 V t3_2.1 hf4 rfl (cvin (N := 8) rfl ((c_and7 _).1) ((c_and7 _).2)) dX12_readyFrom_23 ?_
        obtain ⟨y5, ey5, hy5⟩ := hg4 _ ((ca_lt8 (c_and7 _).1 (c_and7 _).2))
        rw [ey5]
        refine W.eq (g2 := F0 m 24 ls [.ref y5]) rfl ?_
        refine lv_astore (lv' := [(5, .ref y5), (0, .ref o0), (1, .int i1), (2, .int i2), (3, .int w5_3), (4, .int w5_4)]) hx hb dX12_readyFrom_24 hl (by decide) rfl (fun ls hl => ?_)
        refine lv_aload hx hb dX12_readyFrom_26 (lv_at hl 0 rfl) ?_
        obtain ⟨v6_0, v6_1, v6_2, v6_3, v6_4, v6_5, v6_6, v6_7, v6_8, v6_9, v6_10, v6_11, v6_12, hf6, t6_7, t6_8, t6_11⟩ := op7 I hy5
        refine cG C9 V hy5.1 hf6 rfl tC_lay7 1 (by decide) tCf_X12_112 (Or.inl rfl) rfl dX12_readyFrom_28 ?_
        refine lv_iconst (v := 1) hx hb dX12_readyFrom_31 (by decide) ?_
        refine lv_icmp_ne (tgt := 45) hx hb dX12_readyFrom_32 (by decide) (fun c7 => ?_) (fun c7 => ?_)
        · obtain ⟨x8, ex8⟩ : ∃ y : Int32, y = w5_4 + (1) := ⟨_, rfl⟩
          refine lv_iinc (v := x8) (lv' := [(4, .int x8), (5, .ref y5), (0, .ref o0), (1, .int i1), (2, .int i2), (3, .int w5_3)]) hx hb dX12_readyFrom_45 hl (k := 5) rfl (by rw [ex8]; rfl) (by decide) rfl (fun ls hl => ?_)
          refine lv_goto (tgt := 5) hx hb dX12_readyFrom_48 (by decide) ?_
          exact ih5 w5_3 x8 F5 _ _ _ I (ca_up ex8 hi5.1 (ci_lt c2)) (cmsd hm5 (ca_dec ex8 hi5.1 (ci_lt c2)).1 (ca_dec ex8 hi5.1 (ci_lt c2)).2) V hS (lv_sub hl [2, 3, 4, 5, 0] rfl)
        · refine lv_iload_n hx hb dX12_readyFrom_35 rfl (lv_at hl 4 rfl) ?_
          refine lv_if_ne (tgt := 42) hx hb dX12_readyFrom_36 (by decide) (fun c9 => ?_) (fun c9 => ?_)
          · obtain ⟨x10, ex10⟩ : ∃ y : Int32, y = w5_3 + (-1) := ⟨_, rfl⟩
            refine lv_iinc (v := x10) (lv' := [(3, .int x10), (5, .ref y5), (0, .ref o0), (1, .int i1), (2, .int i2), (4, .int w5_4)]) hx hb dX12_readyFrom_42 hl (k := 4) rfl (by rw [ex10]; rfl) (by decide) rfl (fun ls hl => ?_)
            obtain ⟨x11, ex11⟩ : ∃ y : Int32, y = w5_4 + (1) := ⟨_, rfl⟩
            refine lv_iinc (v := x11) (lv' := [(4, .int x11), (3, .int x10), (5, .ref y5), (0, .ref o0), (1, .int i1), (2, .int i2)]) hx hb dX12_readyFrom_45 hl (k := 5) rfl (by rw [ex11]; rfl) (by decide) rfl (fun ls hl => ?_)
            refine lv_goto (tgt := 5) hx hb dX12_readyFrom_48 (by decide) ?_
            exact ih5 x10 x11 F5 _ _ _ I (ca_up ex11 hi5.1 (ci_lt c2)) (cmsd hm5 (ca_dec ex11 hi5.1 (ci_lt c2)).1 (ca_dec ex11 hi5.1 (ci_lt c2)).2) V hS (lv_sub hl [3, 4, 5, 1, 0] rfl)
          · refine lv_aload hx hb dX12_readyFrom_39 (lv_at hl 0 rfl) ?_
            exact cRetR (v := (some y5)) C9 hr hlk hN hNs V I hS (⟨rfl, tyO_s hy5⟩) dX12_readyFrom_41
  exact loop5 _ i2 x1 f _ _ _ I (by clear V hS hl C9 hts hown hx hb hml hr hlk; subst_vars; decide) (Nat.lt_succ_self _) V hS (lv_sub hl [2, 3, 4, 1, 0] rfl)
set_option maxHeartbeats 200000 in
set_option maxRecDepth 100000 in
theorem c_X12_fallAsleep (l : Launch) (D : va_G) (ks : kS) (τ : Nat → Nat) (L : List Nat) (A : Nat → Prop) (N : State → Prop) (hN : cNk A N) (ψ : Int32) (f : Nat → va_E) (o0 : Nat) (o1 : Nat) (i1 : Int32) (t_o0 : ty τ L o0 9) (t_o1 : ty τ L o1 7) : Met l yX12_fallAsleep (Cond.code yX12_fallAsleep cX12_fallAsleep 3 none :: tC) ({ frames := 3, cells := 0, slots := 0, locals := 63 }) (va_Pc [.ref o0, .ref o1, .int i1] (cB D ks τ L A N (ψ, f))) (va_Qv (fun x9 => x9.1 = ψ) (cB D ks τ L A N) A) 0 0 A := by
  refine cMet (own := RX12) (by decide) rfl (Nat.le_of_ble_eq_true rfl) ?_
  intro p e s m below meth c ls C9 hml hr hlk V I hNs hl
  have hx := C9.1
  have hb := C9.2.1
  have hown := C9.2.2.1
  have hts := C9.2.2.2.1
  have hS : va_S A s.heap s.heap [] := va_S.rf
  have hl : lv_has ls 3 [(0, .ref o0), (1, .ref o1), (2, .int i1)] := hl
  refine lv_iload_n hx hb dX12_fallAsleep_0 rfl (lv_at hl 2 rfl) ?_
  refine lv_iconst (v := 1) hx hb dX12_fallAsleep_1 (by decide) ?_
  refine lv_icmp_ge (tgt := 12) hx hb dX12_fallAsleep_2 (by decide) (fun c1 => ?_) (fun c1 => ?_)
  · refine lv_aload_n hx hb dX12_fallAsleep_12 rfl (lv_at hl 1 rfl) ?_
    obtain ⟨v2_0, v2_1, v2_2, v2_3, v2_4, v2_5, v2_6, v2_7, v2_8, v2_9, v2_10, v2_11, v2_12, hf2, t2_7, t2_8, t2_11⟩ := op7 I t_o1
    refine cGoI (cRunV (As := []) (rest := []) C9 hml hN hNs V I hS t_o1.1 hf2 rfl (c_X8_refusesToWait l D ks τ L A N hN ψ f o1 t_o1 ) gC_X12_277 okC_X8_refusesToWait ⟨rfl, rfl, Nat.le_of_ble_eq_true rfl, Nat.le_of_ble_eq_true rfl⟩ hl.1 rfl (Nat.le_of_ble_eq_true rfl) dX12_fallAsleep_13 ⟨Nat.zero_le _, Nat.zero_le _⟩) hS (fun r5 p4 f3 H locs hqf3 V I hS => ?_)
    have I : cI ks τ L ψ f3 := by rw [show p4 = ψ from hqf3] at I; exact I
    refine lv_if_ne (tgt := 35) hx hb dX12_fallAsleep_16 (by decide) (fun c6 => ?_) (fun c6 => ?_)
    · exact cRetV C9 hr hlk hN hNs V I hS (rfl) dX12_fallAsleep_35
    · refine lv_aload_n hx hb dX12_fallAsleep_19 rfl (lv_at hl 1 rfl) ?_
      refine lv_aload_n hx hb dX12_fallAsleep_20 rfl (lv_at hl 0 rfl) ?_
      obtain ⟨v7_0, v7_1, v7_2, v7_3, v7_4, v7_5, hf7, t7_0, t7_1, t7_2⟩ := op9 I t_o0
      refine cG C9 V t_o0.1 hf7 rfl tC_lay9 3 (by decide) tCf_X12_129 (Or.inl rfl) rfl dX12_fallAsleep_21 ?_
      refine lv_iload_n hx hb dX12_fallAsleep_24 rfl (lv_at hl 2 rfl) ?_
      refine lv_i2l hx hb dX12_fallAsleep_25 rfl ?_
      refine lv_ladd hx hb dX12_fallAsleep_26 ?_
      obtain ⟨v8_0, v8_1, v8_2, v8_3, v8_4, v8_5, v8_6, v8_7, v8_8, v8_9, v8_10, v8_11, v8_12, hf8, t8_7, t8_8, t8_11⟩ := op7 I t_o1
      refine lv_topl (fun x9 ex9 => ?_)
      refine cP (v := .long x9) (ty := .long) C9 V hS t_o1.1 hf8 rfl tC_lay7 tyX8 tyX8_ok nmX8 6 (by decide) tCf_X12_133 rfl rfl (by decide +kernel) rfl rfl (Nat.le_of_ble_eq_true rfl) dX12_fallAsleep_27 (fun f10 H locs ef10 V hS => ?_)
      have hf11 : f10 o1 = .inr (7, [.int v8_0, .int v8_1, .int v8_2, .int v8_3, .int v8_4, .int v8_5, .long x9, va_rf v8_7, va_rf v8_8, .int v8_9, .int v8_10, .ref v8_11, .int v8_12]) := up_s ef10
      have I := cI_up I t_o1.2 ef10 (mk7 t8_7 t8_8 t8_11)
      have hf12 := up_n ef10 t_o1.2 t_o0.2 (by first | decide | omega) hf7
      refine lv_aload_n hx hb dX12_fallAsleep_30 rfl (lv_at hl 1 rfl) ?_
      refine lv_iconst (v := 3) hx hb dX12_fallAsleep_31 (by decide) ?_
      refine cP (v := .int 3) (ty := .int) C9 V hS t_o1.1 hf11 rfl tC_lay7 tyX8 tyX8_ok nmX8 1 (by decide) tCf_X12_112 rfl rfl (by decide +kernel) rfl rfl (Nat.le_of_ble_eq_true rfl) dX12_fallAsleep_32 (fun f13 H locs ef13 V hS => ?_)
      have hf14 : f13 o1 = .inr (7, [.int v8_0, .int 3, .int v8_2, .int v8_3, .int v8_4, .int v8_5, .long x9, va_rf v8_7, va_rf v8_8, .int v8_9, .int v8_10, .ref v8_11, .int v8_12]) := up_s ef13
      have I := cI_up I t_o1.2 ef13 (mk7 t8_7 t8_8 t8_11)
      have hf15 := up_n ef13 t_o1.2 t_o0.2 (by first | decide | omega) hf12
      exact cRetV C9 hr hlk hN hNs V I hS (rfl) dX12_fallAsleep_35
  · refine lv_aload_n hx hb dX12_fallAsleep_5 rfl (lv_at hl 1 rfl) ?_
    obtain ⟨v16_0, v16_1, v16_2, v16_3, v16_4, v16_5, v16_6, v16_7, v16_8, v16_9, v16_10, v16_11, v16_12, hf16, t16_7, t16_8, t16_11⟩ := op7 I t_o1
    refine cGoV (cRunV (As := []) (rest := []) C9 hml hN hNs V I hS t_o1.1 hf16 rfl (c_X8_goOn l D ks τ L A N hN ψ f o1 t_o1 ) gC_X12_136 okC_X8_goOn ⟨rfl, rfl, Nat.le_of_ble_eq_true rfl, Nat.le_of_ble_eq_true rfl⟩ hl.1 rfl (Nat.le_of_ble_eq_true rfl) dX12_fallAsleep_6 ⟨Nat.zero_le _, Nat.zero_le _⟩) hS (fun p18 f17 H locs hqf17 V I hS => ?_)
    have I : cI ks τ L ψ f17 := by rw [show p18 = ψ from hqf17] at I; exact I
    refine lv_goto (tgt := 35) hx hb dX12_fallAsleep_9 (by decide) ?_
    exact cRetV C9 hr hlk hN hNs V I hS (rfl) dX12_fallAsleep_35
end
section
theorem sb_a {x y n : Int32} (e : y = x + 1) (h0 : 0 ≤ x) (h : x < n) (hn : n ≤ 1600) : 0 ≤ y ∧ y ≤ 1601 := by grind
theorem sb_i {x y n a : Int32} (h : a ≤ x ∧ x ≤ n) (e : y = x + 1) (hl : x < n) : a ≤ y ∧ y ≤ n := by grind
theorem sb_m {x y n : Int32} (e : y = x + 1) (h : x < n) (h0 : 0 ≤ y) (hn : 0 ≤ n ∧ n ≤ 1600) : 0 ≤ n - y ∧ n - y < n - x := by
  have q : y ≤ n := by grind
  constructor <;> grind

set_option maxHeartbeats 200000 in
set_option maxRecDepth 100000 in
theorem c_X10_here (l : Launch) (D : va_G) (ks : kS) (τ : Nat → Nat) (L : List Nat) (A : Nat → Prop) (N : State → Prop) (hN : cNk A N) (ψ : Int32) (f : Nat → va_E) (o0 : Nat) (t_o0 : ty τ L o0 8) : Met l yX10_here (Cond.code yX10_here cX10_here 1 (some .int) :: tC) ({ frames := 0, cells := 0, slots := 0, locals := 0 }) (va_Pc [.ref o0] (cB D ks τ L A N (ψ, f))) (va_Qi (fun r9 x9 => x9 = (ψ, f)) (cB D ks τ L A N) A) 0 0 A := by
  refine cMet (own := RX10) (by decide) rfl (Nat.le_of_ble_eq_true rfl) ?_
  intro p e s m below meth c ls C9 hml hr hlk V I hNs hl
  have hx := C9.1
  have hb := C9.2.1
  have hown := C9.2.2.1
  have hts := C9.2.2.2.1
  have hS : va_S A s.heap s.heap [] := va_S.rf
  have hl : lv_has ls 1 [(0, .ref o0)] := hl
  refine lv_aload_n hx hb dX10_here_0 rfl (lv_at hl 0 rfl) ?_
  obtain ⟨v1_0, v1_1, v1_3, v1_4, v1_5, hf1, t1_0, t1_4, hp1, h01, h11⟩ := op8 I t_o0
  refine cG C9 V t_o0.1 hf1 rfl tC_lay8 5 (by decide) tCf_X10_26 (Or.inl rfl) rfl dX10_here_1 ?_
  refine lv_if_lt (tgt := 42) hx hb dX10_here_4 (by decide) (fun c2 => ?_) (fun c2 => ?_)
  · refine lv_iconst (v := (-1)) hx hb dX10_here_42 (by decide) ?_
    exact cRetI C9 hr hlk hN hNs V I hS (rfl) dX10_here_43
  · refine lv_aload_n hx hb dX10_here_7 rfl (lv_at hl 0 rfl) ?_
    refine cG C9 V t_o0.1 hf1 rfl tC_lay8 5 (by decide) tCf_X10_26 (Or.inl rfl) rfl dX10_here_8 ?_
    refine lv_aload_n hx hb dX10_here_11 rfl (lv_at hl 0 rfl) ?_
    refine cG C9 V t_o0.1 hf1 rfl tC_lay8 2 (by decide) tCf_X10_23 (Or.inl rfl) rfl dX10_here_12 ?_
    refine lv_icmp_ge (tgt := 42) hx hb dX10_here_15 (by decide) (fun c3 => ?_) (fun c3 => ?_)
    · refine lv_iconst (v := (-1)) hx hb dX10_here_42 (by decide) ?_
      exact cRetI C9 hr hlk hN hNs V I hS (rfl) dX10_here_43
    · refine lv_aload_n hx hb dX10_here_18 rfl (lv_at hl 0 rfl) ?_
      refine cG C9 V t_o0.1 hf1 rfl tC_lay8 5 (by decide) tCf_X10_26 (Or.inl rfl) rfl dX10_here_19 ?_
      refine lv_aload_n hx hb dX10_here_22 rfl (lv_at hl 0 rfl) ?_
      refine cG C9 V t_o0.1 hf1 rfl tC_lay8 4 (by decide) tCf_X10_19 (Or.inl rfl) rfl dX10_here_23 ?_
      obtain ⟨g4, hf4⟩ := op11 I t1_4
      refine cAl (t0 := 0) (v := 1600) C9 V t1_4.1 hf4 rfl (by first | rfl | decide) dX10_here_26 ?_
      refine lv_icmp_ge (tgt := 42) hx hb dX10_here_27 (by decide) (fun c5 => ?_) (fun c5 => ?_)
      · refine lv_iconst (v := (-1)) hx hb dX10_here_42 (by decide) ?_
        exact cRetI C9 hr hlk hN hNs V I hS (rfl) dX10_here_43
      · refine lv_aload_n hx hb dX10_here_30 rfl (lv_at hl 0 rfl) ?_
        refine cG C9 V t_o0.1 hf1 rfl tC_lay8 4 (by decide) tCf_X10_19 (Or.inl rfl) rfl dX10_here_31 ?_
        refine lv_aload_n hx hb dX10_here_34 rfl (lv_at hl 0 rfl) ?_
        refine cG C9 V t_o0.1 hf1 rfl tC_lay8 5 (by decide) tCf_X10_26 (Or.inl rfl) rfl dX10_here_35 ?_
        refine cLb C9 V t1_4.1 hf4 (cvin (N := 1600) rfl (ci_le c2) (ci_lt c5)) dX10_here_38 ?_
        refine lv_topi (fun x6 ex6 => ?_)
        refine lv_goto (tgt := 43) hx hb dX10_here_39 (by decide) ?_
        exact cRetI C9 hr hlk hN hNs V I hS (rfl) dX10_here_43
set_option maxHeartbeats 200000 in
set_option maxRecDepth 100000 in
theorem c_X10_store (l : Launch) (D : va_G) (ks : kS) (τ : Nat → Nat) (L : List Nat) (A : Nat → Prop) (N : State → Prop) (hN : cNk A N) (ψ : Int32) (f : Nat → va_E) (o0 : Nat) (i1 : Int32) (i2 : Int32) (t_o0 : ty τ L o0 8) : Met l yX10_store (Cond.code yX10_store cX10_store 3 none :: tC) ({ frames := 0, cells := 0, slots := 0, locals := 0 }) (va_Pc [.ref o0, .int i1, .int i2] (cB D ks τ L A N (ψ, f))) (va_Qv (fun x9 => x9.1 = ψ ∧ tAt x9.2 o0 = tAt f o0) (cB D ks τ L A N) A) 0 0 A := by
  refine cMet (own := RX10) (by decide) rfl (Nat.le_of_ble_eq_true rfl) ?_
  intro p e s m below meth c ls C9 hml hr hlk V I hNs hl
  have hx := C9.1
  have hb := C9.2.1
  have hown := C9.2.2.1
  have hts := C9.2.2.2.1
  have hS : va_S A s.heap s.heap [] := va_S.rf
  have hl : lv_has ls 3 [(0, .ref o0), (1, .int i1), (2, .int i2)] := hl
  refine lv_iload_n hx hb dX10_store_0 rfl (lv_at hl 1 rfl) ?_
  refine lv_if_lt (tgt := 20) hx hb dX10_store_1 (by decide) (fun c1 => ?_) (fun c1 => ?_)
  · exact cRetV C9 hr hlk hN hNs V I hS (⟨rfl, by first | rfl | rw [tAt_e nope9, tAt_e nope9]⟩) dX10_store_20
  · refine lv_iload_n hx hb dX10_store_4 rfl (lv_at hl 1 rfl) ?_
    refine lv_aload_n hx hb dX10_store_5 rfl (lv_at hl 0 rfl) ?_
    obtain ⟨v2_0, v2_1, v2_3, v2_4, v2_5, hf2, t2_0, t2_4, hp2, h02, h12⟩ := op8 I t_o0
    refine cG C9 V t_o0.1 hf2 rfl tC_lay8 0 (by decide) tCf_X10_9 (Or.inl rfl) rfl dX10_store_6 ?_
    obtain ⟨g3, hf3⟩ := op12 I t2_0
    refine cAl (t0 := 1) (v := 240) C9 V t2_0.1 hf3 rfl (by first | rfl | decide) dX10_store_9 ?_
    refine lv_icmp_ge (tgt := 20) hx hb dX10_store_10 (by decide) (fun c4 => ?_) (fun c4 => ?_)
    · exact cRetV C9 hr hlk hN hNs V I hS (⟨rfl, by first | rfl | rw [tAt_e hf2, tAt_e hf2]⟩) dX10_store_20
    · refine lv_aload_n hx hb dX10_store_13 rfl (lv_at hl 0 rfl) ?_
      refine cG C9 V t_o0.1 hf2 rfl tC_lay8 0 (by decide) tCf_X10_9 (Or.inl rfl) rfl dX10_store_14 ?_
      refine lv_iload_n hx hb dX10_store_17 rfl (lv_at hl 1 rfl) ?_
      refine lv_iload_n hx hb dX10_store_18 rfl (lv_at hl 2 rfl) ?_
      refine cSi C9 V hS t2_0.1 hf3 (cvin (N := 240) rfl (ci_le c1) (ci_lt c4)) dX10_store_19 (fun f5 H locs ef5 V hS => ?_)
      obtain ⟨g6, eg6⟩ : ∃ z, z = upd g3 (Int32.toNatClampNeg i1) (i2) := ⟨_, rfl⟩
      rw [← eg6] at ef5
      have hf7 := up_s ef5
      have I := cI_up I t2_0.2 ef5 (mk12)
      have hf8 := up_n ef5 t2_0.2 t_o0.2 (by first | decide | omega) hf2
      exact cRetV C9 hr hlk hN hNs V I hS (⟨rfl, by first | rfl | rw [tAt_e hf8, tAt_e hf2]⟩) dX10_store_20
set_option maxHeartbeats 200000 in
set_option maxRecDepth 100000 in
theorem c_X10_broken (l : Launch) (D : va_G) (ks : kS) (τ : Nat → Nat) (L : List Nat) (A : Nat → Prop) (N : State → Prop) (hN : cNk A N) (ψ : Int32) (f : Nat → va_E) (o0 : Nat) (i1 : Int32) (t_o0 : ty τ L o0 8) : Met l yX10_broken (Cond.code yX10_broken cX10_broken 2 (some .boolean) :: tC) ({ frames := 0, cells := 0, slots := 0, locals := 0 }) (va_Pc [.ref o0, .int i1] (cB D ks τ L A N (ψ, f))) (va_Qi (fun r9 x9 => x9.1 = ψ ∧ tAt x9.2 o0 = tAt f o0) (cB D ks τ L A N) A) 0 0 A := by
  refine cMet (own := RX10) (by decide) rfl (Nat.le_of_ble_eq_true rfl) ?_
  intro p e s m below meth c ls C9 hml hr hlk V I hNs hl
  have hx := C9.1
  have hb := C9.2.1
  have hown := C9.2.2.1
  have hts := C9.2.2.2.1
  have hS : va_S A s.heap s.heap [] := va_S.rf
  have hl : lv_has ls 2 [(0, .ref o0), (1, .int i1)] := hl
  refine lv_aload_n hx hb dX10_broken_0 rfl (lv_at hl 0 rfl) ?_
  refine lv_iload_n hx hb dX10_broken_1 rfl (lv_at hl 1 rfl) ?_
  obtain ⟨v1_0, v1_1, v1_3, v1_4, v1_5, hf1, t1_0, t1_4, hp1, h01, h11⟩ := op8 I t_o0
  refine cP (v := .int i1) (ty := .int) C9 V hS t_o0.1 hf1 rfl tC_lay8 tyX10 tyX10_ok nmX10 3 (by decide) tCf_X10_15 rfl rfl (by decide +kernel) rfl rfl (Nat.le_of_ble_eq_true rfl) dX10_broken_2 (fun f2 H locs ef2 V hS => ?_)
  have hf3 : f2 o0 = .inr (8, [.ref v1_0, .int v1_1, .int ψ, .int i1, .ref v1_4, .int v1_5]) := up_s ef2
  have I := cI_up I t_o0.2 ef2 (mk8 t1_0 t1_4 hp1 h01 h11)
  refine lv_iconst (v := 0) hx hb dX10_broken_5 (by decide) ?_
  exact cRetZ C9 hr hlk hN hNs V I hS (by clear V hS hl C9 hts hown hx hb hml hr hlk; first | rfl | decide | (subst_vars; rfl)) (⟨rfl, by first | rfl | rw [tAt_e hf3, tAt_e hf1]⟩) dX10_broken_6
set_option maxHeartbeats 200000 in
set_option maxRecDepth 100000 in
theorem c_X10_skipBlanks (l : Launch) (D : va_G) (ks : kS) (τ : Nat → Nat) (L : List Nat) (A : Nat → Prop) (N : State → Prop) (hN : cNk A N) (ψ : Int32) (f : Nat → va_E) (o0 : Nat) (t_o0 : ty τ L o0 8) (h1 : tAt f o0 ≤ ψ) : Met l yX10_skipBlanks (Cond.code yX10_skipBlanks cX10_skipBlanks 1 none :: tC) ({ frames := 1, cells := 0, slots := 0, locals := 20 }) (va_Pc [.ref o0] (cB D ks τ L A N (ψ, f))) (va_Qv (fun x9 => x9.1 = ψ ∧ tAt f o0 ≤ tAt x9.2 o0 ∧ tAt x9.2 o0 ≤ ψ) (cB D ks τ L A N) A) 0 0 A := by
  refine cMet (own := RX10) (by decide) rfl (Nat.le_of_ble_eq_true rfl) ?_
  intro p e s m below meth c ls C9 hml hr hlk V I hNs hl
  have hx := C9.1
  have hb := C9.2.1
  have hown := C9.2.2.1
  have hts := C9.2.2.2.1
  have hS : va_S A s.heap s.heap [] := va_S.rf
  have hl : lv_has ls 1 [(0, .ref o0)] := hl
  have loop0 : ∀ (N9 : Nat)  (Gf0 : Nat → va_E) (H : Heap) (locs : List Loc) (ls : Array Slot), cI ks τ L ψ Gf0 → (tAt f o0 ≤ tAt Gf0 o0 ∧ tAt Gf0 o0 ≤ ψ) → ((ψ - tAt Gf0 o0).toInt.toNat) < N9 → cV D L Gf0 A H → va_S A s.heap H locs → lv_has ls 1 [(0, .ref o0)] → W p l e ({ frames := 1, cells := 0, slots := 0, locals := 20 } : Room) s m ([.ref o0] : List Value).toArray below meth c H locs 0 0 (MQ below (va_Qv (fun x9 => x9.1 = ψ ∧ tAt f o0 ≤ tAt x9.2 o0 ∧ tAt x9.2 o0 ≤ ψ) (cB D ks τ L A N) A) ([.ref o0] : List Value).toArray s 0 0 A) (F0 m 0 ls []) := by
    intro N9
    induction N9 with
    | zero => intro  Gf0 H locs ls I hi0 hm0; exact absurd hm0 (Nat.not_lt_zero _)
    | succ N9 ih0 =>
      intro  Gf0 H locs ls I hi0 hm0 V hS hl
      refine lv_aload_n hx hb dX10_skipBlanks_0 rfl (lv_at hl 0 rfl) ?_
      obtain ⟨v1_0, v1_1, v1_3, v1_4, v1_5, hf1, t1_0, t1_4, hp1, h01, h11⟩ := op8 I t_o0
      refine cG C9 V t_o0.1 hf1 rfl tC_lay8 5 (by decide) tCf_X10_26 (Or.inl rfl) rfl dX10_skipBlanks_1 ?_
      refine lv_aload_n hx hb dX10_skipBlanks_4 rfl (lv_at hl 0 rfl) ?_
      refine cG C9 V t_o0.1 hf1 rfl tC_lay8 2 (by decide) tCf_X10_23 (Or.inl rfl) rfl dX10_skipBlanks_5 ?_
      refine lv_icmp_ge (tgt := 33) hx hb dX10_skipBlanks_8 (by decide) (fun c2 => ?_) (fun c2 => ?_)
      · exact cRetV C9 hr hlk hN hNs V I hS (⟨rfl, hi0⟩) dX10_skipBlanks_33
      · refine lv_aload_n hx hb dX10_skipBlanks_11 rfl (lv_at hl 0 rfl) ?_
        refine cGoI (cRunV (As := []) (rest := []) C9 hml hN hNs V I hS t_o0.1 hf1 rfl (c_X10_here l D ks τ L A N hN ψ Gf0 o0 t_o0 ) gC_X10_39 okC_X10_here ⟨rfl, rfl, Nat.le_of_ble_eq_true rfl, Nat.le_of_ble_eq_true rfl⟩ hl.1 rfl (Nat.le_of_ble_eq_true rfl) dX10_skipBlanks_12 ⟨Nat.zero_le _, Nat.zero_le _⟩) hS (fun r5 p4 f3 H locs hqf3 V I hS => ?_)
        have V : cV D L Gf0 A H := by rw [show f3 = Gf0 from congrArg Prod.snd hqf3] at V; exact V
        have I : cI ks τ L ψ Gf0 := by rw [show f3 = Gf0 from congrArg Prod.snd hqf3, show p4 = ψ from congrArg Prod.fst hqf3] at I; exact I
        refine lv_bipush (v := 32) hx hb dX10_skipBlanks_15 (by decide) ?_
        refine lv_icmp_ne (tgt := 33) hx hb dX10_skipBlanks_17 (by decide) (fun c6 => ?_) (fun c6 => ?_)
        · exact cRetV C9 hr hlk hN hNs V I hS (⟨rfl, hi0⟩) dX10_skipBlanks_33
        · refine lv_aload_n hx hb dX10_skipBlanks_20 rfl (lv_at hl 0 rfl) ?_
          refine lv_dup hx hb dX10_skipBlanks_21 rfl ?_
          refine cG C9 V t_o0.1 hf1 rfl tC_lay8 5 (by decide) tCf_X10_26 (Or.inl rfl) rfl dX10_skipBlanks_22 ?_
          refine lv_iconst (v := 1) hx hb dX10_skipBlanks_25 (by decide) ?_
          refine lv_iadd hx hb dX10_skipBlanks_26 ?_
          refine lv_topi (fun x7 ex7 => ?_)
          refine cP (v := .int x7) (ty := .int) C9 V hS t_o0.1 hf1 rfl tC_lay8 tyX10 tyX10_ok nmX10 5 (by decide) tCf_X10_26 rfl rfl (by decide +kernel) rfl rfl (Nat.le_of_ble_eq_true rfl) dX10_skipBlanks_27 (fun f8 H locs ef8 V hS => ?_)
          have hf9 : f8 o0 = .inr (8, [.ref v1_0, .int v1_1, .int ψ, .int v1_3, .ref v1_4, .int x7]) := up_s ef8
          have hh10 := sb_a ex7 h01 (ci_lt c2) hp1.2
          have h010 := hh10.1
          have h110 := hh10.2
          have hp10 := hp1
          have I := cI_up I t_o0.2 ef8 (mk8 t1_0 t1_4 hp10 h010 h110)
          refine lv_goto (tgt := 0) hx hb dX10_skipBlanks_30 (by decide) ?_
          exact ih0  f8 _ _ _ I (by clear V hS hl C9 hts hown hx hb hml hr hlk; rw [tAt_e hf9]; have z9 := hi0; rw [tAt_e hf1] at z9; exact sb_i z9 ex7 (ci_lt c2)) (show _ < _ from by have z9 := hm0; rw [tAt_e hf1] at z9; rw [tAt_e hf9]; exact cmsd z9 (sb_m ex7 (ci_lt c2) h010 hp10).1 (sb_m ex7 (ci_lt c2) h010 hp10).2) V hS (lv_sub hl [0] rfl)
  exact loop0 _  f _ _ _ I (⟨Int32.le_refl _, h1⟩) (Nat.lt_succ_self _) V hS (lv_sub hl [0] rfl)
end
section
theorem ap_s {x y a P P1 : Int32} (h : ((x = 24 ∧ P = a) ∨ (x = 16 ∧ P = a + 1) ∨ (x = 8 ∧ P = a + 2) ∨ (x = 0 ∧ P = a + 3) ∨ (x = -8 ∧ P = a + 4))) (e : y = x + (-8)) (e1 : P1 = P + 1) (h0 : 0 ≤ x) : ((y = 24 ∧ P1 = a) ∨ (y = 16 ∧ P1 = a + 1) ∨ (y = 8 ∧ P1 = a + 2) ∨ (y = 0 ∧ P1 = a + 3) ∨ (y = -8 ∧ P1 = a + 4)) := by
  subst e e1
  rcases h with ⟨q, r⟩ | ⟨q, r⟩ | ⟨q, r⟩ | ⟨q, r⟩ | ⟨q, r⟩ <;> subst q <;> subst r
  · exact Or.inr (Or.inl ⟨by decide, rfl⟩)
  · exact Or.inr (Or.inr (Or.inl ⟨by decide, by rw [Int32.add_assoc]; rfl⟩))
  · exact Or.inr (Or.inr (Or.inr (Or.inl ⟨by decide, by rw [Int32.add_assoc]; rfl⟩)))
  · exact Or.inr (Or.inr (Or.inr (Or.inr ⟨by decide, by rw [Int32.add_assoc]; rfl⟩)))
  · exact absurd h0 (by decide)
theorem ap_m {x y a P : Int32} (h : ((x = 24 ∧ P = a) ∨ (x = 16 ∧ P = a + 1) ∨ (x = 8 ∧ P = a + 2) ∨ (x = 0 ∧ P = a + 3) ∨ (x = -8 ∧ P = a + 4))) (e : y = x + (-8)) (h0 : 0 ≤ x) : 0 ≤ y + 8 ∧ y + 8 < x + 8 := by
  subst e
  rcases h with ⟨q, -⟩ | ⟨q, -⟩ | ⟨q, -⟩ | ⟨q, -⟩ | ⟨q, -⟩ <;> subst q <;> first | decide | exact absurd h0 (by decide)
theorem ap_l {x P : Int32} (e : x = P + 1) (h : 0 ≤ P ∧ P ≤ 1600) (hl : P < 1600) : 0 ≤ x ∧ x ≤ 1600 := by grind
theorem ap_e {x a P : Int32} (h : ((x = 24 ∧ P = a) ∨ (x = 16 ∧ P = a + 1) ∨ (x = 8 ∧ P = a + 2) ∨ (x = 0 ∧ P = a + 3) ∨ (x = -8 ∧ P = a + 4))) (h0 : x < 0) : P = a + 4 := by
  rcases h with ⟨q, r⟩ | ⟨q, r⟩ | ⟨q, r⟩ | ⟨q, r⟩ | ⟨q, r⟩
  · subst q; exact absurd h0 (by decide)
  · subst q; exact absurd h0 (by decide)
  · subst q; exact absurd h0 (by decide)
  · subst q; exact absurd h0 (by decide)
  · exact r
theorem ap_x {x a P : Int32} (h : ((x = 24 ∧ P = a) ∨ (x = 16 ∧ P = a + 1) ∨ (x = 8 ∧ P = a + 2) ∨ (x = 0 ∧ P = a + 3) ∨ (x = -8 ∧ P = a + 4))) (ha : 0 ≤ a ∧ a ≤ 1596) (h0 : 0 ≤ x) (hl : 1600 ≤ P) : False := by
  rcases h with ⟨q, r⟩ | ⟨q, r⟩ | ⟨q, r⟩ | ⟨q, r⟩ | ⟨q, r⟩ <;> subst r
  · clear h0 q; grind
  · clear h0 q; grind
  · clear h0 q; grind
  · clear h0 q; grind
  · subst q; exact absurd h0 (by decide)

set_option maxHeartbeats 200000 in
set_option maxRecDepth 100000 in
theorem c_X10_append (l : Launch) (D : va_G) (ks : kS) (τ : Nat → Nat) (L : List Nat) (A : Nat → Prop) (N : State → Prop) (hN : cNk A N) (ψ : Int32) (f : Nat → va_E) (o0 : Nat) (i1 : Int32) (t_o0 : ty τ L o0 8) (hu : ∀ b, b ∈ L → τ b = 8 → b = o0) (h1 : 0 ≤ ψ ∧ ψ ≤ 1596) : Met l yX10_append (Cond.code yX10_append cX10_append 3 none :: tC) ({ frames := 0, cells := 0, slots := 0, locals := 0 }) (va_Pc [.ref o0, .int i1] (cB D ks τ L A N (ψ, f))) (va_Qv (fun x9 => x9.1 = ψ + 4) (cB D ks τ L A N) A) 0 0 A := by
  refine cMet (own := RX10) (by decide) rfl (Nat.le_of_ble_eq_true rfl) ?_
  intro p e s m below meth c ls C9 hml hr hlk V I hNs hl
  have hx := C9.1
  have hb := C9.2.1
  have hown := C9.2.2.1
  have hts := C9.2.2.2.1
  have hS : va_S A s.heap s.heap [] := va_S.rf
  have hl : lv_has ls 3 [(0, .ref o0), (1, .int i1)] := hl
  refine lv_bipush (v := 24) hx hb dX10_append_0 (by decide) ?_
  refine lv_topi (fun x1 ex1 => ?_)
  refine lv_istore_n (lv' := [(2, .int x1), (0, .ref o0), (1, .int i1)]) hx hb dX10_append_2 rfl hl (by decide) rfl (fun ls hl => ?_)
  have loop3 : ∀ (N9 : Nat) (w3_2 : Int32) (P9_3 : Int32) (Gf3 : Nat → va_E) (H : Heap) (locs : List Loc) (ls : Array Slot), cI ks τ L P9_3 Gf3 → (((w3_2 = 24 ∧ P9_3 = ψ) ∨ (w3_2 = 16 ∧ P9_3 = ψ + 1) ∨ (w3_2 = 8 ∧ P9_3 = ψ + 2) ∨ (w3_2 = 0 ∧ P9_3 = ψ + 3) ∨ (w3_2 = -8 ∧ P9_3 = ψ + 4))) → ((w3_2 + 8).toInt.toNat) < N9 → cV D L Gf3 A H → va_S A s.heap H locs → lv_has ls 3 [(0, .ref o0), (1, .int i1), (2, .int w3_2)] → W p l e ({ frames := 0, cells := 0, slots := 0, locals := 0 } : Room) s m ([.ref o0, .int i1] : List Value).toArray below meth c H locs 0 0 (MQ below (va_Qv (fun x9 => x9.1 = ψ + 4) (cB D ks τ L A N) A) ([.ref o0, .int i1] : List Value).toArray s 0 0 A) (F0 m 3 ls []) := by
    intro N9
    induction N9 with
    | zero => intro w3_2 P9_3 Gf3 H locs ls I hi3 hm3; exact absurd hm3 (Nat.not_lt_zero _)
    | succ N9 ih3 =>
      intro w3_2 P9_3 Gf3 H locs ls I hi3 hm3 V hS hl
      refine lv_iload_n hx hb dX10_append_3 rfl (lv_at hl 2 rfl) ?_
      refine lv_if_lt (tgt := 48) hx hb dX10_append_4 (by decide) (fun c2 => ?_) (fun c2 => ?_)
      · exact cRetV C9 hr hlk hN hNs V I hS (by clear V hS hl C9 hts hown hx hb hml hr hlk; first | exact ap_e hi3 c2 | exact (ap_x hi3 h1 (ci_le c2) nope9).elim) dX10_append_48
      · refine lv_aload_n hx hb dX10_append_7 rfl (lv_at hl 0 rfl) ?_
        obtain ⟨v3_0, v3_1, v3_3, v3_4, v3_5, hf3, t3_0, t3_4, hp3, h03, h13⟩ := op8 I t_o0
        refine cG C9 V t_o0.1 hf3 rfl tC_lay8 2 (by decide) tCf_X10_23 (Or.inl rfl) rfl dX10_append_8 ?_
        refine lv_aload_n hx hb dX10_append_11 rfl (lv_at hl 0 rfl) ?_
        refine cG C9 V t_o0.1 hf3 rfl tC_lay8 4 (by decide) tCf_X10_19 (Or.inl rfl) rfl dX10_append_12 ?_
        obtain ⟨g4, hf4⟩ := op11 I t3_4
        refine cAl (t0 := 0) (v := 1600) C9 V t3_4.1 hf4 rfl (by first | rfl | decide) dX10_append_15 ?_
        refine lv_icmp_ge (tgt := 48) hx hb dX10_append_16 (by decide) (fun c5 => ?_) (fun c5 => ?_)
        · exact cRetV C9 hr hlk hN hNs V I hS (by clear V hS hl C9 hts hown hx hb hml hr hlk; first | exact ap_e hi3 c2 | exact (ap_x hi3 h1 (ci_le c2) c5).elim) dX10_append_48
        · refine lv_aload_n hx hb dX10_append_19 rfl (lv_at hl 0 rfl) ?_
          refine cG C9 V t_o0.1 hf3 rfl tC_lay8 4 (by decide) tCf_X10_19 (Or.inl rfl) rfl dX10_append_20 ?_
          refine lv_aload_n hx hb dX10_append_23 rfl (lv_at hl 0 rfl) ?_
          refine cG C9 V t_o0.1 hf3 rfl tC_lay8 2 (by decide) tCf_X10_23 (Or.inl rfl) rfl dX10_append_24 ?_
          refine lv_iload_n hx hb dX10_append_27 rfl (lv_at hl 1 rfl) ?_
          refine lv_iload_n hx hb dX10_append_28 rfl (lv_at hl 2 rfl) ?_
          refine lv_iushr hx hb dX10_append_29 rfl ?_
          refine lv_topi (fun x6 ex6 => ?_)
          refine lv_i2b hx hb dX10_append_30 rfl ?_
          refine lv_topi (fun x7 ex7 => ?_)
          refine cSb C9 V hS t3_4.1 hf4 (cvin (N := 1600) rfl (hp3.1) (ci_lt c5)) dX10_append_31 (fun f8 H locs ef8 V hS => ?_)
          obtain ⟨g9, eg9⟩ : ∃ z, z = upd g4 (Int32.toNatClampNeg P9_3) (vp_nar .byte x7) := ⟨_, rfl⟩
          rw [← eg9] at ef8
          have hf10 := up_s ef8
          have I := cI_up I t3_4.2 ef8 (mk11)
          have hf11 := up_n ef8 t3_4.2 t_o0.2 (by first | decide | omega) hf3
          refine lv_aload_n hx hb dX10_append_32 rfl (lv_at hl 0 rfl) ?_
          refine lv_dup hx hb dX10_append_33 rfl ?_
          refine cG C9 V t_o0.1 hf11 rfl tC_lay8 2 (by decide) tCf_X10_23 (Or.inl rfl) rfl dX10_append_34 ?_
          refine lv_iconst (v := 1) hx hb dX10_append_37 (by decide) ?_
          refine lv_iadd hx hb dX10_append_38 ?_
          refine lv_topi (fun x12 ex12 => ?_)
          refine cP (v := .int x12) (ty := .int) C9 V hS t_o0.1 hf11 rfl tC_lay8 tyX10 tyX10_ok nmX10 2 (by decide) tCf_X10_23 rfl rfl (by decide +kernel) rfl rfl (Nat.le_of_ble_eq_true rfl) dX10_append_39 (fun f13 H locs ef13 V hS => ?_)
          have hf14 : f13 o0 = .inr (8, [.ref v3_0, .int v3_1, .int x12, .int v3_3, .ref v3_4, .int v3_5]) := up_s ef13
          have hp9 := ap_l ex12 hp3 (ci_lt c5)
          have I := cI_len I hu t_o0.2 ef13 (mk8 t3_0 t3_4 hp9 h03 h13)
          have hp15 := hp9
          have h015 := h03
          have h115 := h13
          have hf16 := up_n ef13 t_o0.2 t3_4.2 (by first | decide | omega) hf10
          obtain ⟨x17, ex17⟩ : ∃ y : Int32, y = w3_2 + (-8) := ⟨_, rfl⟩
          refine lv_iinc (v := x17) (lv' := [(2, .int x17), (0, .ref o0), (1, .int i1)]) hx hb dX10_append_42 hl (k := 2) rfl (by rw [ex17]; rfl) (by decide) rfl (fun ls hl => ?_)
          refine lv_goto (tgt := 3) hx hb dX10_append_45 (by decide) ?_
          exact ih3 x17 x12 f13 _ _ _ I (ap_s hi3 ex17 ex12 (ci_le c2)) (cmsd hm3 (ap_m hi3 ex17 (ci_le c2)).1 (ap_m hi3 ex17 (ci_le c2)).2) V hS (lv_sub hl [1, 2, 0] rfl)
  exact loop3 _ x1 ψ f _ _ _ I (by clear V hS hl C9 hts hown hx hb hml hr hlk; subst_vars; exact Or.inl ⟨rfl, rfl⟩) (Nat.lt_succ_self _) V hS (lv_sub hl [1, 2, 0] rfl)
end
